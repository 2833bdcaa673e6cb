/-! behind both constructors the two halves of the memory are tied -/
theorem cS_mv {E E' : gEnv} {M w : gMem} {b b' : Nat} (h : cS E M b b') (hs : ∀ c, c < 60 → gSh E' c = gSh E c ∧ gLn E' c = gLn E c) (h2 : ∀ c k, c < 60 → w.2 c k = M.2 c k) : cS E' w b b' := by
  obtain ⟨⟨s1, s2, l2, s3, s4, l4, s5, s6, l6, sc⟩, ⟨r1, r2, r3, r4, r5, r6, r7⟩, c3, c4, c5, c6, c7⟩ := h
  have hbr : ∀ b, b ≤ 40 → cBr E M b → cBr E' w b := by
    intro b hb h
    obtain ⟨⟨a1, a2, a3, a4, a5, a6, a7⟩, a8, a9⟩ := h
    refine ⟨⟨(hs _ (by omega)).1.trans a1, (hs _ (by omega)).1.trans a2, (hs _ (by omega)).2.trans a3, (hs _ (by omega)).1.trans a4, (hs _ (by omega)).2.trans a5, (h2 _ _ (by omega)).trans a6, (h2 _ _ (by omega)).trans a7⟩, fun i hi => ⟨(hs _ (by omega)).1.trans (a8 i hi).1, (h2 _ _ (by omega)).trans (a8 i hi).2⟩, fun i hi => ⟨(hs _ (by omega)).1.trans (a9 i hi).1, (h2 _ _ (by omega)).trans (a9 i hi).2⟩⟩
  refine ⟨⟨(hs 1 (by decide)).1.trans s1, (hs 2 (by decide)).1.trans s2, (hs 2 (by decide)).2.trans l2, (hs 3 (by decide)).1.trans s3, (hs 4 (by decide)).1.trans s4, (hs 4 (by decide)).2.trans l4, (hs 5 (by decide)).1.trans s5, (hs 6 (by decide)).1.trans s6, (hs 6 (by decide)).2.trans l6, fun c hc => (hs _ (by omega)).1.trans (sc c hc)⟩, ⟨(h2 _ _ (by decide)).trans r1, (h2 _ _ (by decide)).trans r2, (h2 _ _ (by decide)).trans r3, (h2 _ _ (by decide)).trans r4, (h2 _ _ (by decide)).trans r5, (h2 _ _ (by decide)).trans r6, (h2 _ _ (by decide)).trans r7⟩, hbr b (by omega) c3, hbr b' (by omega) c4, c5, fun c hc => ?_, fun c d hc hd e => ?_⟩
  · rw [h2 6 c (by decide)]; exact c6 c hc
  · rw [h2 6 c (by decide), h2 6 d (by decide)] at e; exact c7 c d hc hd e
theorem rel_first {E1 E3 : gEnv} {w1 w w0 : gMem} {s : aB} (hS : cS E1 w1 40 20) (hb : bRep w1 40 s) (hok : aOk s) (hE : aE s (sA 6 2)) (x11 : w1.1 1 1 = 0) (x15 : w1.1 1 5 = 0) (x51 : w1.1 5 1 = 0) (x4 : ∀ i, w1.1 4 i < 100)
    (hs : ∀ c, c < 60 → gSh E3 c = gSh E1 c ∧ gLn E3 c = gLn E1 c) (h2 : ∀ c k, c < 60 → w.2 c k = w1.2 c k) (hR : mR E3 w) (hw : w = mTk w0) (hm : mRep w0 (sA 6 2)) (h1 : ∀ c k, c < 60 → w0.1 c k = w1.1 c k) (y1 : w0.1 60 1 = 0) (y8 : ∀ i, w0.1 68 i = 0) : rel E3 w 40 20 := by
  have a0 : ∀ a k, a < 60 → w.1 a k = w1.1 a k := fun a k ha => by
    rw [hw, mTk_s (by omega) (by omega) (by omega) (by omega), h1 a k ha]
  obtain ⟨n1, n2, n3, n4, n5, n6, n7, n8⟩ := mTk_n (w0 := w0)
  rw [← hw] at n1 n2 n3 n4 n5 n6 n7 n8
  obtain ⟨m1, m2, m3, m4, m5, m6⟩ := hm
  obtain ⟨e1, e2, e3, e4, e5⟩ := hE
  have hs1 := hok.1
  have hs2 := hok.2.1
  have hb' : bRep w 40 s := by
    obtain ⟨h1, h2, h3, h4, h5, h6, h7⟩ := hb
    exact ⟨by rw [a0 _ _ (by omega)]; exact h1, by rw [a0 _ _ (by omega)]; exact h2, by rw [a0 _ _ (by omega)]; exact h3, by rw [a0 _ _ (by omega)]; exact h4, fun i w hi hw => by rw [a0 _ _ (by omega)]; exact h5 i w hi hw, fun i hi => by rw [a0 _ _ (by omega)]; exact h6 i hi, fun i w hi hw => by rw [a0 _ _ (by omega)]; exact h7 i w hi hw⟩
  obtain ⟨p1, p2, p3, p4, p5, p6, p7⟩ := hb'
  have w15 : w.1 1 5 = 0 := by rw [a0 _ _ (by decide)]; exact x15
  have w51 : w.1 5 1 = 0 := by rw [a0 _ _ (by decide)]; exact x51
  have w11 : w.1 1 1 = 0 := by rw [a0 _ _ (by decide)]; exact x11
  have e6 : s.1.1 = 6 := e1
  have e7 : s.2.1.1 = 2 := e3
  have e8 : s.2.2 = (2, 48) := e5
  refine ⟨cS_mv hS hs h2, hR, cO_rep ⟨p1, p2, p3, p4, p5, p6, p7⟩ hok, ?_, ?_, ⟨?_, ?_, ?_, ?_, ?_, ?_⟩, ⟨?_, ?_⟩, ⟨?_, ?_, ?_, ?_, ?_⟩, ⟨?_, ?_, ?_⟩⟩
  · rw [p1]; omega
  · rw [w15]; omega
  · rw [n1, m1, p1, e6]; rfl
  · rw [n2, m2, p2, e7]; rfl
  · rw [n3, m3, p3, e8]; rfl
  · rw [n4, m4, p4, e8]; rfl
  · intro i k hi hk
    rw [p1] at hi
    have hi6 : i < 6 := by omega
    rw [n7 _ (by omega), m5 i k hi6 hk, p5 i k hi hk]; exact (e2 i hi k hk).symm
  · intro i k hi hk
    rw [p2] at hi
    have hi2 : i < 2 := by omega
    rw [n8 _ (by omega), m6 i k hi2 hk, p7 i k hi hk]; exact (e4 i hi k hk).symm
  · rw [n6 10 (by omega), w15]
  · intro i hi
    rw [p1] at hi
    rw [n6 i (by omega), p6 i hi]
  · rw [hw, mTk_s (by omega) (by omega) (by omega) (by omega), y1, ← hw, w11]
  · rw [w11]; omega
  · intro p hp
    rw [w11] at hp; omega
  · intro i; rw [a0 4 i (by omega)]; exact x4 i
  · intro i; rw [hw, mTk_s (by omega) (by omega) (by omega) (by omega), y8]; decide
  · rw [n5, w51]
  · rw [w51]; omega
  · intro c hc; rw [w51] at hc; omega
