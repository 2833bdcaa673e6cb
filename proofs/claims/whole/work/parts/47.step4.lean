section pr4
variable {l : Launch} {E : gEnv} {M : gMem} {b b' : Nat}
/-- what the reading leaves as it was, for the one that reads behind -/
theorem rd_1 {u : gMem} (hr : rel E M b b') (hf : fRd M u b') : mR E u ∧ (∀ a k, 60 ≤ a → u.1 a k = M.1 a k) ∧ u.1 60 1 ≤ 200 ∧ (∀ p, p < u.1 60 1 → u.1 61 p ≤ 126) ∧ ∀ i, u.1 68 i < 100 := by
  have hbb := hr.1.2.2.2.2.1
  obtain ⟨-, hR, -, -, -, -, -, ⟨x1, x2, x3, x4, x5⟩, -⟩ := hr
  have e : ∀ a k, 60 ≤ a → u.1 a k = M.1 a k := fun a k ha => hf.1 a k (by omega) (by omega)
  refine ⟨mR_2 hR hf.2, e, by rw [e 60 1 (by omega), x1]; exact x2, fun p hp => ?_, fun i => by rw [e 68 i (by omega)]; exact x5 i⟩
  rw [e 60 1 (by omega), x1] at hp
  rw [e 61 p (by omega), (x3 p hp).1]; exact (x3 p hp).2
theorem rd_2 {u w : gMem} (hr : rel E M b b') (hf : fRd M u b') (h4 : ∀ i, u.1 4 i < 100) (hg : fRm u w) (h8 : ∀ i, w.1 68 i < 100) : rel E w b b' := by
  have hbb := hr.1.2.2.2.2.1
  refine rel_ag hr (by rw [hg.2, hf.2]) (fun a k hi => ?_) (fun i => ?_) h8
  · unfold irr at hi
    rw [hg.1 a k (by omega) (by omega) (by omega) (by omega), hf.1 a k (by omega) (by omega)]
  · rw [hg.1 4 i (by omega) (by omega) (by omega) (by omega)]; exact h4 i
theorem rd_3 {u : gMem} (hr : rel E M b b') (hf : fRd M u b') : (rP (M.1 2) (M.1 1 1) (M.1 1 1) 0 0 (M.1 4) s00).1 = (rMt (u.1 61) (u.1 60 1) 201 0 (u.1 68) s00).1 ∧ aE (rP (M.1 2) (M.1 1 1) (M.1 1 1) 0 0 (M.1 4) s00).2 (rMt (u.1 61) (u.1 60 1) 201 0 (u.1 68) s00).2 := by
  obtain ⟨-, e, -⟩ := rd_1 hr hf
  obtain ⟨-, -, -, -, -, -, -, ⟨x1, x2, x3, x4, x5⟩, -⟩ := hr
  rw [e 60 1 (by omega), x1]
  exact read_same x2 (fun p hp => by rw [e 61 p (by omega), (x3 p hp).1]) _ _
theorem pr_fault (hr : rel E M b b') : gMet l E mX6_fault 5 [.ref (gAd E 1)] M (pEnd l E mX7_fault 5 [.ref (gAd E 60)]) := by
  have hx := hr.2.2.2.2.2.2.2.1
  refine gMet_mono (kX6_fault l E M b b' hr.1 hx.2.1 (fun p hp => (hx.2.2.1 p hp).2) hx.2.2.2.1) (fun v u q => ?_)
  obtain ⟨hf, h4, hv1⟩ := q
  obtain ⟨m1, m2, m3, m4, m5⟩ := rd_1 hr hf
  refine ⟨_, hv1, gMet_mono (kX7_fault l E u m1 m3 m4 m5) (fun v' w q' => ?_)⟩
  obtain ⟨hg, h8, hv2⟩ := q'
  exact ⟨by rw [hv2, (rd_3 hr hf).1], b, b', rd_2 hr hf h4 hg h8⟩
theorem mTk_s {w0 : gMem} {a k : Nat} (h64 : a ≠ 64) (h65 : a ≠ 65) (h66 : a ≠ 66) (h60 : ¬ (a = 60 ∧ (k = 11 ∨ k = 12 ∨ k = 13 ∨ k = 14 ∨ k = 17))) : (mTk w0).1 a k = w0.1 a k := by
  simp only [mTk, gU, gRow]
  rw [if_neg (by omega), if_neg h66, if_neg (by omega), if_neg (by omega), if_neg (by omega), if_neg (by omega), if_neg h65, if_neg h64]
theorem mTk_n {w0 : gMem} : (mTk w0).1 60 11 = w0.1 60 5 ∧ (mTk w0).1 60 12 = w0.1 60 6 ∧ (mTk w0).1 60 13 = w0.1 60 7 ∧ (mTk w0).1 60 14 = w0.1 60 8 ∧ (mTk w0).1 60 17 = 0 ∧ (∀ k, k < 11 → (mTk w0).1 66 k = 0) ∧ (∀ k, k < 70 → (mTk w0).1 64 k = w0.1 62 k) ∧ ∀ k, k < 12 → (mTk w0).1 65 k = w0.1 63 k := by
  refine ⟨?_, ?_, ?_, ?_, ?_, fun k hk => ?_, fun k hk => ?_, fun k hk => ?_⟩ <;> simp [mTk, gU, gRow, fCp, zer]
  · intro h; omega
  · intro h; omega
  · intro h; omega
theorem rel_lay {u0 u w0 w : gMem} {s s' : aB} (hr : rel E M b b') (hf : fRd M u0 b') (h4 : ∀ i, u0.1 4 i < 100) (hb : bRep u0 b' s) (hs : aOk s) (hn : s.1.1 ≠ 0) (hu : u = gU (gU (gUr (gUr u0 1 3 b') 1 4 b) 1 5 0) 5 1 0) (hg : fRm u w0) (h8 : ∀ i, w0.1 68 i < 100) (hm : mRep w0 s') (hE : aE s s') (hw : w = mTk w0) : rel E w b' b := by
  obtain ⟨hS, hR, hO, -, hsg, -, -, ⟨x1, x2, x3, x4, x5⟩, -⟩ := hr
  have hbb := hS.2.2.2.2.1
  have a0 : ∀ a k, a < 60 → ¬ (a = 1 ∧ k = 5) → ¬ (a = 5 ∧ k = 1) → w.1 a k = u0.1 a k := fun a k ha h1 h5 => by
    rw [hw, mTk_s (by omega) (by omega) (by omega) (by omega), hg.1 a k (by omega) (by omega) (by omega) (by omega), hu]
    simp only [gU, gUr]
    rw [if_neg h5, if_neg h1]
  have w15 : w.1 1 5 = 0 := by
    rw [hw, mTk_s (by omega) (by omega) (by omega) (by omega), hg.1 _ _ (by omega) (by omega) (by omega) (by omega), hu]
    simp [gU, gUr]
  have w51 : w.1 5 1 = 0 := by
    rw [hw, mTk_s (by omega) (by omega) (by omega) (by omega), hg.1 _ _ (by omega) (by omega) (by omega) (by omega), hu]
    simp [gU, gUr]
  have w2 : ∀ a k, w.2 a k = if a = 1 ∧ k = 4 then b else if a = 1 ∧ k = 3 then b' else M.2 a k := fun a k => by
    have : w.2 = u.2 := by rw [hw]; exact hg.2
    rw [this, hu]
    simp only [gU, gUr]
    rw [hf.2]
  have wo : ∀ a k, a ≠ 1 → w.2 a k = M.2 a k := fun a k ha => by rw [w2, if_neg (fun z => ha z.1), if_neg (fun z => ha z.1)]
  obtain ⟨n1, n2, n3, n4, n5, n6, n7, n8⟩ := mTk_n (w0 := w0)
  rw [← hw] at n1 n2 n3 n4 n5 n6 n7 n8
  obtain ⟨m1, m2, m3, m4, m5, m6⟩ := hm
  obtain ⟨e1, e2, e3, e4, e5⟩ := hE
  have hb' : bRep w b' s := by
    obtain ⟨h1, h2, h3, h4, h5, h6, h7⟩ := hb
    have hs1 := hs.1
    have hs2 := hs.2.1
    exact ⟨by rw [a0 _ _ (by omega) (by omega) (by omega)]; exact h1, by rw [a0 _ _ (by omega) (by omega) (by omega)]; exact h2, by rw [a0 _ _ (by omega) (by omega) (by omega)]; exact h3, by rw [a0 _ _ (by omega) (by omega) (by omega)]; exact h4, fun i w hi hw => by rw [a0 _ _ (by omega) (by omega) (by omega)]; exact h5 i w hi hw, fun i hi => by rw [a0 _ _ (by omega) (by omega) (by omega)]; exact h6 i hi, fun i w hi hw => by rw [a0 _ _ (by omega) (by omega) (by omega)]; exact h7 i w hi hw⟩
  obtain ⟨p1, p2, p3, p4, p5, p6, p7⟩ := hb'
  have hs1 := hs.1
  have hs2 := hs.2.1
  have w61 : ∀ p, w.1 61 p = M.1 61 p := fun p => by
    rw [hw, mTk_s (by omega) (by omega) (by omega) (by omega), hg.1 _ _ (by omega) (by omega) (by omega) (by omega), hu]
    simp only [gU, gUr]
    rw [if_neg (by omega), if_neg (by omega), hf.1 _ _ (by omega) (by omega)]
  have w601 : w.1 60 1 = M.1 60 1 := by
    rw [hw, mTk_s (by omega) (by omega) (by omega) (by omega), hg.1 _ _ (by omega) (by omega) (by omega) (by omega), hu]
    simp only [gU, gUr]
    rw [if_neg (by omega), if_neg (by omega), hf.1 _ _ (by omega) (by omega)]
  have w11 : w.1 1 1 = M.1 1 1 := by rw [a0 _ _ (by omega) (by omega) (by omega), hf.1 _ _ (by omega) (by omega)]
  refine ⟨?_, ?_, cO_rep ⟨p1, p2, p3, p4, p5, p6, p7⟩ hs, ?_, ?_, ⟨?_, ?_, ?_, ?_, ?_, ?_⟩, ⟨?_, ?_⟩, ⟨?_, ?_, ?_, ?_, ?_⟩, ⟨?_, ?_, ?_⟩⟩
  · obtain ⟨c1, ⟨r1, r2, r3, r4, r5, r6, r7⟩, c3, c4, c5, c6, c7⟩ := hS
    refine ⟨c1, ⟨by rw [w2]; simpa using r1, by rw [w2]; simpa using r2, by rw [w2]; simpa using r3, by rw [wo _ _ (by omega)]; exact r4, by rw [wo _ _ (by omega)]; exact r5, by rw [w2]; simp, by rw [w2]; simp⟩, cBr_of c4 (fun a k ha => wo a k (by omega)), cBr_of c3 (fun a k ha => wo a k (by omega)), by omega, fun c hc => ?_, fun c d hc hd h => ?_⟩
    · rw [wo _ _ (by omega)]; exact c6 c hc
    · rw [wo _ _ (by omega), wo _ _ (by omega)] at h; exact c7 c d hc hd h
  · exact mR_ag hR (fun k => wo 60 k (by omega))
  · rw [p1]; omega
  · rw [w15]; omega
  · rw [n1, m1, p1, e1]
  · rw [n2, m2, p2, e3]
  · rw [n3, m3, p3, e5]
  · rw [n4, m4, p4, e5]
  · intro i k hi hk
    rw [p1] at hi
    rw [n7 _ (by omega), m5 i k (by omega) hk, p5 i k hi hk]; exact (e2 i hi k hk).symm
  · intro i k hi hk
    rw [p2] at hi
    rw [n8 _ (by omega), m6 i k (by omega) hk, p7 i k hi hk]; exact (e4 i hi k hk).symm
  · rw [n6 10 (by omega), w15]
  · intro i hi
    rw [p1] at hi
    rw [n6 i (by omega), p6 i hi]
  · rw [w601, w11]; exact x1
  · rw [w11]; exact x2
  · intro p hp
    rw [w11] at hp
    rw [w61, a0 2 p (by omega) (by omega) (by omega), hf.1 2 p (by omega) (by omega)]; exact x3 p hp
  · intro i; rw [a0 4 i (by omega) (by omega) (by omega)]; exact h4 i
  · intro i; rw [hw, mTk_s (by omega) (by omega) (by omega) (by omega)]; exact h8 i
  · rw [n5, w51]
  · rw [w51]; omega
  · intro c hc; rw [w51] at hc; omega
theorem pr_lay (hr : rel E M b b') : gMet l E mX6_lay 6 [.ref (gAd E 1)] M (pEnd l E mX7_lay 5 [.ref (gAd E 60)]) := by
  have hx := hr.2.2.2.2.2.2.2.1
  have hbb := hr.1.2.2.2.2.1
  by_cases hno : (rP (M.1 2) (M.1 1 1) (M.1 1 1) 0 0 (M.1 4) s00).1 ≠ none ∨ (rP (M.1 2) (M.1 1 1) (M.1 1 1) 0 0 (M.1 4) s00).2.1.1 = 0
  · refine gMet_mono (kX6_lay_no l E M b b' hr.1 hx.2.1 (fun p hp => (hx.2.2.1 p hp).2) hx.2.2.2.1 hno) (fun v u q => ?_)
    obtain ⟨hf, h4, hv1⟩ := q
    obtain ⟨m1, m2, m3, m4, m5⟩ := rd_1 hr hf
    obtain ⟨r1, r2⟩ := rd_3 hr hf
    refine ⟨_, hv1, gMet_mono (kX7_lay_no l E u m1 m3 m4 m5 (by rw [← r1, ← r2.1]; exact hno)) (fun v' w q' => ?_)⟩
    obtain ⟨hg, h8, hv2⟩ := q'
    exact ⟨hv2, b, b', rd_2 hr hf h4 hg h8⟩
  · have hok : (rP (M.1 2) (M.1 1 1) (M.1 1 1) 0 0 (M.1 4) s00).1 = none := Classical.byContradiction (fun h => hno (Or.inl h))
    have hn0 : (rP (M.1 2) (M.1 1 1) (M.1 1 1) 0 0 (M.1 4) s00).2.1.1 ≠ 0 := fun h => hno (Or.inr h)
    refine gMet_mono (kX6_lay_ok l E M b b' hr.1 hx.2.1 (fun p hp => (hx.2.2.1 p hp).2) hx.2.2.2.1 hok hn0) (fun v u q => ?_)
    obtain ⟨hv1, u0, hf, h4, hb, hs, hu⟩ := q
    have e : ∀ a k, 60 ≤ a → u.1 a k = u0.1 a k := fun a k ha => by
      rw [hu]; simp only [gU, gUr]; rw [if_neg (by omega), if_neg (by omega)]
    obtain ⟨m1, m2, m3, m4, m5⟩ := rd_1 hr hf
    obtain ⟨r1, r2⟩ := rd_3 hr hf
    have f61 : u.1 61 = u0.1 61 := funext fun k => e 61 k (by omega)
    have f68 : u.1 68 = u0.1 68 := funext fun k => e 68 k (by omega)
    have f60 : u.1 60 1 = u0.1 60 1 := e 60 1 (by omega)
    rw [← f61, ← f68, ← f60] at r1 r2
    have hRu : mR E u := mR_ag m1 (fun k => by rw [hu]; simp [gU, gUr])
    refine ⟨_, hv1, gMet_mono (kX7_lay_ok l E u hRu (by rw [f60]; exact m3) (by rw [f60, f61]; exact m4) (by rw [f68]; exact m5) (by rw [← r1]; exact hok) (by rw [← r2.1]; exact hn0)) (fun v' w q' => ?_)⟩
    obtain ⟨hv2, w0, hg, h8, hm, hs', hw⟩ := q'
    exact ⟨by rw [hv2, r2.1], b', b, rel_lay hr hf h4 hb hs hn0 hu hg h8 hm r2 hw⟩
end pr4
