/-! the history: its entries c, oldest first: w = 0 signed, 1 offer, 2 moved -/
def hE (M : gMem) (c w : Nat) : Nat := M.1 (M.2 6 c) w
def hRot (M : gMem) : gMem := (fun a k => if a = 5 ∧ k = 1 then 5 else M.1 a k, fun a k => if a = 6 then (if k < 5 then M.2 6 (k + 1) else if k = 5 then M.2 6 0 else M.2 6 k) else M.2 a k)
def hAdd (M u : gMem) (sg i mv : Nat) : Prop :=
  (∀ a k, a ≠ 5 → (a < 10 ∨ 16 ≤ a) → u.1 a k = M.1 a k) ∧ (∀ a k, a ≠ 6 → u.2 a k = M.2 a k) ∧ (∀ c, c < 6 → 10 ≤ u.2 6 c ∧ u.2 6 c < 16) ∧ (∀ c d, c < 6 → d < 6 → u.2 6 c = u.2 6 d → c = d) ∧
  (M.1 5 1 < 6 → u.1 5 1 = M.1 5 1 + 1 ∧ (∀ c w, c < M.1 5 1 → hE u c w = hE M c w) ∧ hE u (M.1 5 1) 0 = sg ∧ hE u (M.1 5 1) 1 = i ∧ hE u (M.1 5 1) 2 = mv) ∧
  (M.1 5 1 = 6 → u.1 5 1 = 6 ∧ (∀ c w, c < 5 → hE u c w = hE M (c + 1) w) ∧ hE u 5 0 = sg ∧ hE u 5 1 = i ∧ hE u 5 2 = mv)
def hPut (M : gMem) (s sg i mv : Nat) : gMem := gU (gU (gU (gU M (M.2 6 s) 0 sg) (M.2 6 s) 1 i) (M.2 6 s) 2 mv) 5 1 (s + 1)
def hOk (M : gMem) : Prop := (∀ c, c < 6 → 10 ≤ M.2 6 c ∧ M.2 6 c < 16) ∧ ∀ c d, c < 6 → d < 6 → M.2 6 c = M.2 6 d → c = d
theorem hPut_o {M : gMem} {s sg i mv : Nat} (h : hOk M) (hs : s < 6) : (∀ a k, a ≠ 5 → (a < 10 ∨ 16 ≤ a) → (hPut M s sg i mv).1 a k = M.1 a k) ∧ (hPut M s sg i mv).2 = M.2 ∧ (hPut M s sg i mv).1 5 1 = s + 1 ∧ (∀ c w, c < 6 → c ≠ s → hE (hPut M s sg i mv) c w = hE M c w) ∧ hE (hPut M s sg i mv) s 0 = sg ∧ hE (hPut M s sg i mv) s 1 = i ∧ hE (hPut M s sg i mv) s 2 = mv := by
  have h1 := h.1 s hs
  refine ⟨fun a k h5 ha => ?_, rfl, ?_, fun c w hc hcs => ?_, ?_, ?_, ?_⟩
  · have : a ≠ M.2 6 s := by omega
    simp [hPut, gU, h5, this]
  · simp [hPut, gU]
  · have h2 := h.1 c hc
    have h3 : M.2 6 c ≠ M.2 6 s := fun e => hcs (h.2 c s hc hs e)
    have h4 : M.2 6 c ≠ 5 := by omega
    simp [hE, hPut, gU, h3, h4]
  · have h4 : M.2 6 s ≠ 5 := by omega
    simp [hE, hPut, gU, h4]
  · have h4 : M.2 6 s ≠ 5 := by omega
    simp [hE, hPut, gU, h4]
  · have h4 : M.2 6 s ≠ 5 := by omega
    simp [hE, hPut, gU, h4]
theorem hRot_ok {M : gMem} (h : hOk M) : hOk (hRot M) := by
  have e : ∀ c, c < 6 → (hRot M).2 6 c = M.2 6 ((c + 1) % 6) := by
    intro c hc
    by_cases h5 : c < 5
    · simp [hRot, h5, show (c + 1) % 6 = c + 1 by omega]
    · have : c = 5 := by omega
      subst this
      simp [hRot]
  refine ⟨fun c hc => ?_, fun c d hc hd hcd => ?_⟩
  · rw [e c hc]; exact h.1 _ (by omega)
  · rw [e c hc, e d hd] at hcd
    have := h.2 _ _ (by omega) (by omega) hcd
    omega
theorem hAdd_lt {M : gMem} {sg i mv : Nat} (h : hOk M) (hs : M.1 5 1 < 6) : hAdd M (hPut M (M.1 5 1) sg i mv) sg i mv := by
  obtain ⟨q1, q2, q3, q4, q5, q6, q7⟩ := hPut_o (sg := sg) (i := i) (mv := mv) h hs
  exact ⟨q1, fun a k _ => by rw [q2], by rw [q2]; exact h.1, by rw [q2]; exact h.2, fun _ => ⟨q3, fun c w hc => q4 c w (by omega) (by omega), q5, q6, q7⟩, fun e => by omega⟩
theorem hAdd_6 {M : gMem} {sg i mv : Nat} (h : hOk M) (hs : M.1 5 1 = 6) : hAdd M (hPut (hRot M) 5 sg i mv) sg i mv := by
  obtain ⟨q1, q2, q3, q4, q5, q6, q7⟩ := hPut_o (sg := sg) (i := i) (mv := mv) (hRot_ok h) (show 5 < 6 by omega)
  have hr := hRot_ok h
  refine ⟨fun a k h5 ha => ?_, fun a k h6 => ?_, by rw [q2]; exact hr.1, by rw [q2]; exact hr.2, fun e => by omega, fun _ => ⟨q3, fun c w hc => ?_, q5, q6, q7⟩⟩
  · rw [q1 a k h5 ha]; simp [hRot, h5]
  · rw [q2]; simp [hRot, h6]
  · rw [q4 c w (by omega) (by omega)]
    have h2 := h.1 (c + 1) (by omega)
    simp only [hE, hRot, hc, if_true]
    rw [if_neg (by omega)]
theorem hOk_of {E : gEnv} {M : gMem} {b b' : Nat} (h : cS E M b b') : hOk M := h.2.2.2.2.2
theorem cBr_of {E : gEnv} {M u : gMem} {b : Nat} (h : cBr E M b) (h2 : ∀ a k, b ≤ a → u.2 a k = M.2 a k) : cBr E u b := by
  obtain ⟨⟨a1, a2, a3, a4, a5, a6, a7⟩, a8, a9⟩ := h
  exact ⟨⟨a1, a2, a3, a4, a5, by rw [h2 _ _ (by omega)]; exact a6, by rw [h2 _ _ (by omega)]; exact a7⟩, fun i hi => ⟨(a8 i hi).1, by rw [h2 _ _ (by omega)]; exact (a8 i hi).2⟩, fun i hi => ⟨(a9 i hi).1, by rw [h2 _ _ (by omega)]; exact (a9 i hi).2⟩⟩
theorem hAdd_cS {E : gEnv} {M u : gMem} {b b' sg i mv : Nat} (h : cS E M b b') (hA : hAdd M u sg i mv) : cS E u b b' := by
  obtain ⟨c1, ⟨r1, r2, r3, r4, r5, r6, r7⟩, c3, c4, c5, c6⟩ := h
  obtain ⟨-, q2, q3, q4, -⟩ := hA
  exact ⟨c1, ⟨by rw [q2 _ _ (by decide)]; exact r1, by rw [q2 _ _ (by decide)]; exact r2, by rw [q2 _ _ (by decide)]; exact r3, by rw [q2 _ _ (by decide)]; exact r4, by rw [q2 _ _ (by decide)]; exact r5, by rw [q2 _ _ (by decide)]; exact r6, by rw [q2 _ _ (by decide)]; exact r7⟩, cBr_of c3 (fun a k ha => q2 a k (by omega)), cBr_of c4 (fun a k ha => q2 a k (by omega)), c5, q3, q4⟩
