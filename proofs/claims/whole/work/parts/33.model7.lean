/-! the reference's past, windows -/
def nShf (f : Nat → Nat) (k : Nat) : Nat → Nat := fun j => if j < k then f (j + 11) else f j
def nCpy (f nw : Nat → Nat) (c k : Nat) : Nat → Nat := fun j => if 11 * c ≤ j ∧ j < 11 * c + k then nw (j - 11 * c) else f j
def uCpy (nw pa : Nat → Nat) (c k : Nat) : Nat → Nat := fun j => if j < k then pa (11 * c + j) else nw j
theorem nShf_0 (f : Nat → Nat) : nShf f 0 = f := funext fun j => if_neg (Nat.not_lt_zero j)
theorem nShf_s (f : Nat → Nat) (k : Nat) : updN (nShf f k) k (f (k + 11)) = nShf f (k + 1) := by
  funext j
  simp only [updN, nShf]
  by_cases h : j = k
  · subst h; simp
  · simp only [h, if_false]
    by_cases h2 : j < k
    · simp [h2, show j < k + 1 by omega]
    · simp [h2, show ¬ j < k + 1 by omega]
theorem nCpy_0 (f nw : Nat → Nat) (c : Nat) : nCpy f nw c 0 = f := funext fun j => if_neg (by omega)
theorem nCpy_s (f nw : Nat → Nat) (c k : Nat) : updN (nCpy f nw c k) (11 * c + k) (nw k) = nCpy f nw c (k + 1) := by
  funext j
  simp only [updN, nCpy]
  by_cases h : j = 11 * c + k
  · subst h; simp [show 11 * c + k - 11 * c = k by omega]
  · simp only [h, if_false]
    by_cases h2 : 11 * c ≤ j ∧ j < 11 * c + k
    · simp [h2, show j < 11 * c + (k + 1) by omega]
    · rw [if_neg h2, if_neg (by omega)]
theorem uCpy_0 (nw pa : Nat → Nat) (c : Nat) : uCpy nw pa c 0 = nw := funext fun j => if_neg (Nat.not_lt_zero j)
theorem uCpy_s (nw pa : Nat → Nat) (c k : Nat) : updN (uCpy nw pa c k) k (pa (11 * c + k)) = uCpy nw pa c (k + 1) := by
  funext j
  simp only [updN, uCpy]
  by_cases h : j = k
  · subst h; simp
  · simp only [h, if_false]
    by_cases h2 : j < k
    · simp [h2, show j < k + 1 by omega]
    · simp [h2, show ¬ j < k + 1 by omega]
theorem gRow_sw {M : gMem} {a c k x : Nat} {f : Nat → Nat} (h : c ≠ a) : gU (gRow M a f) c k x = gRow (gU M c k x) a f := by
  refine Prod.ext (funext fun d => funext fun j => ?_) rfl
  simp only [gRow, gU]
  by_cases h2 : d = a
  · subst h2; simp [Ne.symm h]
  · simp [h2]
def mNt (M : gMem) : gMem := if M.1 60 17 = 6 then gU (gRow (gU M 60 17 5) 67 (nCpy (nShf (M.1 67) 55) (M.1 66) 5 11)) 60 17 6 else gU (gRow M 67 (nCpy (M.1 67) (M.1 66) (M.1 60 17) 11)) 60 17 (M.1 60 17 + 1)
theorem mNt_o {M : gMem} {a k : Nat} (h : a ≠ 67) (h2 : ¬ (a = 60 ∧ k = 17)) : (mNt M).1 a k = M.1 a k := by
  unfold mNt
  split
  · simp only [gU, gRow]; rw [if_neg h2, if_neg h, if_neg h2]
  · simp only [gU, gRow]; rw [if_neg h2, if_neg h]
theorem mNt_2 {M : gMem} : (mNt M).2 = M.2 := by unfold mNt; split <;> rfl
theorem mR_2 {E : gEnv} {M u : gMem} (h : mR E M) (h2 : u.2 = M.2) : mR E u := by unfold mR at h ⊢; rw [h2]; exact h
theorem mO_mv {M : gMem} {j d : Nat} (hO : mO M) (hj : j < M.1 60 11) (hd : M.1 64 (7 * j + 4) + d ≤ 51) : mO (gU M 66 j d) := by
  obtain ⟨h1, h2, h3, h4, h5, h6⟩ := hO
  refine ⟨h1, h2, h3, h4, fun i hi => ?_, h6⟩
  have hi : i < M.1 60 11 := hi
  by_cases hij : i = j
  · subst hij
    obtain ⟨u0, u1, u2, u3, u4, u5, u6, u7⟩ := h5 i hi
    simp only [mV] at u0 u1 u2 u3 u4 u5 u6 u7
    refine ⟨?_, ?_, ?_, ?_, ?_, ?_, ?_, ?_⟩ <;> simp only [mV, gU] <;> simp <;> omega
  · have e2 : mV (gU M 66 j d) i = mV M i := by
      funext w
      have q : (gU M 66 j d).1 66 i = M.1 66 i := gU_k hij
      simp only [mV, q]
      rfl
    rw [e2]; exact h5 i hi
def sWi (p : Nat → Bool) (to : Nat) (k q : Int32) : Nat → Nat → Nat → Int32
  | 0, _, _ => 0
  | d + 1, wk, c => if sFw p wk (to + 1 - wk) ≤ to then (if nI c = k then (if q = nI 0 then nI (sFw p wk (to + 1 - wk)) else nI (sTw p (sFw p wk (to + 1 - wk)) (to - sFw p wk (to + 1 - wk)))) else sWi p to k q d (sTw p (sFw p wk (to + 1 - wk)) (to - sFw p wk (to + 1 - wk)) + 1) (c + 1)) else (if k = -1 then nI c else -4)
def lgS (p : Nat → Bool) (to c : Nat) : Nat → Nat → Nat × Nat × Nat → Nat × Nat × Nat
  | 0, _, g => g
  | d + 1, wk, g => if sFw p wk (to + 1 - wk) ≤ to then lgS p to c d (sTw p (sFw p wk (to + 1 - wk)) (to - sFw p wk (to + 1 - wk)) + 1) (if sTw p (sFw p wk (to + 1 - wk)) (to - sFw p wk (to + 1 - wk)) - sFw p wk (to + 1 - wk) + 1 > g.1 then (sTw p (sFw p wk (to + 1 - wk)) (to - sFw p wk (to + 1 - wk)) - sFw p wk (to + 1 - wk) + 1, c, sFw p wk (to + 1 - wk)) else g) else g
def lgM (V : Nat → Nat → Nat) (n sg fr to : Nat) : Nat → Nat × Nat × Nat
  | 0 => (0, 0, 0)
  | c + 1 => lgS (sLf V n sg c) to c 60 fr (lgM V n sg fr to c)
def lgF (g : Nat × Nat × Nat) : Int32 := if g.1 = 0 then -4 else nI g.2.1
def lgG (g : Nat × Nat × Nat) : Int32 := if g.1 = 0 then -4 else nI g.2.2
def mWn (M u : gMem) : Prop := u = M ∨ ∃ a c, u = gU (gU M 60 19 a) 60 20 c
theorem gU_w4 {M : gMem} {a c f t : Nat} : gU (gU (gU (gU M 60 19 a) 60 20 c) 60 19 f) 60 20 t = gU (gU M 60 19 f) 60 20 t := by
  refine Prod.ext (funext fun d => funext fun j => ?_) rfl
  simp only [gU]
  by_cases h : d = 60 ∧ j = 20
  · simp [h]
  · by_cases h2 : d = 60 ∧ j = 19
    · simp [h2]
    · simp [h, h2]
theorem gU_w0 {M : gMem} : gU (gU M 60 19 (M.1 60 19)) 60 20 (M.1 60 20) = M := by
  rw [gU_me]; exact gU_me
