/-! the reference reads a text -/
def mAt (M : gMem) (a : Nat) (nf : Nat → Nat) : gMem := (fun c k => if c = 68 then nf k else if c = 60 ∧ k = 2 then a else M.1 c k, M.2)
theorem mAt_me (M : gMem) : mAt M (M.1 60 2) (M.1 68) = M := by
  refine Prod.ext (funext fun c => funext fun k => ?_) rfl
  simp only [mAt]
  split
  · rename_i h; rw [h]
  · split
    · rename_i h; rw [h.1, h.2]
    · rfl
theorem mAt_a (M : gMem) (a x : Nat) (nf : Nat → Nat) : gU (mAt M a nf) 60 2 x = mAt M x nf := by
  refine Prod.ext (funext fun c => funext fun k => ?_) rfl
  simp only [mAt, gU]
  by_cases h : c = 60 ∧ k = 2
  · simp [h]
  · simp [h]
theorem mAt_n (M : gMem) (a k x : Nat) (nf : Nat → Nat) : gU (mAt M a nf) 68 k x = mAt M a (updN nf k x) := by
  refine Prod.ext (funext fun c => funext fun j => ?_) rfl
  simp only [mAt, gU, updN]
  by_cases h : c = 68
  · simp [h]
  · simp [h]
def dgt (t : Nat → Nat) (L p : Nat) : Bool := decide (p < L ∧ 48 ≤ t p ∧ t p ≤ 57)
def mNv (t : Nat → Nat) (L a : Nat) : Nat := if dgt t L (a + 1) then 10 * (t a - 48) + (t (a + 1) - 48) else t a - 48
def mNa (t : Nat → Nat) (L a : Nat) : Nat := if dgt t L (a + 1) then a + 2 else a + 1
def mN (t : Nat → Nat) (L : Nat) : Nat → Nat → Nat → (Nat → Nat) → Bool × Nat × (Nat → Nat)
  | 0, _, a, nf => (true, a, nf)
  | r + 1, k, a, nf => if dgt t L a then (if mNa t L a ≠ L ∧ t (mNa t L a) = (if r = 0 then 59 else 44) then mN t L r (k + 1) (mNa t L a + 1) (updN nf k (mNv t L a)) else (false, mNa t L a, updN nf k (mNv t L a))) else (false, a, nf)
theorem mNv_lt {t : Nat → Nat} {L a : Nat} (h : dgt t L a = true) : mNv t L a < 100 := by
  have h := of_decide_eq_true h
  unfold mNv
  split
  · rename_i h2
    have h2 := of_decide_eq_true h2
    omega
  · omega
theorem mN_le {t : Nat → Nat} {L : Nat} : ∀ r k a nf, a ≤ L → (∀ i, nf i < 100) → (mN t L r k a nf).2.1 ≤ L ∧ ∀ i, (mN t L r k a nf).2.2 i < 100 := by
  intro r
  induction r with
  | zero => intro k a nf ha hn; exact ⟨ha, hn⟩
  | succ r ih =>
    intro k a nf ha hn
    unfold mN
    split
    · rename_i h
      have hu : ∀ i, updN nf k (mNv t L a) i < 100 := by
        intro i
        simp only [updN]
        split
        · exact mNv_lt h
        · exact hn i
      have h := of_decide_eq_true h
      have hm : mNa t L a ≤ L := by
        unfold mNa
        split
        · rename_i h2
          have h2 := of_decide_eq_true h2
          omega
        · omega
      by_cases h3 : mNa t L a ≠ L ∧ t (mNa t L a) = (if r = 0 then 59 else 44)
      · rw [if_pos h3]; exact ih _ _ _ (by omega) hu
      · rw [if_neg h3]; exact ⟨hm, hu⟩
    · exact ⟨ha, hn⟩
def fCp (f g : Nat → Nat) (k : Nat) : Nat → Nat := fun j => if j < k then g j else f j
theorem fCp_0 (f g : Nat → Nat) : fCp f g 0 = f := funext fun j => if_neg (Nat.not_lt_zero j)
theorem fCp_s (f g : Nat → Nat) (k : Nat) : updN (fCp f g k) k (g k) = fCp f g (k + 1) := by
  funext j
  simp only [updN, fCp]
  by_cases h : j = k
  · subst h; simp
  · simp only [h, if_false]
    by_cases h2 : j < k
    · simp [h2, show j < k + 1 by omega]
    · simp [h2, show ¬ j < k + 1 by omega]
def zer : Nat → Nat := fun _ => 0
def mTk (M : gMem) : gMem := gU (gRow (gU (gU (gU (gU (gRow (gRow M 64 (fCp (M.1 64) (M.1 62) 70)) 65 (fCp (M.1 65) (M.1 63) 12)) 60 11 (M.1 60 5)) 60 12 (M.1 60 6)) 60 13 (M.1 60 7)) 60 14 (M.1 60 8)) 66 (fCp (M.1 66) zer 11)) 60 17 0
def mPO (M : gMem) (f : Nat → Nat) : gMem := gU (gU (gU (gU (gU (gU (gU (gU M 62 (7 * M.1 60 5) (f 0)) 62 (7 * M.1 60 5 + 1) (f 1)) 62 (7 * M.1 60 5 + 2) (f 2)) 62 (7 * M.1 60 5 + 3) (f 3)) 62 (7 * M.1 60 5 + 4) (f 4)) 62 (7 * M.1 60 5 + 5) (f 5)) 62 (7 * M.1 60 5 + 6) (f 6)) 60 5 (M.1 60 5 + 1)
def mPH (M : gMem) (f : Nat → Nat) : gMem := gU (gU (gU (gU M 63 (3 * M.1 60 6) (f 0)) 63 (3 * M.1 60 6 + 1) (f 1)) 63 (3 * M.1 60 6 + 2) (f 2)) 60 6 (M.1 60 6 + 1)
/-- what was read so far -/
def mRep (u : gMem) (s : aB) : Prop := u.1 60 5 = s.1.1 ∧ u.1 60 6 = s.2.1.1 ∧ u.1 60 7 = s.2.2.1 ∧ u.1 60 8 = s.2.2.2 ∧ (∀ i w, i < s.1.1 → w < 7 → u.1 62 (7 * i + w) = s.1.2 i w) ∧ ∀ h w, h < s.2.1.1 → w < 3 → u.1 63 (3 * h + w) = s.2.1.2 h w
def fRm (M u : gMem) : Prop := (∀ a k, a ≠ 62 → a ≠ 63 → a ≠ 68 → ¬ (a = 60 ∧ (k = 2 ∨ k = 5 ∨ k = 6 ∨ k = 7 ∨ k = 8)) → u.1 a k = M.1 a k) ∧ u.2 = M.2
theorem fRm_rf (M : gMem) : fRm M M := ⟨fun _ _ _ _ _ _ => rfl, rfl⟩
theorem fRm_tr {M u v : gMem} (h1 : fRm M u) (h2 : fRm u v) : fRm M v := ⟨fun a k x y z w => by rw [h2.1 a k x y z w, h1.1 a k x y z w], by rw [h2.2, h1.2]⟩
theorem fRm_at (M : gMem) (a : Nat) (nf : Nat → Nat) : fRm M (mAt M a nf) := ⟨fun c k _ _ h8 h => by simp only [mAt]; rw [if_neg h8, if_neg (fun q => h ⟨q.1, Or.inl q.2⟩)], rfl⟩
theorem fRm_U {M u : gMem} {a k x : Nat} (h : fRm M u) (hh : a = 62 ∨ a = 63 ∨ (a = 60 ∧ (k = 2 ∨ k = 5 ∨ k = 6 ∨ k = 7 ∨ k = 8))) : fRm M (gU u a k x) := ⟨fun c j h2 h3 h8 hn => by
  simp only [gU]
  rw [if_neg (fun q => by rcases hh with e | e | e; exact h2 (q.1.trans e); exact h3 (q.1.trans e); exact hn ⟨q.1.trans e.1, q.2 ▸ e.2⟩)]
  exact h.1 c j h2 h3 h8 hn, h.2⟩
theorem mRep_at {M : gMem} {s : aB} {a : Nat} {nf : Nat → Nat} (h : mRep M s) : mRep (mAt M a nf) s := h
theorem mRep_t {u : gMem} {s : aB} {f t : Nat} (h : mRep u s) : mRep (gU (gU u 60 7 f) 60 8 t) (s.1, s.2.1, f, t) := by
  obtain ⟨h1, h2, h3, h4, h5, h6⟩ := h
  exact ⟨h1, h2, by simp [gU], by simp [gU], h5, h6⟩
theorem mRep_o {u : gMem} {s : aB} {f : Nat → Nat} (h : mRep u s) : mRep (mPO u f) ((s.1.1 + 1, updR s.1.2 s.1.1 f), s.2) := by
  obtain ⟨h1, h2, h3, h4, h5, h6⟩ := h
  refine ⟨?_, h2, h3, h4, fun i w hi hw => ?_, h6⟩
  · show (mPO u f).1 60 5 = s.1.1 + 1
    simp only [mPO]; rw [gU_s, h1]
  · have hi : i < s.1.1 + 1 := hi
    show (mPO u f).1 62 (7 * i + w) = updR s.1.2 s.1.1 f i w
    simp only [mPO]
    rw [gU_o (by decide), h1]
    by_cases hin : i = s.1.1
    · subst hin
      simp only [updR, if_true, gU]
      rcases (show w = 0 ∨ w = 1 ∨ w = 2 ∨ w = 3 ∨ w = 4 ∨ w = 5 ∨ w = 6 by omega) with rfl | rfl | rfl | rfl | rfl | rfl | rfl <;> simp
    · rw [gU_k (by omega), gU_k (by omega), gU_k (by omega), gU_k (by omega), gU_k (by omega), gU_k (by omega), gU_k (by omega), h5 i w (by omega) hw]
      simp [updR, hin]
theorem mRep_h {u : gMem} {s : aB} {f : Nat → Nat} (h : mRep u s) : mRep (mPH u f) (s.1, (s.2.1.1 + 1, updR s.2.1.2 s.2.1.1 f), s.2.2) := by
  obtain ⟨h1, h2, h3, h4, h5, h6⟩ := h
  refine ⟨h1, ?_, h3, h4, h5, fun i w hi hw => ?_⟩
  · show (mPH u f).1 60 6 = s.2.1.1 + 1
    simp only [mPH]; rw [gU_s, h2]
  · have hi : i < s.2.1.1 + 1 := hi
    show (mPH u f).1 63 (3 * i + w) = updR s.2.1.2 s.2.1.1 f i w
    simp only [mPH]
    rw [gU_o (by decide), h2]
    by_cases hin : i = s.2.1.1
    · subst hin
      simp only [updR, if_true, gU]
      rcases (show w = 0 ∨ w = 1 ∨ w = 2 by omega) with rfl | rfl | rfl <;> simp
    · rw [gU_k (by omega), gU_k (by omega), gU_k (by omega), h6 i w (by omega) hw]
      simp [updR, hin]
def rIm (kind : Nat) (t : Nat → Nat) (L a : Nat) (nf : Nat → Nat) (s : aB) : Option (Nat × (Nat → Nat) × aB) :=
  if kind = 116 then (if (mN t L 2 0 a nf).1 = true ∧ (mN t L 2 0 a nf).2.2 0 ≤ (mN t L 2 0 a nf).2.2 1 ∧ (mN t L 2 0 a nf).2.2 1 ≤ 51 then some ((mN t L 2 0 a nf).2.1, (mN t L 2 0 a nf).2.2, (s.1, s.2.1, (mN t L 2 0 a nf).2.2 0, (mN t L 2 0 a nf).2.2 1)) else none)
  else if kind = 111 then (if s.1.1 < 10 ∧ (mN t L 7 0 a nf).1 = true ∧ oOk (mN t L 7 0 a nf).2.2 = true then some ((mN t L 7 0 a nf).2.1, (mN t L 7 0 a nf).2.2, ((s.1.1 + 1, updR s.1.2 s.1.1 (mN t L 7 0 a nf).2.2), s.2)) else none)
  else if kind = 104 then (if s.2.1.1 < 4 ∧ (mN t L 3 0 a nf).1 = true ∧ hTold (mN t L 3 0 a nf).2.2 = true then some ((mN t L 3 0 a nf).2.1, (mN t L 3 0 a nf).2.2, (s.1, (s.2.1.1 + 1, updR s.2.1.2 s.2.1.1 (mN t L 3 0 a nf).2.2), s.2.2)) else none)
  else none
def qItm (r : Option (Nat × (Nat → Nat) × aB)) (v : Option Value) (u : gMem) : Prop := match r with
  | none => v = some (.int (gb false))
  | some q => v = some (.int (gb true)) ∧ mRep u q.2.2 ∧ u.1 60 2 = q.1 ∧ u.1 68 = q.2.1
theorem qM_n {r : Option (Nat × (Nat → Nat) × aB)} {u : gMem} (h : r = none) : qItm r (some (.int (gb false))) u := by rw [h]; rfl
theorem qM_s {r : Option (Nat × (Nat → Nat) × aB)} {u : gMem} {q : Nat × (Nat → Nat) × aB} (h : r = some q) (h1 : mRep u q.2.2) (h2 : u.1 60 2 = q.1) (h3 : u.1 68 = q.2.1) : qItm r (some (.int (gb true))) u := by rw [h]; exact ⟨rfl, h1, h2, h3⟩
/-- the text read, item by item -/
def rMt (t : Nat → Nat) (L : Nat) : Nat → Nat → (Nat → Nat) → aB → Option Nat × aB
  | 0, _, _, s => (none, s)
  | d + 1, a, nf, s => if a < L then (match rIm (t a) t L (a + 1) nf s with
      | none => (some a, s)
      | some q => rMt t L d q.1 q.2.1 q.2.2) else (none, s)
