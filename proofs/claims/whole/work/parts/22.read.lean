/-! reading a text: what a book holds, what an item tells -/
abbrev aB : Type := (Nat × (Nat → Nat → Nat)) × (Nat × (Nat → Nat → Nat)) × Nat × Nat
def updN (f : Nat → Nat) (k x : Nat) : Nat → Nat := fun j => if j = k then x else f j
def updR (f : Nat → Nat → Nat) (k : Nat) (r : Nat → Nat) : Nat → Nat → Nat := fun j => if j = k then r else f j
def gRow (M : gMem) (a : Nat) (f : Nat → Nat) : gMem := (fun c k => if c = a then f k else M.1 c k, M.2)
theorem gRow_me (M : gMem) (a : Nat) : gRow M a (M.1 a) = M := by
  refine Prod.ext (funext fun c => funext fun k => ?_) rfl
  simp only [gRow]
  split
  · rename_i h; rw [h]
  · rfl
theorem gRow_U (M : gMem) (a : Nat) (f : Nat → Nat) (k x : Nat) : gU (gRow M a f) a k x = gRow M a (updN f k x) := by
  refine Prod.ext (funext fun c => funext fun j => ?_) rfl
  simp only [gRow, gU, updN]
  by_cases h : c = a
  · simp [h]
  · simp [h]
theorem gRow_at {M : gMem} {a : Nat} {f : Nat → Nat} {k : Nat} : (gRow M a f).1 a k = f k := by simp [gRow]
theorem gRow_o {M : gMem} {a : Nat} {f : Nat → Nat} {c k : Nat} (h : c ≠ a) : (gRow M a f).1 c k = M.1 c k := by simp [gRow, h]
/-- the numbers between two places: how many (0: it isn't numbers), and which -/
def aN (t : Nat → Nat) : Nat → Nat → Nat → (Nat → Nat) → Nat → Nat → Nat × (Nat → Nat)
  | 0, _, fd, nf, fig, val => if fig = 0 then (0, nf) else (fd + 1, updN nf fd val)
  | k + 1, p, fd, nf, fig, val =>
    if 48 ≤ t p ∧ t p ≤ 57 ∧ fig < 2 then aN t k (p + 1) fd nf (fig + 1) (val * 10 + (t p - 48))
    else if t p = 44 ∧ 0 < fig ∧ fd < 6 then aN t k (p + 1) (fd + 1) (updN nf fd val) 0 0
    else (0, nf)
theorem aN_e {t : Nat → Nat} {e p fd : Nat} {nf : Nat → Nat} {fig val : Nat} (h : e ≤ p) : aN t (e - p) p fd nf fig val = if fig = 0 then (0, nf) else (fd + 1, updN nf fd val) := by
  rw [show e - p = 0 by omega]; rfl
theorem aN_d {t : Nat → Nat} {e p fd : Nat} {nf : Nat → Nat} {fig val : Nat} (h : p < e) (h1 : 48 ≤ t p) (h2 : t p ≤ 57) (h3 : fig < 2) : aN t (e - p) p fd nf fig val = aN t (e - (p + 1)) (p + 1) fd nf (fig + 1) (val * 10 + (t p - 48)) := by
  rw [show e - p = (e - (p + 1)) + 1 by omega]
  simp only [aN]
  rw [if_pos ⟨h1, h2, h3⟩]
theorem aN_c {t : Nat → Nat} {e p fd : Nat} {nf : Nat → Nat} {fig val : Nat} (h : p < e) (h1 : t p = 44) (h2 : 0 < fig) (h3 : fd < 6) : aN t (e - p) p fd nf fig val = aN t (e - (p + 1)) (p + 1) (fd + 1) (updN nf fd val) 0 0 := by
  rw [show e - p = (e - (p + 1)) + 1 by omega]
  simp only [aN]
  rw [if_neg (by omega), if_pos ⟨h1, h2, h3⟩]
theorem aN_x {t : Nat → Nat} {e p fd : Nat} {nf : Nat → Nat} {fig val : Nat} (h : p < e) (h1 : ¬ (48 ≤ t p ∧ t p ≤ 57 ∧ fig < 2)) (h2 : ¬ (t p = 44 ∧ 0 < fig ∧ fd < 6)) : aN t (e - p) p fd nf fig val = (0, nf) := by
  rw [show e - p = (e - (p + 1)) + 1 by omega]
  simp only [aN]
  rw [if_neg h1, if_neg h2]
/-- numbers are below 100, seven at most -/
theorem aN_le {t : Nat → Nat} : ∀ k p fd nf fig val, fd ≤ 6 → (fig = 0 → val = 0) → (fig ≤ 1 → val < 10) → (fig ≤ 2 ∧ val < 100) → (∀ i, nf i < 100) → (aN t k p fd nf fig val).1 ≤ 7 ∧ ∀ i, (aN t k p fd nf fig val).2 i < 100 := by
  intro k
  induction k with
  | zero =>
    intro p fd nf fig val h1 h2 h3 h4 h5
    unfold aN
    split
    · exact ⟨by simp, h5⟩
    · refine ⟨by simp; omega, fun i => ?_⟩
      simp only [updN]
      split
      · omega
      · exact h5 i
  | succ k ih =>
    intro p fd nf fig val h1 h2 h3 h4 h5
    unfold aN
    split
    · exact ih _ _ _ _ _ h1 (by omega) (fun h => by have := h2 (by omega); omega) ⟨by omega, by have := h3 (by omega); omega⟩ h5
    · split
      · refine ih _ _ _ _ _ (by omega) (fun _ => rfl) (fun _ => by omega) ⟨by omega, by omega⟩ (fun i => ?_)
        simp only [updN]
        split
        · omega
        · exact h5 i
      · exact ⟨by simp, h5⟩
def oOk (f : Nat → Nat) : Bool := decide (1 ≤ f 0 ∧ f 0 < 64 ∧ 1 ≤ f 1 ∧ f 1 < 16 ∧ 1 ≤ f 2 ∧ f 2 < 16 ∧ f 3 ≤ f 4 ∧ f 4 ≤ 51 ∧ f 5 < 2 ∧ 1 ≤ f 6 ∧ f 6 ≤ 99)
def hTold (f : Nat → Nat) : Bool := decide (f 0 ≠ f 1 ∧ f 0 < 4 ∧ f 1 < 4 ∧ 1 ≤ f 2 ∧ f 2 ≤ 51)
def rI (kind c : Nat) (f : Nat → Nat) (s : aB) : Option aB :=
  if kind = 116 then (if c = 2 ∧ f 0 ≤ f 1 ∧ f 1 ≤ 51 then some (s.1, s.2.1, f 0, f 1) else none)
  else if kind = 111 then (if c = 7 ∧ s.1.1 < 10 ∧ oOk f = true then some ((s.1.1 + 1, updR s.1.2 s.1.1 f), s.2) else none)
  else if kind = 104 then (if c = 3 ∧ s.2.1.1 < 4 ∧ hTold f = true then some (s.1, (s.2.1.1 + 1, updR s.2.1.2 s.2.1.1 f), s.2.2) else none)
  else none
def bRep (u : gMem) (b : Nat) (s : aB) : Prop := u.1 b 1 = s.1.1 ∧ u.1 b 3 = s.2.1.1 ∧ u.1 b 4 = s.2.2.1 ∧ u.1 b 5 = s.2.2.2 ∧ (∀ i w, i < s.1.1 → w < 7 → u.1 (b + 3 + i) w = s.1.2 i w) ∧ (∀ i, i < s.1.1 → u.1 (b + 3 + i) 7 = 0) ∧ ∀ h w, h < s.2.1.1 → w < 3 → u.1 (b + 13 + h) w = s.2.1.2 h w
def aOk (s : aB) : Prop := s.1.1 ≤ 10 ∧ s.2.1.1 ≤ 4 ∧ s.2.2.1 ≤ s.2.2.2 ∧ s.2.2.2 ≤ 51 ∧ (∀ i, i < s.1.1 → oOk (s.1.2 i) = true) ∧ ∀ h, h < s.2.1.1 → hTold (s.2.1.2 h) = true
/-- what reading may change: the numbers, the book read into -/
def fRd (M u : gMem) (b : Nat) : Prop := (∀ a k, a ≠ 4 → (a < b ∨ b + 17 ≤ a) → u.1 a k = M.1 a k) ∧ u.2 = M.2
theorem fRd_tr {M u v : gMem} {b : Nat} (h1 : fRd M u b) (h2 : fRd u v b) : fRd M v b := ⟨fun a k h4 hb => by rw [h2.1 a k h4 hb, h1.1 a k h4 hb], by rw [h2.2, h1.2]⟩
theorem fRd_rf (M : gMem) (b : Nat) : fRd M M b := ⟨fun _ _ _ _ => rfl, rfl⟩
theorem fRd_row (M : gMem) (b : Nat) (f : Nat → Nat) : fRd M (gRow M 4 f) b := ⟨fun a k h4 _ => gRow_o h4, rfl⟩
theorem bRep_row {M : gMem} {b : Nat} {s : aB} {f : Nat → Nat} (hb : 4 < b) (h : bRep M b s) : bRep (gRow M 4 f) b s := by
  obtain ⟨h1, h2, h3, h4, h5, h6, h7⟩ := h
  exact ⟨by rw [gRow_o (by omega)]; exact h1, by rw [gRow_o (by omega)]; exact h2, by rw [gRow_o (by omega)]; exact h3, by rw [gRow_o (by omega)]; exact h4, fun i w hi hw => by rw [gRow_o (by omega)]; exact h5 i w hi hw, fun i hi => by rw [gRow_o (by omega)]; exact h6 i hi, fun i w hi hw => by rw [gRow_o (by omega)]; exact h7 i w hi hw⟩
/-- the text read, place by place -/
def rP (t : Nat → Nat) (L : Nat) : Nat → Nat → Nat → (Nat → Nat) → aB → Option Nat × aB
  | 0, _, start, _, s => (if start < L then some start else none, s)
  | k + 1, p, start, nf, s =>
    if t p = 59 then
      (match rI (t start) (aN t (p - (start + 1)) (start + 1) 0 nf 0 0).1 (aN t (p - (start + 1)) (start + 1) 0 nf 0 0).2 s with
      | none => (some start, s)
      | some s' => rP t L k (p + 1) (p + 1) (aN t (p - (start + 1)) (start + 1) 0 nf 0 0).2 s')
    else rP t L k (p + 1) start nf s
theorem rI_ok {kind c : Nat} {f : Nat → Nat} {s s' : aB} (h : rI kind c f s = some s') (hs : aOk s) : aOk s' := by
  obtain ⟨h1, h2, h3, h4, h5, h6⟩ := hs
  unfold rI at h
  split at h
  · split at h
    · rename_i q; cases h; exact ⟨h1, h2, q.2.1, q.2.2, h5, h6⟩
    · cases h
  · split at h
    · split at h
      · rename_i q; cases h
        refine ⟨by show s.1.1 + 1 ≤ 10; omega, h2, h3, h4, fun i hi => ?_, h6⟩
        show oOk (updR s.1.2 s.1.1 f i) = true
        have hi : i < s.1.1 + 1 := hi
        simp only [updR]
        split
        · exact q.2.2
        · exact h5 i (by omega)
      · cases h
    · split at h
      · split at h
        · rename_i q; cases h
          refine ⟨h1, by show s.2.1.1 + 1 ≤ 4; omega, h3, h4, h5, fun i hi => ?_⟩
          show hTold (updR s.2.1.2 s.2.1.1 f i) = true
          have hi : i < s.2.1.1 + 1 := hi
          simp only [updR]
          split
          · exact q.2.2
          · exact h6 i (by omega)
        · cases h
      · cases h
theorem cO_rep {u : gMem} {b : Nat} {s : aB} (h : bRep u b s) (hs : aOk s) : cO u b := by
  obtain ⟨h1, h2, h3, h4, h5, h6, h7⟩ := h
  obtain ⟨a1, a2, a3, a4, a5, a6⟩ := hs
  refine ⟨by rw [h1]; exact a1, by rw [h2]; exact a2, by rw [h3, h4]; exact a3, by rw [h4]; exact a4, fun i hi => ?_, fun z hz => ?_⟩
  · rw [h1] at hi
    have q := of_decide_eq_true (a5 i hi)
    have e : ∀ w, w < 7 → u.1 (b + 3 + i) w = s.1.2 i w := fun w hw => h5 i w hi hw
    have e7 := h6 i hi
    refine ⟨?_, ?_, ?_, ?_, ?_, ?_, ?_, ?_⟩ <;> simp only [cV, oV] <;> (try rw [e7]) <;> (repeat rw [e _ (by decide)]) <;> omega
  · rw [h2] at hz
    have q := of_decide_eq_true (a6 z hz)
    have e : ∀ w, w < 3 → u.1 (b + 13 + z) w = s.2.1.2 z w := fun w hw => h7 z w hz hw
    refine ⟨?_, ?_, ?_, ?_⟩ <;> simp only [cH] <;> (rw [e _ (by decide)]) <;> omega
