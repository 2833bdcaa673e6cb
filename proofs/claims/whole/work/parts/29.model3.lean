theorem tbt {s i : Nat} (h : s / 2 ^ i % 2 = 1) : s.testBit i = true := by rw [nx_tb]; exact decide_eq_true h
theorem tbf {s i : Nat} (h : s / 2 ^ i % 2 ≠ 1) : s.testBit i = false := by rw [nx_tb]; exact decide_eq_false h
theorem nI_dec (m : Nat) : nI m + Int32.ofInt (-1) = nI m - nI 1 := by
  show nI m + (-1) = nI m - 1
  grind
def gmP (V : Nat → Nat → Nat) (n : Nat) (Hd : Nat → Nat → Nat) (k fr to set i : Nat) : Bool := sKepts V n Hd k set && !(sAny (gmI V fr to set) i)
def gmQ (V : Nat → Nat → Nat) (fr to set i j : Nat) : Bool := sIn V fr to i && !(gmJ V set i j)
theorem sAny_up {p : Nat → Bool} {i m : Nat} (h : i ≤ m) (hi : sAny p i = true) : sAny p m = true := by
  obtain ⟨z, a, b⟩ := sAny_iff.mp hi
  exact sAny_iff.mpr ⟨z, by omega, b⟩
theorem gmP_f {V : Nat → Nat → Nat} {n : Nat} {Hd : Nat → Nat → Nat} {k fr to set i m : Nat} (h : i ≤ m) (hi : gmP V n Hd k fr to set i = false) : gmP V n Hd k fr to set m = false := by
  unfold gmP at hi ⊢
  cases hk : sKepts V n Hd k set with
  | false => rfl
  | true =>
    rw [hk] at hi
    have hi : sAny (gmI V fr to set) i = true := by simpa using hi
    rw [sAny_up h hi]; rfl
theorem gmQ_f {V : Nat → Nat → Nat} {fr to set i j m : Nat} (h : j ≤ m) (hj : gmQ V fr to set i j = false) : gmQ V fr to set i m = false := by
  unfold gmQ at hj ⊢
  cases hk : sIn V fr to i with
  | false => rfl
  | true =>
    rw [hk] at hj
    have hj : gmJ V set i j = true := by simpa using hj
    have : gmJ V set i m = true := sAny_up h hj
    rw [this]; rfl
theorem gmP_skip {V : Nat → Nat → Nat} {n : Nat} {Hd : Nat → Nat → Nat} {k fr to set i : Nat} (h : set.testBit i = false) : gmP V n Hd k fr to set (i + 1) = gmP V n Hd k fr to set i := by
  simp only [gmP, sAny, gmI, h, Bool.false_and, Bool.or_false]
theorem gmP_step {V : Nat → Nat → Nat} {n : Nat} {Hd : Nat → Nat → Nat} {k fr to set i : Nat} (h : set.testBit i = true) (hp : gmP V n Hd k fr to set i = true) : gmP V n Hd k fr to set (i + 1) = gmQ V fr to set i i := by
  unfold gmP at hp ⊢
  have hk : sKepts V n Hd k set = true := by cases hk : sKepts V n Hd k set with | true => rfl | false => rw [hk] at hp; cases hp
  rw [hk] at hp ⊢
  have hp : sAny (gmI V fr to set) i = false := by simpa using hp
  show (true && !(sAny (gmI V fr to set) i || gmI V fr to set i)) = _
  rw [hp]
  simp only [gmI, gmQ, h]
  cases sIn V fr to i <;> cases gmJ V set i i <;> rfl
theorem gmQ_step {V : Nat → Nat → Nat} {fr to set i j : Nat} (hq : gmQ V fr to set i j = true) : gmQ V fr to set i (j + 1) = !(set.testBit j && sCl (V i) (V j)) := by
  unfold gmQ at hq ⊢
  have hk : sIn V fr to i = true := by cases hk : sIn V fr to i with | true => rfl | false => rw [hk] at hq; cases hq
  rw [hk] at hq ⊢
  have hq : gmJ V set i j = false := by simpa using hq
  show (true && !(gmJ V set i j || (set.testBit j && sCl (V i) (V j)))) = _
  rw [hq]
  simp
/-- windows as the reference seeks them -/
def sLf (V : Nat → Nat → Nat) (n sg row : Nat) : Nat → Bool := fun z => sSold V n sg row z == 0
def sFw (p : Nat → Bool) : Nat → Nat → Nat
  | w, 0 => w
  | w, k + 1 => if p w then w else sFw p (w + 1) k
def sTw (p : Nat → Bool) : Nat → Nat → Nat
  | w, 0 => w
  | w, k + 1 => if p (w + 1) then sTw p (w + 1) k else w
theorem sFw_s {p : Nat → Bool} {w to : Nat} (h : w ≤ to) : sFw p w (to + 1 - w) = if p w then w else sFw p (w + 1) (to + 1 - (w + 1)) := by
  rw [show to + 1 - w = (to + 1 - (w + 1)) + 1 by omega]; rfl
theorem sTw_s {p : Nat → Bool} {w to : Nat} (h : w < to) : sTw p w (to - w) = if p (w + 1) then sTw p (w + 1) (to - (w + 1)) else w := by
  rw [show to - w = (to - (w + 1)) + 1 by omega]; rfl
theorem sFw_le {p : Nat → Bool} : ∀ k w, w ≤ sFw p w k ∧ sFw p w k ≤ w + k := by
  intro k
  induction k with
  | zero => intro w; exact ⟨Nat.le_refl _, Nat.le_refl _⟩
  | succ k ih =>
    intro w
    unfold sFw
    split
    · omega
    · have := ih (w + 1); omega
theorem sTw_le {p : Nat → Bool} : ∀ k w, w ≤ sTw p w k ∧ sTw p w k ≤ w + k := by
  intro k
  induction k with
  | zero => intro w; exact ⟨Nat.le_refl _, Nat.le_refl _⟩
  | succ k ih =>
    intro w
    unfold sTw
    split
    · have := ih (w + 1); omega
    · omega
