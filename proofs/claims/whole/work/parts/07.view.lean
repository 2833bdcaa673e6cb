/-! WHAT A STATE IS. The view of the offers: V i w, w = 0 lands, 1 tongues, 2 means, 3 first (as moved), 4 last, 5 alone, 6 price; Hd h w of the holds: 0 later, 1 earlier, 2 weeks. cV, cH: of the class's book b; mV, mH: of the reference. -/
def oV (M : gMem) (a : Nat) : Nat → Nat := fun w => match w with
  | 3 => M.1 a 3 + M.1 a 7
  | 4 => M.1 a 4 + M.1 a 7
  | w => M.1 a w
def cV (M : gMem) (b : Nat) : Nat → Nat → Nat := fun i => oV M (b + 3 + i)
def cH (M : gMem) (b : Nat) : Nat → Nat → Nat := fun h w => M.1 (b + 13 + h) w
def mV (M : gMem) : Nat → Nat → Nat := fun i w => match w with
  | 3 => M.1 64 (7 * i + 3) + M.1 66 i
  | 4 => M.1 64 (7 * i + 4) + M.1 66 i
  | w => M.1 64 (7 * i + w)
def mH (M : gMem) : Nat → Nat → Nat := fun h w => M.1 65 (3 * h + w)
def uOk (u : Nat → Nat) : Prop := u 0 < 64 ∧ u 1 < 16 ∧ u 2 < 16 ∧ u 3 ≤ u 4 ∧ u 4 ≤ 51 ∧ u 5 ≤ 1 ∧ 1 ≤ u 6 ∧ u 6 ≤ 99
def vOk (n : Nat) (V : Nat → Nat → Nat) (k : Nat) (Hd : Nat → Nat → Nat) (fr to : Nat) : Prop :=
  n ≤ 10 ∧ k ≤ 4 ∧ fr ≤ to ∧ to ≤ 51 ∧ (∀ i, i < n → uOk (V i)) ∧ ∀ h, h < k → Hd h 0 < 4 ∧ Hd h 1 < 4 ∧ 1 ≤ Hd h 2 ∧ Hd h 2 ≤ 51
/-- the cells of a book -/
def cBr (E : gEnv) (M : gMem) (b : Nat) : Prop := (gSh E b = 1 ∧ gSh E (b + 1) = 11 ∧ gLn E (b + 1) = 10 ∧ gSh E (b + 2) = 12 ∧ gLn E (b + 2) = 4 ∧ M.2 b 0 = b + 1 ∧ M.2 b 2 = b + 2) ∧ (∀ i, i < 10 → gSh E (b + 3 + i) = 5 ∧ M.2 (b + 1) i = b + 3 + i) ∧ ∀ h, h < 4 → gSh E (b + 13 + h) = 4 ∧ M.2 (b + 2) h = b + 13 + h
def cO (M : gMem) (b : Nat) : Prop := vOk (M.1 b 1) (cV M b) (M.1 b 3) (cH M b) (M.1 b 4) (M.1 b 5)
def mO (M : gMem) : Prop := vOk (M.1 60 11) (mV M) (M.1 60 12) (mH M) (M.1 60 13) (M.1 60 14)
def sSum (f : Nat → Nat) : Nat → Nat
  | 0 => 0
  | n + 1 => sSum f n + f n
def sAny (p : Nat → Bool) : Nat → Bool
  | 0 => false
  | n + 1 => sAny p n || p n
/-- the first of j, j + 1, .. (k of them) with p -/
def sFr (p : Nat → Bool) : Nat → Nat → Option Nat
  | _, 0 => none
  | j, k + 1 => if p j then some j else sFr p (j + 1) k
def oN : Option Nat → Int32
  | none => -4
  | some x => nI x
def sPrice (V : Nat → Nat → Nat) (n set : Nat) : Nat := sSum (fun i => if set.testBit i then V i 6 else 0) n
def sOnes (x : Nat) : Nat := sSum (fun k => x / 2 ^ k % 2) 10
def sWk (u v : Nat → Nat) : Nat := (if u 4 < v 4 then u 4 else v 4) + 1 - (if u 3 > v 3 then u 3 else v 3)
def sCom (u v : Nat → Nat) : Nat := sOnes (u 0 &&& v 0) * sOnes (u 1 &&& v 1) * sOnes (u 2 &&& v 2) * sWk u v
def sCl (u v : Nat → Nat) : Bool := (u 5 == 1 || v 5 == 1) && decide (0 < sCom u v)
def sMt (u v : Nat → Nat) : Bool := (u 0 &&& v 0 != 0) && (u 1 &&& v 1 != 0) && (u 2 &&& v 2 != 0) && decide (u 3 ≤ v 4) && decide (v 3 ≤ u 4)
def sIn (V : Nat → Nat → Nat) (fr to i : Nat) : Bool := decide (fr ≤ V i 3) && decide (V i 4 ≤ to)
def sHas (V : Nat → Nat → Nat) (set land means i : Nat) : Bool := set.testBit i && (V i 0).testBit land && (V i 2).testBit means
def sLess (f : Nat) : Option Nat → Bool
  | none => true
  | some x => decide (f < x)
def sBg (V : Nat → Nat → Nat) (set land means : Nat) : Nat → Option Nat
  | 0 => none
  | i + 1 => if sHas V set land means i && sLess (V i 3) (sBg V set land means i) then some (V i 3) else sBg V set land means i
def sKp (a b : Option Nat) (w : Nat) : Bool := match a, b with
  | some a, some b => decide (b + w ≤ a)
  | _, _ => true
def sKept (V : Nat → Nat → Nat) (n : Nat) (Hd : Nat → Nat → Nat) (set h land : Nat) : Bool := sKp (sBg V set land (Hd h 0) n) (sBg V set land (Hd h 1) n) (Hd h 2)
def sBrk (V : Nat → Nat → Nat) (n : Nat) (Hd : Nat → Nat → Nat) (set h : Nat) : Nat → Nat
  | 0 => 0
  | land + 1 => sBrk V n Hd set h land ||| (if sKept V n Hd set h land then 0 else 2 ^ land)
def sKept6 (V : Nat → Nat → Nat) (n : Nat) (Hd : Nat → Nat → Nat) (set h : Nat) : Bool := !(sAny (fun land => !(sKept V n Hd set h land)) 6)
def sKepts (V : Nat → Nat → Nat) (n : Nat) (Hd : Nat → Nat → Nat) (k set : Nat) : Bool := !(sAny (fun h => !(sKept6 V n Hd set h)) k)
def sClashOf (V : Nat → Nat → Nat) (n i set : Nat) : Option Nat := sFr (fun j => j != i && set.testBit j && sCl (V i) (V j)) 0 n
def sWhy (V : Nat → Nat → Nat) (n : Nat) (Hd : Nat → Nat → Nat) (k fr to sg i : Nat) : Nat :=
  if sg.testBit i then 1 else if !(sIn V fr to i) then 2 else if (sClashOf V n i sg).isSome then 3 else if sKepts V n Hd k (sg ||| 2 ^ i) then 0 else 4
def sPt (V : Nat → Nat → Nat) (i row wk : Nat) : Bool := (V i 0).testBit (row / 16) && (V i 1).testBit (row / 4 % 4) && (V i 2).testBit (row % 4) && (decide (V i 3 ≤ wk) && decide (wk ≤ V i 4))
def sSold (V : Nat → Nat → Nat) (n sg row wk : Nat) : Nat := sSum (fun i => if sg.testBit i && sPt V i row wk then 1 else 0) n
def sAl (V : Nat → Nat → Nat) (n sg row wk : Nat) : Bool := sAny (fun i => sg.testBit i && V i 5 == 1 && sPt V i row wk) n
theorem sSum_le {f : Nat → Nat} {c : Nat} : ∀ n, (∀ i, i < n → f i ≤ c) → sSum f n ≤ c * n := by
  intro n
  induction n with
  | zero => intro _; exact Nat.le_refl _
  | succ n ih =>
    intro h
    have h1 := ih (fun i hi => h i (by omega))
    have h2 := h n (by omega)
    show sSum f n + f n ≤ c * (n + 1)
    rw [Nat.mul_succ]
    omega
theorem sOnes_le (x : Nat) : sOnes x ≤ 10 := by
  have h := sSum_le (f := fun k => x / 2 ^ k % 2) (c := 1) 10 (fun i _ => by show x / 2 ^ i % 2 ≤ 1; omega)
  simpa [sOnes] using h
theorem sFr_step {p : Nat → Bool} {j n : Nat} (h : j < n) : sFr p j (n - j) = if p j then some j else sFr p (j + 1) (n - (j + 1)) := by
  rw [show n - j = (n - (j + 1)) + 1 by omega]; rfl
theorem sFr_lt {p : Nat → Bool} : ∀ k j x, sFr p j k = some x → j ≤ x ∧ x < j + k ∧ p x = true := by
  intro k
  induction k with
  | zero => intro j x h; cases h
  | succ k ih =>
    intro j x h
    unfold sFr at h
    split at h
    · rename_i hp
      cases h
      exact ⟨Nat.le_refl _, by omega, hp⟩
    · obtain ⟨a, b, c⟩ := ih (j + 1) x h
      exact ⟨by omega, by omega, c⟩
theorem sBg_le {V : Nat → Nat → Nat} {set land means : Nat} : ∀ n x, (∀ i, i < n → V i 3 ≤ 51) → sBg V set land means n = some x → x ≤ 51 := by
  intro n
  induction n with
  | zero => intro x _ h; cases h
  | succ n ih =>
    intro x hV h
    unfold sBg at h
    split at h
    · cases h; exact hV n (by omega)
    · exact ih x (fun i hi => hV i (by omega)) h
theorem oN_ne {x : Nat} (h : x < 2147483648) : oN (some x) ≠ -4 := by
  intro e
  have e2 := congrArg Int32.toInt e
  rw [show oN (some x) = nI x from rfl, nI_toInt (by omega)] at e2
  have e3 : ((-4 : Int32)).toInt = -4 := by decide
  omega
theorem sOnes_pos : ∀ x, x < 64 → (0 < sOnes x ↔ x ≠ 0) := by decide +kernel
theorem and_lt64 {a b c : Nat} (h : a < c) : a &&& b < c := Nat.lt_of_le_of_lt Nat.and_le_left h
theorem sMt_eq {u v : Nat → Nat} (hu : uOk u) (hv : uOk v) : decide (0 < sCom u v) = sMt u v := by
  obtain ⟨a0, a1, a2, a3, a4, -⟩ := hu
  obtain ⟨b0, b1, b2, b3, b4, -⟩ := hv
  have e0 := sOnes_pos (u 0 &&& v 0) (and_lt64 a0)
  have e1 := sOnes_pos (u 1 &&& v 1) (and_lt64 (by omega))
  have e2 := sOnes_pos (u 2 &&& v 2) (and_lt64 (by omega))
  have e3 : 0 < sWk u v ↔ (u 3 ≤ v 4 ∧ v 3 ≤ u 4) := by
    unfold sWk
    split <;> split <;> omega
  have e4 : 0 < sCom u v ↔ ((0 < sOnes (u 0 &&& v 0) ∧ 0 < sOnes (u 1 &&& v 1)) ∧ 0 < sOnes (u 2 &&& v 2)) ∧ 0 < sWk u v := by
    unfold sCom
    simp only [Nat.pos_iff_ne_zero, Nat.mul_ne_zero_iff]
  rw [Bool.eq_iff_iff, decide_eq_true_iff, e4, e0, e1, e2, e3]
  simp only [sMt, Bool.and_eq_true, bne_iff_ne, decide_eq_true_eq]
  constructor
  · rintro ⟨⟨⟨h0, h1⟩, h2⟩, h3, h4⟩; exact ⟨⟨⟨⟨h0, h1⟩, h2⟩, h3⟩, h4⟩
  · rintro ⟨⟨⟨⟨h0, h1⟩, h2⟩, h3⟩, h4⟩; exact ⟨⟨⟨h0, h1⟩, h2⟩, h3, h4⟩
def sPcI (V : Nat → Nat → Nat) (i : Nat) : Nat → Nat := sSum (fun t => if sCl (V i) (V (i + 1 + t)) then 1 else 0)
def sPc (V : Nat → Nat → Nat) (n : Nat) : Nat → Nat := sSum (fun i => sPcI V i (n - (i + 1)))
def sOut (V : Nat → Nat → Nat) (fr to : Nat) : Nat → Nat
  | 0 => 0
  | i + 1 => sOut V fr to i ||| (if sIn V fr to i then 0 else 2 ^ i)
/-- of a set no two clash: as the class asks it -/
def sNc (V : Nat → Nat → Nat) (n set : Nat) : Bool := !(sAny (fun i => set.testBit i && (sClashOf V n i set).isSome) n)
theorem sAny_step {p : Nat → Bool} {i n : Nat} (h : sAny p i = false) (hi : p i = false) : sAny p (i + 1) = false := by show (sAny p i || p i) = false; rw [h, hi]; rfl
theorem sAny_true {p : Nat → Bool} {i : Nat} : ∀ n, i < n → p i = true → sAny p n = true := by
  intro n
  induction n with
  | zero => intro h; omega
  | succ n ih =>
    intro h hp
    show (sAny p n || p n) = true
    by_cases he : i = n
    · subst he; rw [hp]; simp
    · rw [ih (by omega) hp]; rfl
theorem sAny_iff {p : Nat → Bool} {n : Nat} : sAny p n = true ↔ ∃ i, i < n ∧ p i = true := by
  constructor
  · induction n with
    | zero => intro h; cases h
    | succ n ih =>
      intro h
      have h : (sAny p n || p n) = true := h
      rcases Bool.or_eq_true _ _ |>.mp h with h | h
      · obtain ⟨i, a, b⟩ := ih h; exact ⟨i, by omega, b⟩
      · exact ⟨n, by omega, h⟩
  · rintro ⟨i, a, b⟩; exact sAny_true n a b
theorem sAny_no {p : Nat → Bool} {n : Nat} : sAny p n = false ↔ ∀ i, i < n → p i = false := by
  rw [← Bool.not_eq_true, sAny_iff]
  constructor
  · intro h i hi
    cases hp : p i with
    | false => rfl
    | true => exact absurd ⟨i, hi, hp⟩ h
  · rintro h ⟨i, a, b⟩; rw [h i a] at b; cases b
theorem sMt_iff {u v : Nat → Nat} : sMt u v = true ↔ u 0 &&& v 0 ≠ 0 ∧ u 1 &&& v 1 ≠ 0 ∧ u 2 &&& v 2 ≠ 0 ∧ u 3 ≤ v 4 ∧ v 3 ≤ u 4 := by
  simp only [sMt, Bool.and_eq_true, bne_iff_ne, decide_eq_true_eq, and_assoc]
theorem sCl_iff {u v : Nat → Nat} (hu : uOk u) (hv : uOk v) : sCl u v = true ↔ (u 5 = 1 ∨ v 5 = 1) ∧ sMt u v = true := by
  simp only [sCl, sMt_eq hu hv, Bool.and_eq_true, Bool.or_eq_true, beq_iff_eq]
theorem sIn_iff {V : Nat → Nat → Nat} {fr to i : Nat} : sIn V fr to i = true ↔ fr ≤ V i 3 ∧ V i 4 ≤ to := by
  simp only [sIn, Bool.and_eq_true, decide_eq_true_eq]
theorem bt_of {b : Bool} (h : b = true) : true = b := h.symm
theorem bf_of {b : Bool} (h : ¬ b = true) : false = b := (Bool.eq_false_iff.mpr h).symm
