/-! WHAT A STATE IS. The view of the offers: V i w, w = 0 lands, 1 tongues, 2 means, 3 first (as moved), 4 last, 5 alone, 6 price; Hd h w of the holds: 0 later, 1 earlier, 2 weeks. cV, cH: of the class's book b; mV, mH: of the reference. -/
def cV (M : gMem) (b : Nat) : Nat → Nat → Nat := fun i w => match w with
  | 3 => M.1 (b + 3 + i) 3 + M.1 (b + 3 + i) 7
  | 4 => M.1 (b + 3 + i) 4 + M.1 (b + 3 + i) 7
  | w => M.1 (b + 3 + i) w
def cH (M : gMem) (b : Nat) : Nat → Nat → Nat := fun h w => M.1 (b + 13 + h) w
def mV (M : gMem) : Nat → Nat → Nat := fun i w => match w with
  | 3 => M.1 64 (7 * i + 3) + M.1 66 i
  | 4 => M.1 64 (7 * i + 4) + M.1 66 i
  | w => M.1 64 (7 * i + w)
def mH (M : gMem) : Nat → Nat → Nat := fun h w => M.1 65 (3 * h + w)
def vOk (n : Nat) (V : Nat → Nat → Nat) (k : Nat) (Hd : Nat → Nat → Nat) (fr to : Nat) : Prop :=
  n ≤ 10 ∧ k ≤ 4 ∧ fr ≤ to ∧ to ≤ 51 ∧ (∀ i, i < n → V i 0 < 64 ∧ V i 1 < 16 ∧ V i 2 < 16 ∧ V i 3 ≤ V i 4 ∧ V i 4 ≤ 51 ∧ V i 5 ≤ 1 ∧ 1 ≤ V i 6 ∧ V i 6 ≤ 99) ∧ ∀ h, h < k → Hd h 0 < 4 ∧ Hd h 1 < 4 ∧ 1 ≤ Hd h 2 ∧ Hd h 2 ≤ 51
/-- the cells of a book -/
def cBr (E : gEnv) (M : gMem) (b : Nat) : Prop := (gSh E b = 1 ∧ gSh E (b + 1) = 11 ∧ gLn E (b + 1) = 10 ∧ gSh E (b + 2) = 12 ∧ gLn E (b + 2) = 4 ∧ M.2 b 0 = b + 1 ∧ M.2 b 2 = b + 2) ∧ (∀ i, i < 10 → gSh E (b + 3 + i) = 5 ∧ M.2 (b + 1) i = b + 3 + i) ∧ ∀ h, h < 4 → gSh E (b + 13 + h) = 4 ∧ M.2 (b + 2) h = b + 13 + h
def cO (M : gMem) (b : Nat) : Prop := vOk (M.1 b 1) (cV M b) (M.1 b 3) (cH M b) (M.1 b 4) (M.1 b 5)
def mO (M : gMem) : Prop := vOk (M.1 60 11) (mV M) (M.1 60 12) (mH M) (M.1 60 13) (M.1 60 14)
def sSum (f : Nat → Nat) : Nat → Nat
  | 0 => 0
  | n + 1 => sSum f n + f n
def sAny (p : Nat → Bool) : Nat → Bool
  | 0 => false
  | n + 1 => sAny p n || p n
/-- the first of j, j + 1, .. (k of them) with p -/
def sFr (p : Nat → Bool) : Nat → Nat → Option Nat
  | _, 0 => none
  | j, k + 1 => if p j then some j else sFr p (j + 1) k
def oN : Option Nat → Int32
  | none => -4
  | some x => nI x
def sPrice (V : Nat → Nat → Nat) (n set : Nat) : Nat := sSum (fun i => if set.testBit i then V i 6 else 0) n
def sOnes (x : Nat) : Nat := sSum (fun k => x / 2 ^ k % 2) 10
def sWk (V : Nat → Nat → Nat) (i j : Nat) : Nat := (if V i 4 < V j 4 then V i 4 else V j 4) + 1 - (if V i 3 > V j 3 then V i 3 else V j 3)
def sCom (V : Nat → Nat → Nat) (i j : Nat) : Nat := sOnes (V i 0 &&& V j 0) * sOnes (V i 1 &&& V j 1) * sOnes (V i 2 &&& V j 2) * sWk V i j
def sCl (V : Nat → Nat → Nat) (i j : Nat) : Bool := (V i 5 == 1 || V j 5 == 1) && decide (0 < sCom V i j)
def sIn (V : Nat → Nat → Nat) (fr to i : Nat) : Bool := decide (fr ≤ V i 3) && decide (V i 4 ≤ to)
def sHas (V : Nat → Nat → Nat) (set land means i : Nat) : Bool := set.testBit i && (V i 0).testBit land && (V i 2).testBit means
def sLess (f : Nat) : Option Nat → Bool
  | none => true
  | some x => decide (f < x)
def sBg (V : Nat → Nat → Nat) (set land means : Nat) : Nat → Option Nat
  | 0 => none
  | i + 1 => if sHas V set land means i && sLess (V i 3) (sBg V set land means i) then some (V i 3) else sBg V set land means i
def sKp (a b : Option Nat) (w : Nat) : Bool := match a, b with
  | some a, some b => decide (b + w ≤ a)
  | _, _ => true
def sKept (V : Nat → Nat → Nat) (n : Nat) (Hd : Nat → Nat → Nat) (set h land : Nat) : Bool := sKp (sBg V set land (Hd h 0) n) (sBg V set land (Hd h 1) n) (Hd h 2)
def sBrk (V : Nat → Nat → Nat) (n : Nat) (Hd : Nat → Nat → Nat) (set h : Nat) : Nat → Nat
  | 0 => 0
  | land + 1 => sBrk V n Hd set h land ||| (if sKept V n Hd set h land then 0 else 2 ^ land)
def sKept6 (V : Nat → Nat → Nat) (n : Nat) (Hd : Nat → Nat → Nat) (set h : Nat) : Bool := !(sAny (fun land => !(sKept V n Hd set h land)) 6)
def sKepts (V : Nat → Nat → Nat) (n : Nat) (Hd : Nat → Nat → Nat) (k set : Nat) : Bool := !(sAny (fun h => !(sKept6 V n Hd set h)) k)
def sClashOf (V : Nat → Nat → Nat) (n i set : Nat) : Option Nat := sFr (fun j => j != i && set.testBit j && sCl V i j) 0 n
def sWhy (V : Nat → Nat → Nat) (n : Nat) (Hd : Nat → Nat → Nat) (k fr to sg i : Nat) : Nat :=
  if sg.testBit i then 1 else if !(sIn V fr to i) then 2 else if (sClashOf V n i sg).isSome then 3 else if sKepts V n Hd k (sg ||| 2 ^ i) then 0 else 4
def sPt (V : Nat → Nat → Nat) (i row wk : Nat) : Bool := (V i 0).testBit (row / 16) && (V i 1).testBit (row / 4 % 4) && (V i 2).testBit (row % 4) && (decide (V i 3 ≤ wk) && decide (wk ≤ V i 4))
def sSold (V : Nat → Nat → Nat) (n sg row wk : Nat) : Nat := sSum (fun i => if sg.testBit i && sPt V i row wk then 1 else 0) n
def sAl (V : Nat → Nat → Nat) (n sg row wk : Nat) : Bool := sAny (fun i => sg.testBit i && V i 5 == 1 && sPt V i row wk) n
theorem sSum_le {f : Nat → Nat} {c : Nat} : ∀ n, (∀ i, i < n → f i ≤ c) → sSum f n ≤ c * n := by
  intro n
  induction n with
  | zero => intro _; exact Nat.le_refl _
  | succ n ih =>
    intro h
    have h1 := ih (fun i hi => h i (by omega))
    have h2 := h n (by omega)
    show sSum f n + f n ≤ c * (n + 1)
    rw [Nat.mul_succ]
    omega
theorem sOnes_le (x : Nat) : sOnes x ≤ 10 := by
  have h := sSum_le (f := fun k => x / 2 ^ k % 2) (c := 1) 10 (fun i _ => by show x / 2 ^ i % 2 ≤ 1; omega)
  simpa [sOnes] using h
theorem sFr_step {p : Nat → Bool} {j n : Nat} (h : j < n) : sFr p j (n - j) = if p j then some j else sFr p (j + 1) (n - (j + 1)) := by
  rw [show n - j = (n - (j + 1)) + 1 by omega]; rfl
theorem sFr_lt {p : Nat → Bool} : ∀ k j x, sFr p j k = some x → j ≤ x ∧ x < j + k ∧ p x = true := by
  intro k
  induction k with
  | zero => intro j x h; cases h
  | succ k ih =>
    intro j x h
    unfold sFr at h
    split at h
    · rename_i hp
      cases h
      exact ⟨Nat.le_refl _, by omega, hp⟩
    · obtain ⟨a, b, c⟩ := ih (j + 1) x h
      exact ⟨by omega, by omega, c⟩
theorem sBg_le {V : Nat → Nat → Nat} {set land means : Nat} : ∀ n x, (∀ i, i < n → V i 3 ≤ 51) → sBg V set land means n = some x → x ≤ 51 := by
  intro n
  induction n with
  | zero => intro x _ h; cases h
  | succ n ih =>
    intro x hV h
    unfold sBg at h
    split at h
    · cases h; exact hV n (by omega)
    · exact ih x (fun i hi => hV i (by omega)) h
theorem oN_ne {x : Nat} (h : x < 2147483648) : oN (some x) ≠ -4 := by
  intro e
  have e2 := congrArg Int32.toInt e
  rw [show oN (some x) = nI x from rfl, nI_toInt (by omega)] at e2
  have e3 : ((-4 : Int32)).toInt = -4 := by decide
  omega
