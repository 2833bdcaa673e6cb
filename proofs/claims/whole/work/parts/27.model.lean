/-! the reference's cells: 60 the object, 61 text, 62 readOffers, 63 readHolds, 64 offers, 65 holds, 66 now, 67 past, 68 numbers -/
def mSh (E : gEnv) : Prop := gSh E 60 = 8 ∧ (gSh E 61 = 9 ∧ gLn E 61 = 200) ∧ (gSh E 62 = 9 ∧ gLn E 62 = 70) ∧ (gSh E 63 = 9 ∧ gLn E 63 = 12) ∧ (gSh E 64 = 9 ∧ gLn E 64 = 70) ∧ (gSh E 65 = 9 ∧ gLn E 65 = 12) ∧ (gSh E 66 = 9 ∧ gLn E 66 = 11) ∧ (gSh E 67 = 9 ∧ gLn E 67 = 66) ∧ (gSh E 68 = 9 ∧ gLn E 68 = 7)
def mR (E : gEnv) (M : gMem) : Prop := mSh E ∧ M.2 60 0 = 61 ∧ M.2 60 3 = 62 ∧ M.2 60 4 = 63 ∧ M.2 60 9 = 64 ∧ M.2 60 10 = 65 ∧ M.2 60 15 = 66 ∧ M.2 60 16 = 67 ∧ M.2 60 18 = 68
theorem mR.s0 {E : gEnv} {M : gMem} (h : mR E M) : gSh E 60 = 8 := h.1.1
theorem mR.s1 {E : gEnv} {M : gMem} (h : mR E M) : gSh E 61 = 9 := h.1.2.1.1
theorem mR.l1 {E : gEnv} {M : gMem} (h : mR E M) : gLn E 61 = 200 := h.1.2.1.2
theorem mR.s2 {E : gEnv} {M : gMem} (h : mR E M) : gSh E 62 = 9 := h.1.2.2.1.1
theorem mR.l2 {E : gEnv} {M : gMem} (h : mR E M) : gLn E 62 = 70 := h.1.2.2.1.2
theorem mR.s3 {E : gEnv} {M : gMem} (h : mR E M) : gSh E 63 = 9 := h.1.2.2.2.1.1
theorem mR.l3 {E : gEnv} {M : gMem} (h : mR E M) : gLn E 63 = 12 := h.1.2.2.2.1.2
theorem mR.s4 {E : gEnv} {M : gMem} (h : mR E M) : gSh E 64 = 9 := h.1.2.2.2.2.1.1
theorem mR.l4 {E : gEnv} {M : gMem} (h : mR E M) : gLn E 64 = 70 := h.1.2.2.2.2.1.2
theorem mR.s5 {E : gEnv} {M : gMem} (h : mR E M) : gSh E 65 = 9 := h.1.2.2.2.2.2.1.1
theorem mR.l5 {E : gEnv} {M : gMem} (h : mR E M) : gLn E 65 = 12 := h.1.2.2.2.2.2.1.2
theorem mR.s6 {E : gEnv} {M : gMem} (h : mR E M) : gSh E 66 = 9 := h.1.2.2.2.2.2.2.1.1
theorem mR.l6 {E : gEnv} {M : gMem} (h : mR E M) : gLn E 66 = 11 := h.1.2.2.2.2.2.2.1.2
theorem mR.s7 {E : gEnv} {M : gMem} (h : mR E M) : gSh E 67 = 9 := h.1.2.2.2.2.2.2.2.1.1
theorem mR.l7 {E : gEnv} {M : gMem} (h : mR E M) : gLn E 67 = 66 := h.1.2.2.2.2.2.2.2.1.2
theorem mR.s8 {E : gEnv} {M : gMem} (h : mR E M) : gSh E 68 = 9 := h.1.2.2.2.2.2.2.2.2.1
theorem mR.l8 {E : gEnv} {M : gMem} (h : mR E M) : gLn E 68 = 7 := h.1.2.2.2.2.2.2.2.2.2
theorem mR.r1 {E : gEnv} {M : gMem} (h : mR E M) : M.2 60 0 = 61 := h.2.1
theorem mR.r2 {E : gEnv} {M : gMem} (h : mR E M) : M.2 60 3 = 62 := h.2.2.1
theorem mR.r3 {E : gEnv} {M : gMem} (h : mR E M) : M.2 60 4 = 63 := h.2.2.2.1
theorem mR.r4 {E : gEnv} {M : gMem} (h : mR E M) : M.2 60 9 = 64 := h.2.2.2.2.1
theorem mR.r5 {E : gEnv} {M : gMem} (h : mR E M) : M.2 60 10 = 65 := h.2.2.2.2.2.1
theorem mR.r6 {E : gEnv} {M : gMem} (h : mR E M) : M.2 60 15 = 66 := h.2.2.2.2.2.2.1
theorem mR.r7 {E : gEnv} {M : gMem} (h : mR E M) : M.2 60 16 = 67 := h.2.2.2.2.2.2.2.1
theorem mR.r8 {E : gEnv} {M : gMem} (h : mR E M) : M.2 60 18 = 68 := h.2.2.2.2.2.2.2.2
theorem mV_o {M : gMem} {i w : Nat} (h3 : w ≠ 3) (h4 : w ≠ 4) : mV M i w = M.1 64 (7 * i + w) := by
  unfold mV
  split
  · exact absurd rfl h3
  · exact absurd rfl h4
  · rfl
def b2 (lo x hi : Int32) : Bool := decide (lo ≤ x ∧ x ≤ hi)
theorem b2_G {x : Int32} {lo hi : Nat} (h1 : lo < 2147483648) (h2 : hi < 2147483648) : b2 (nI lo) x (nI hi) = inG x lo hi := by
  unfold b2 inG
  rw [Bool.eq_iff_iff, decide_eq_true_iff, decide_eq_true_iff, Int32.le_iff_toInt_le, Int32.le_iff_toInt_le, nI_toInt (by omega), nI_toInt (by omega)]
theorem b2_N {x lo hi : Nat} (h0 : x < 2147483648) (h1 : lo < 2147483648) (h2 : hi < 2147483648) : b2 (nI lo) (nI x) (nI hi) = decide (lo ≤ x ∧ x ≤ hi) := by
  rw [b2_G h1 h2]
  unfold inG
  rw [nI_toInt (by omega)]
  simp
theorem pk_sub_toInt' {n : Nat} (h : n < 2147483648) : (nI n - nI 1).toInt = (n : Int) - 1 := by
  rcases Nat.eq_zero_or_pos n with h0 | h0
  · subst h0; decide
  · rw [pk_sub h0, nI_toInt (by omega)]; omega
theorem b2_R {x : Int32} {n : Nat} (h : n < 2147483648) : b2 (nI 0) x (nI n - nI 1) = inR x n := by
  unfold b2 inR
  rw [Bool.eq_iff_iff, decide_eq_true_iff, decide_eq_true_iff, Int32.le_iff_toInt_le, Int32.le_iff_toInt_le, nI_toInt (by omega), pk_sub_toInt' h]
  omega
/-- sums of ones -/
theorem sSold_le {V : Nat → Nat → Nat} {n sg row wk : Nat} : sSold V n sg row wk ≤ n := by
  have h := sSum_le (f := fun i => if sg.testBit i && sPt V i row wk then 1 else 0) (c := 1) n (fun i _ => by show (if _ then 1 else 0) ≤ 1; split <;> omega)
  simpa [sSold] using h
theorem sKept_brk {V : Nat → Nat → Nat} {n : Nat} {Hd : Nat → Nat → Nat} {set h : Nat} : ∀ m, sBrk V n Hd set h m = 0 ↔ sAny (fun land => !(sKept V n Hd set h land)) m = false := by
  intro m
  induction m with
  | zero => simp [sBrk, sAny]
  | succ m ih =>
    simp only [sBrk, sAny, Bool.or_eq_false_iff]
    rw [← ih]
    have hp : 2 ^ m ≠ 0 := by have := Nat.two_pow_pos m; omega
    cases hk : sKept V n Hd set h m with
    | true => simp
    | false => simp [Nat.or_eq_zero_iff, hp]
theorem sBrk_lt {V : Nat → Nat → Nat} {n : Nat} {Hd : Nat → Nat → Nat} {set h : Nat} : ∀ m, sBrk V n Hd set h m < 2 ^ m := by
  intro m
  induction m with
  | zero => simp [sBrk]
  | succ m ih =>
    have h1 : 2 ^ m < 2 ^ (m + 1) := Nat.pow_lt_pow_right (by decide) (by omega)
    simp only [sBrk]
    refine Nat.or_lt_two_pow (Nat.lt_trans ih h1) ?_
    split
    · exact Nat.two_pow_pos _
    · exact h1
/-- a set is good, as the reference asks it: so far i -/
def gmJ (V : Nat → Nat → Nat) (set i : Nat) : Nat → Bool := fun j => sAny (fun z => set.testBit z && sCl (V i) (V z)) j
def gmI (V : Nat → Nat → Nat) (fr to set : Nat) (i : Nat) : Bool := set.testBit i && (!(sIn V fr to i) || gmJ V set i i)
def goodM (V : Nat → Nat → Nat) (n : Nat) (Hd : Nat → Nat → Nat) (k fr to set : Nat) : Bool := sKepts V n Hd k set && !(sAny (gmI V fr to set) n)
