/-! the class's own cells: 1 ShowRights, 2 text, 3 reader, 4 numbers, 5 history, 6 its changes, 10.. the changes, 20 and 40 the books (b + 1 offers, b + 2 holds, b + 3.. the offers, b + 13.. the holds) -/
def cSs (E : gEnv) : Prop := gSh E 1 = 7 ∧ gSh E 2 = 10 ∧ gLn E 2 = 200 ∧ gSh E 3 = 6 ∧ gSh E 4 = 9 ∧ gLn E 4 = 7 ∧ gSh E 5 = 3 ∧ gSh E 6 = 13 ∧ gLn E 6 = 6 ∧ ∀ c, c < 6 → gSh E (10 + c) = 2
def cS (E : gEnv) (M : gMem) (b b' : Nat) : Prop := cSs E ∧ (M.2 1 0 = 2 ∧ M.2 1 2 = 3 ∧ M.2 1 6 = 5 ∧ M.2 3 0 = 4 ∧ M.2 5 0 = 6 ∧ M.2 1 3 = b ∧ M.2 1 4 = b') ∧ cBr E M b ∧ cBr E M b' ∧ ((b = 20 ∧ b' = 40) ∨ (b = 40 ∧ b' = 20)) ∧ (∀ c, c < 6 → 10 ≤ M.2 6 c ∧ M.2 6 c < 16) ∧ ∀ c d, c < 6 → d < 6 → M.2 6 c = M.2 6 d → c = d
theorem cS.s1 {E : gEnv} {M : gMem} {b b' : Nat} (h : cS E M b b') : gSh E 1 = 7 := h.1.1
theorem cS.s2 {E : gEnv} {M : gMem} {b b' : Nat} (h : cS E M b b') : gSh E 2 = 10 := h.1.2.1
theorem cS.l2 {E : gEnv} {M : gMem} {b b' : Nat} (h : cS E M b b') : gLn E 2 = 200 := h.1.2.2.1
theorem cS.s3 {E : gEnv} {M : gMem} {b b' : Nat} (h : cS E M b b') : gSh E 3 = 6 := h.1.2.2.2.1
theorem cS.s4 {E : gEnv} {M : gMem} {b b' : Nat} (h : cS E M b b') : gSh E 4 = 9 := h.1.2.2.2.2.1
theorem cS.l4 {E : gEnv} {M : gMem} {b b' : Nat} (h : cS E M b b') : gLn E 4 = 7 := h.1.2.2.2.2.2.1
theorem cS.s5 {E : gEnv} {M : gMem} {b b' : Nat} (h : cS E M b b') : gSh E 5 = 3 := h.1.2.2.2.2.2.2.1
theorem cS.s6 {E : gEnv} {M : gMem} {b b' : Nat} (h : cS E M b b') : gSh E 6 = 13 := h.1.2.2.2.2.2.2.2.1
theorem cS.l6 {E : gEnv} {M : gMem} {b b' : Nat} (h : cS E M b b') : gLn E 6 = 6 := h.1.2.2.2.2.2.2.2.2.1
theorem cS.rt {E : gEnv} {M : gMem} {b b' : Nat} (h : cS E M b b') : M.2 1 0 = 2 := h.2.1.1
theorem cS.rr {E : gEnv} {M : gMem} {b b' : Nat} (h : cS E M b b') : M.2 1 2 = 3 := h.2.1.2.1
theorem cS.rh {E : gEnv} {M : gMem} {b b' : Nat} (h : cS E M b b') : M.2 1 6 = 5 := h.2.1.2.2.1
theorem cS.rn {E : gEnv} {M : gMem} {b b' : Nat} (h : cS E M b b') : M.2 3 0 = 4 := h.2.1.2.2.2.1
theorem cS.rc {E : gEnv} {M : gMem} {b b' : Nat} (h : cS E M b b') : M.2 5 0 = 6 := h.2.1.2.2.2.2.1
theorem cS.rb {E : gEnv} {M : gMem} {b b' : Nat} (h : cS E M b b') : M.2 1 3 = b := h.2.1.2.2.2.2.2.1
theorem cS.rd {E : gEnv} {M : gMem} {b b' : Nat} (h : cS E M b b') : M.2 1 4 = b' := h.2.1.2.2.2.2.2.2
theorem cS.b0 {E : gEnv} {M : gMem} {b b' : Nat} (h : cS E M b b') : b ≠ 0 := by have := h.2.2.2.2.1; omega
theorem cS.d0 {E : gEnv} {M : gMem} {b b' : Nat} (h : cS E M b b') : b' ≠ 0 := by have := h.2.2.2.2.1; omega
theorem cS.B {E : gEnv} {M : gMem} {b b' : Nat} (h : cS E M b b') : cBr E M b := h.2.2.1
theorem cS.D {E : gEnv} {M : gMem} {b b' : Nat} (h : cS E M b b') : cBr E M b' := h.2.2.2.1
/-- a choice by a number: in range, or bad -/
def fSel (n : Nat) (x : Int32) (g : Nat → Int32) (bad : Int32) : Int32 := if inR x n then g x.toInt.toNat else bad
theorem fSel_in {n j : Nat} {g : Nat → Int32} {bad : Int32} (hj : j < n) (hn : n < 2147483648) : fSel n (nI j) g bad = g j := by
  unfold fSel
  rw [inR_nI (by omega), if_pos (decide_eq_true hj), nI_toInt (by omega)]
  rfl
theorem fSel_out {n : Nat} {x : Int32} {g : Nat → Int32} {bad : Int32} (h : inR x n = false) : fSel n x g bad = bad := by
  unfold fSel
  rw [h]
  rfl
/-- is a number from lo to hi -/
def inG (x : Int32) (lo hi : Nat) : Bool := decide ((lo : Int) ≤ x.toInt ∧ x.toInt ≤ hi)
theorem inG_of {x : Int32} {lo hi : Nat} (h : inG x lo hi = true) : ∃ j, lo ≤ j ∧ j ≤ hi ∧ x = nI j := by
  have h := of_decide_eq_true h
  refine ⟨x.toInt.toNat, by omega, by omega, ?_⟩
  apply Int32.toInt_inj.mp
  have := x.toInt_lt
  rw [nI_toInt (by omega)]
  omega
def fRng (lo hi : Nat) (x : Int32) (g : Nat → Int32) (bad : Int32) : Int32 := if inG x lo hi then g x.toInt.toNat else bad
theorem fRng_in {lo hi j : Nat} {g : Nat → Int32} {bad : Int32} (h1 : lo ≤ j) (h2 : j ≤ hi) (hn : hi < 2147483648) : fRng lo hi (nI j) g bad = g j := by
  unfold fRng inG
  rw [nI_toInt (by omega), if_pos (decide_eq_true (by omega))]
  rfl
theorem fRng_out {lo hi : Nat} {x : Int32} {g : Nat → Int32} {bad : Int32} (h : inG x lo hi = false) : fRng lo hi x g bad = bad := by
  unfold fRng
  rw [h]
  rfl
theorem sMask_bit {f l : Nat} (h : f ≤ l) (k : Nat) : (sMask f l).testBit k = (decide (f ≤ k) && decide (k ≤ l)) := by
  unfold sMask
  have e : 2 ^ (l + 1) - 2 ^ f = 2 ^ f * (2 ^ (l + 1 - f) - 1) := by
    rw [Nat.mul_sub, ← Nat.pow_add, Nat.mul_one]
    congr 2
    omega
  rw [e, Nat.testBit_two_pow_mul, Nat.testBit_two_pow_sub_one]
  by_cases h1 : f ≤ k
  · simp only [h1, decide_true, Bool.true_and]
    rw [Bool.eq_iff_iff, decide_eq_true_iff, decide_eq_true_iff]
    omega
  · simp [h1]
theorem sMask_lt {f l : Nat} (h : l ≤ 51) : sMask f l < 4503599627370496 := by
  unfold sMask
  have h1 : 2 ^ (l + 1) ≤ 2 ^ 52 := Nat.pow_le_pow_right (by decide) (by omega)
  have h2 : 0 < 2 ^ f := Nat.two_pow_pos f
  omega
theorem sSum_congr {f g : Nat → Nat} : ∀ n, (∀ i, i < n → f i = g i) → sSum f n = sSum g n := by
  intro n
  induction n with
  | zero => intro _; rfl
  | succ n ih =>
    intro h
    show sSum f n + f n = sSum g n + g n
    rw [ih (fun i hi => h i (by omega)), h n (by omega)]
theorem sSum_iv (a c : Nat) : ∀ n, sSum (fun k => if a ≤ k ∧ k ≤ c then 1 else 0) n = (if c + 1 < n then c + 1 else n) - a := by
  intro n
  induction n with
  | zero => simp [sSum]
  | succ n ih =>
    show sSum _ n + (if a ≤ n ∧ n ≤ c then 1 else 0) = _
    rw [ih]
    split <;> split <;> split <;> omega
theorem sPop_mask {u v : Nat → Nat} (hu : uOk u) (hv : uOk v) : sPop (sMask (u 3) (u 4) &&& sMask (v 3) (v 4)) = sWk u v := by
  obtain ⟨-, -, -, a3, a4, -⟩ := hu
  obtain ⟨-, -, -, b3, b4, -⟩ := hv
  unfold sPop
  rw [sSum_congr (g := fun k => if (if u 3 > v 3 then u 3 else v 3) ≤ k ∧ k ≤ (if u 4 < v 4 then u 4 else v 4) then 1 else 0) 52 ?_, sSum_iv]
  · unfold sWk
    split <;> split <;> split <;> omega
  · intro k _
    rw [Nat.testBit_and, sMask_bit a3, sMask_bit b3]
    simp only [Bool.and_eq_true, decide_eq_true_eq]
    split <;> split <;> split <;> split <;> omega
/-- the best set so far -/
def sBet (V : Nat → Nat → Nat) (n s b : Nat) : Bool := decide (sPrice V n b < sPrice V n s) || (sPrice V n s == sPrice V n b && decide (sOnes s < sOnes b))
def sBest (V : Nat → Nat → Nat) (n : Nat) (good : Nat → Bool) : Nat → Nat
  | 0 => 0
  | s + 1 => if sBet V n s (sBest V n good s) && good s then s else sBest V n good s
def goodC (V : Nat → Nat → Nat) (n : Nat) (Hd : Nat → Nat → Nat) (k fr to set : Nat) : Bool := (set &&& sOut V fr to n == 0) && sNc V n set && sKepts V n Hd k set
theorem sBest_le {V : Nat → Nat → Nat} {n : Nat} {good : Nat → Bool} : ∀ s, sBest V n good s ≤ s := by
  intro s
  induction s with
  | zero => exact Nat.le_refl _
  | succ s ih => unfold sBest; split <;> omega
theorem sBest_p {V : Nat → Nat → Nat} {n s : Nat} {good : Nat → Bool} (h1 : sBet V n s (sBest V n good s) = true) (h2 : good s = true) : sBest V n good (s + 1) = s := by
  simp only [sBest, h1, h2]; rfl
theorem sBest_n1 {V : Nat → Nat → Nat} {n s : Nat} {good : Nat → Bool} (h1 : sBet V n s (sBest V n good s) = false) : sBest V n good (s + 1) = sBest V n good s := by
  simp only [sBest, h1]; rfl
theorem sBest_n2 {V : Nat → Nat → Nat} {n s : Nat} {good : Nat → Bool} (h2 : good s = false) : sBest V n good (s + 1) = sBest V n good s := by
  simp only [sBest, h2, Bool.and_false]; rfl
theorem sPrice_0 (V : Nat → Nat → Nat) : ∀ n, sPrice V n 0 = 0 := by
  intro n
  induction n with
  | zero => rfl
  | succ n ih =>
    show sPrice V n 0 + (if Nat.testBit 0 n then V n 6 else 0) = 0
    rw [ih, Nat.zero_testBit]
    rfl
theorem sPrice_le {V : Nat → Nat → Nat} {set : Nat} : ∀ n, (∀ i, i < n → V i 6 ≤ 99) → sPrice V n set ≤ 99 * n := fun n h => sSum_le n (fun i hi => by show (if _ then _ else 0) ≤ 99; split; exact h i hi; omega)
