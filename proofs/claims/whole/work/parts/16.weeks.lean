/-! weeks of a cell, windows, choices by a number -/
def hCell (u : Nat → Nat) (row : Nat) : Bool := (u 0).testBit (row / 16) && (u 1).testBit (row / 4 % 4) && (u 2).testBit (row % 4)
def mC (V : Nat → Nat → Nat) (sg row i : Nat) : Bool := sg.testBit i && hCell (V i) row
def mS (V : Nat → Nat → Nat) (sg row : Nat) : Nat → Nat
  | 0 => 0
  | i + 1 => if mC V sg row i then mS V sg row i ||| sMask (V i 3) (V i 4) else mS V sg row i
def mT (V : Nat → Nat → Nat) (sg row : Nat) : Nat → Nat
  | 0 => 0
  | i + 1 => if mC V sg row i then mT V sg row i ||| (mS V sg row i &&& sMask (V i 3) (V i 4)) else mT V sg row i
def mA (V : Nat → Nat → Nat) (sg row : Nat) : Nat → Nat
  | 0 => 0
  | i + 1 => if mC V sg row i && V i 5 == 1 then mA V sg row i ||| sMask (V i 3) (V i 4) else mA V sg row i
theorem or_lt52 {a b : Nat} (ha : a < 4503599627370496) (hb : b < 4503599627370496) : a ||| b < 4503599627370496 := Nat.or_lt_two_pow (n := 52) ha hb
theorem and_lt52 {a b : Nat} (ha : a < 4503599627370496) : a &&& b < 4503599627370496 := Nat.lt_of_le_of_lt Nat.and_le_left ha
theorem mS_lt {V : Nat → Nat → Nat} {sg row : Nat} : ∀ n, (∀ i, i < n → V i 4 ≤ 51) → mS V sg row n < 4503599627370496 := by
  intro n
  induction n with
  | zero => intro _; exact Nat.le_of_ble_eq_true rfl
  | succ n ih =>
    intro h
    have h1 := ih (fun i hi => h i (by omega))
    have h2 := sMask_lt (f := V n 3) (h n (by omega))
    unfold mS
    split
    · exact or_lt52 h1 h2
    · exact h1
theorem mT_lt {V : Nat → Nat → Nat} {sg row : Nat} : ∀ n, (∀ i, i < n → V i 4 ≤ 51) → mT V sg row n < 4503599627370496 := by
  intro n
  induction n with
  | zero => intro _; exact Nat.le_of_ble_eq_true rfl
  | succ n ih =>
    intro h
    have h1 := ih (fun i hi => h i (by omega))
    have h2 := mS_lt (V := V) (sg := sg) (row := row) n (fun i hi => h i (by omega))
    unfold mT
    split
    · exact or_lt52 h1 (and_lt52 h2)
    · exact h1
theorem mA_lt {V : Nat → Nat → Nat} {sg row : Nat} : ∀ n, (∀ i, i < n → V i 4 ≤ 51) → mA V sg row n < 4503599627370496 := by
  intro n
  induction n with
  | zero => intro _; exact Nat.le_of_ble_eq_true rfl
  | succ n ih =>
    intro h
    have h1 := ih (fun i hi => h i (by omega))
    have h2 := sMask_lt (f := V n 3) (h n (by omega))
    unfold mA
    split
    · exact or_lt52 h1 h2
    · exact h1
def sWeeks (V : Nat → Nat → Nat) (n sg fr to row q : Nat) : Nat := match q with
  | 1 => sMask fr to &&& mS V sg row n
  | 2 => sMask fr to &&& mT V sg row n
  | 3 => sMask fr to &&& mA V sg row n
  | 4 => sMask fr to &&& (18446744073709551616 - (mS V sg row n + 1))
  | _ => sMask fr to
theorem sWeeks_lt {V : Nat → Nat → Nat} {n sg fr to row q : Nat} (ht : to ≤ 51) : sWeeks V n sg fr to row q < 4503599627370496 := by
  have h := sMask_lt (f := fr) ht
  unfold sWeeks
  split <;> first | exact and_lt52 h | exact h
theorem wb_and' {a b : Nat} (ha : a < 4503599627370496) (hb : b < 18446744073709551616) : lN a &&& lN b = lN (a &&& b) := wb_and (by omega) (by omega)
theorem wb_or' {a b : Nat} (ha : a < 4503599627370496) (hb : b < 4503599627370496) : lN a ||| lN b = lN (a ||| b) := wb_or (by omega) (by omega)
theorem i32_ge {x : Int32} {n : Nat} (hn : n < 2147483648) (h : ¬ x < nI n) : (n : Int) ≤ x.toInt := by
  have q := mt Int32.lt_iff_toInt_lt.mpr h
  rw [nI_toInt (by omega)] at q
  omega
theorem i32_le {x : Int32} {n : Nat} (hn : n < 2147483648) (h : x ≤ nI n) : x.toInt ≤ n := by
  have q := Int32.le_iff_toInt_le.mp h
  rw [nI_toInt (by omega)] at q
  omega
theorem i32_ltn {x : Int32} {n : Nat} (hn : n < 2147483648) (h : x < nI n) : x.toInt < n := by
  have q := Int32.lt_iff_toInt_lt.mp h
  rw [nI_toInt (by omega)] at q
  omega
theorem i32_gt {x : Int32} {n : Nat} (hn : n < 2147483648) (h : ¬ x ≤ nI n) : (n : Int) < x.toInt := by
  have q := mt Int32.le_iff_toInt_le.mpr h
  rw [nI_toInt (by omega)] at q
  omega
theorem inR_t {x : Int32} {n : Nat} (h1 : 0 ≤ x.toInt) (h2 : x.toInt < n) : inR x n = true := decide_eq_true ⟨h1, h2⟩
theorem inR_f {x : Int32} {n : Nat} (h : x.toInt < 0 ∨ (n : Int) ≤ x.toInt) : inR x n = false := decide_eq_false (by omega)
theorem inG_t {x : Int32} {lo hi : Nat} (h1 : (lo : Int) ≤ x.toInt) (h2 : x.toInt ≤ hi) : inG x lo hi = true := decide_eq_true ⟨h1, h2⟩
theorem inG_f {x : Int32} {lo hi : Nat} (h : x.toInt < lo ∨ (hi : Int) < x.toInt) : inG x lo hi = false := decide_eq_false (by omega)
def fCell (x y z : Int32) (g : Nat → Nat → Nat → Int32) (bad : Int32) : Int32 := if inR x 6 && inR y 4 && inR z 4 then g x.toInt.toNat y.toInt.toNat z.toInt.toNat else bad
theorem fCell_in {i j k : Nat} {g : Nat → Nat → Nat → Int32} {bad : Int32} (hi : i < 6) (hj : j < 4) (hk : k < 4) : fCell (nI i) (nI j) (nI k) g bad = g i j k := by
  unfold fCell
  rw [inR_nI (by omega), inR_nI (by omega), inR_nI (by omega), nI_toInt (by omega), nI_toInt (by omega), nI_toInt (by omega)]
  simp [hi, hj, hk]
theorem fCell_out {x y z : Int32} {g : Nat → Nat → Nat → Int32} {bad : Int32} (h : (inR x 6 && inR y 4 && inR z 4) = false) : fCell x y z g bad = bad := by
  unfold fCell
  rw [h]
  rfl
def fTwo (q a b bad : Int32) : Int32 := if q = nI 0 then a else if q = nI 1 then b else bad
theorem fTwo_0 {a b bad : Int32} : fTwo (nI 0) a b bad = a := rfl
theorem fTwo_1 {a b bad : Int32} : fTwo (nI 1) a b bad = b := rfl
theorem fTwo_n {q a b bad : Int32} (h0 : ¬ q = 0) (h1 : ¬ q = nI 1) : fTwo q a b bad = bad := by
  unfold fTwo
  rw [if_neg (show ¬ q = nI 0 from h0), if_neg h1]
theorem nn_of {k : Int32} (h1 : -1 ≤ k) (h2 : ¬ k = -1) : ∃ j, j < 2147483648 ∧ k = nI j := by
  refine ⟨k.toInt.toNat, ?_, ?_⟩
  · have := k.toInt_lt
    omega
  · have q := Int32.le_iff_toInt_le.mp h1
    rw [show (-1 : Int32).toInt = -1 from rfl] at q
    have q2 : k.toInt ≠ -1 := fun e => h2 (Int32.toInt_inj.mp (by rw [e]; rfl))
    apply Int32.toInt_inj.mp
    have := k.toInt_lt
    rw [nI_toInt (by omega)]
    omega
/-- what is asked of a window -/
def fWd (x : Nat) (k q : Int32) : Int32 := if k = -1 then nI (sPop (sWs x)) else match sKth (sWs x) k.toInt.toNat with
  | none => -4
  | some f => if q = nI 0 then nI f else nI (f + sRn x f (52 - f) - 1)
/-- the longest window: its weeks, its cell, its first week; over the cells so far -/
def sLg (x : Nat → Nat) : Nat → Nat × Nat × Nat
  | 0 => (0, 0, 0)
  | c + 1 => if sRn (x c) (sLs (x c) 52).2.1 (52 - (sLs (x c) 52).2.1) > (sLg x c).1 then (sRn (x c) (sLs (x c) 52).2.1 (52 - (sLs (x c) 52).2.1), c, (sLs (x c) 52).2.1) else sLg x c
theorem sRn_le (x : Nat) : ∀ k f, sRn x f k ≤ k := by
  intro k
  induction k with
  | zero => intro f; exact Nat.le_refl _
  | succ k ih =>
    intro f
    unfold sRn
    split
    · have := ih (f + 1); omega
    · omega
theorem sLg_le (x : Nat → Nat) : ∀ c, (sLg x c).1 ≤ 52 ∧ (sLg x c).2.1 ≤ c ∧ (sLg x c).2.2 ≤ 52 := by
  intro c
  induction c with
  | zero => simp [sLg]
  | succ c ih =>
    have h1 := sRn_le (x c) (52 - (sLs (x c) 52).2.1) (sLs (x c) 52).2.1
    have h2 := (sLs_le (x c) 52).2.2
    unfold sLg
    split
    · simp; omega
    · omega
theorem sLg_p {x : Nat → Nat} {c : Nat} (h : (sLg x c).1 < sRn (x c) (sLs (x c) 52).2.1 (52 - (sLs (x c) 52).2.1)) : sLg x (c + 1) = (sRn (x c) (sLs (x c) 52).2.1 (52 - (sLs (x c) 52).2.1), c, (sLs (x c) 52).2.1) := if_pos h
theorem sLg_n {x : Nat → Nat} {c : Nat} (h : sRn (x c) (sLs (x c) 52).2.1 (52 - (sLs (x c) 52).2.1) ≤ (sLg x c).1) : sLg x (c + 1) = sLg x c := if_neg (by omega)
def sOffer (V : Nat → Nat → Nat) (sg i w : Nat) : Nat := match w with
  | 7 => if sg.testBit i then 1 else 0
  | 8 => sCom (V i) (V i)
  | w => V i w
def fLg (g : Nat × Nat × Nat) (q : Nat) : Int32 := if g.1 = 0 then -4 else match q with
  | 0 => nI g.1
  | 1 => nI (g.2.1 / 16)
  | 2 => nI (g.2.1 / 4 % 4)
  | 3 => nI (g.2.1 % 4)
  | _ => nI g.2.2
theorem sPt_eq {V : Nat → Nat → Nat} {i row wk : Nat} (h : V i 3 ≤ V i 4) : sPt V i row wk = (hCell (V i) row && (sMask (V i 3) (V i 4)).testBit wk) := by
  rw [sMask_bit h]; rfl
