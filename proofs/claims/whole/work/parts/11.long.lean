/-! long numbers (wb_, pf_: from the kit's text to paste) and rows for them -/
theorem wb_tb (n : Nat) : (lN n).toBitVec = BitVec.ofNat 64 n := rfl
theorem wb_inj {a b : Int64} (h : a.toBitVec = b.toBitVec) : a = b := Int64.toBitVec_inj.mp h
theorem wb_tn {n : Nat} (h : n < 2 ^ 64) : (lN n).toBitVec.toNat = n := by rw [wb_tb, BitVec.toNat_ofNat, Nat.mod_eq_of_lt h]
theorem wb_c : ∀ k, k < 64 → ((nI k).toInt64 &&& 63) = lN k := by decide +kernel
theorem wb_cu : ∀ k, k < 64 → ((nI k).toInt64.toUInt64 &&& Int64.toUInt64 63) = UInt64.ofNat k := by decide +kernel
theorem wb_sm : ∀ k, k < 64 → (BitVec.ofNat 64 k).smod 64 = BitVec.ofNat 64 k := by decide +kernel
theorem wb_lt2 {a b : Nat} (h : a < b) : 2 ^ a < 2 ^ b := Nat.pow_lt_pow_right (by decide) h
theorem wb_shr {n k : Nat} (hn : n < 2 ^ 64) (hk : k < 64) : ((lN n).toUInt64 >>> ((nI k).toInt64.toUInt64 &&& Int64.toUInt64 63)).toInt64 = lN (n / 2 ^ k) := by
  rw [wb_cu k hk]
  apply wb_inj
  apply BitVec.eq_of_toNat_eq
  show ((lN n).toUInt64 >>> UInt64.ofNat k).toNat = (BitVec.ofNat 64 _).toNat
  have h1 : (UInt64.ofNat k).toNat = k := by
    show (BitVec.ofNat 64 k).toNat = k
    rw [BitVec.toNat_ofNat, Nat.mod_eq_of_lt (by omega)]
  have h2 : (lN n).toUInt64.toNat = n := wb_tn hn
  rw [UInt64.toNat_shiftRight, h1, h2, Nat.mod_eq_of_lt hk, Nat.shiftRight_eq_div_pow, BitVec.toNat_ofNat, Nat.mod_eq_of_lt (Nat.lt_of_le_of_lt (Nat.div_le_self _ _) hn)]
theorem wb_shl (n : Nat) {k : Nat} (hk : k < 64) : lN n <<< ((nI k).toInt64 &&& 63) = lN (n * 2 ^ k) := by
  rw [wb_c k hk]
  apply wb_inj
  rw [Int64.toBitVec_shiftLeft, wb_tb, wb_tb, wb_tb, wb_sm k hk]
  apply BitVec.eq_of_toNat_eq
  rw [BitVec.shiftLeft_eq', BitVec.toNat_shiftLeft, BitVec.toNat_ofNat, BitVec.toNat_ofNat, BitVec.toNat_ofNat, Nat.mod_eq_of_lt (show k < 2 ^ 64 by omega), Nat.shiftLeft_eq, Nat.mul_mod, Nat.mod_mod, ← Nat.mul_mod]
theorem wb_and {a b : Nat} (ha : a < 2 ^ 64) (hb : b < 2 ^ 64) : lN a &&& lN b = lN (a &&& b) := by
  apply wb_inj
  rw [Int64.toBitVec_and, wb_tb, wb_tb, wb_tb]
  apply BitVec.eq_of_toNat_eq
  rw [BitVec.toNat_and, BitVec.toNat_ofNat, BitVec.toNat_ofNat, BitVec.toNat_ofNat, Nat.mod_eq_of_lt ha, Nat.mod_eq_of_lt hb, Nat.mod_eq_of_lt (Nat.and_lt_two_pow _ hb)]
theorem wb_or {a b : Nat} (ha : a < 2 ^ 64) (hb : b < 2 ^ 64) : lN a ||| lN b = lN (a ||| b) := by
  apply wb_inj
  rw [Int64.toBitVec_or, wb_tb, wb_tb, wb_tb]
  apply BitVec.eq_of_toNat_eq
  rw [BitVec.toNat_or, BitVec.toNat_ofNat, BitVec.toNat_ofNat, BitVec.toNat_ofNat, Nat.mod_eq_of_lt ha, Nat.mod_eq_of_lt hb, Nat.mod_eq_of_lt (Nat.or_lt_two_pow ha hb)]
theorem wb_mask {n k : Nat} (hn : n < 2 ^ 64) (hk : k < 64) : lN n &&& lN (2 ^ k - 1) = lN (n % 2 ^ k) := by
  rw [wb_and hn (by have := wb_lt2 hk; omega), Nat.and_two_pow_sub_one_eq_mod]
theorem wb_a1 {n : Nat} (hn : n < 2 ^ 64) : lN n &&& 1 = lN (n % 2) := wb_mask (k := 1) hn (by decide)
theorem pf_lI {a : Nat} (h : a < 2 ^ 63) : (lN a).toInt = (a : Int) := lg_ofNat_toInt h
theorem pf_shr {a d : Nat} {D : Int64} (hD : (D.toBitVec.smod 64).toNat = d) (h : a < 2 ^ 62) : lN a >>> D = lN (a / 2 ^ d) := by
  have hd : a / 2 ^ d ≤ a := Nat.div_le_self _ _
  apply Int64.toInt_inj.mp
  have e : (lN a >>> D).toInt = (lN a).toInt >>> d := by
    rw [← hD]
    exact BitVec.toInt_sshiftRight ..
  rw [e, Int.shiftRight_eq_div_pow, pf_lI (by omega), pf_lI (by omega)]
  rfl
theorem wl_sm : ∀ k, k < 64 → (((nI k).toInt64 &&& 63).toBitVec.smod 64).toNat = k := by decide +kernel
theorem wl_shr {a k : Nat} (h : a < 4611686018427387904) (hk : k < 64) : lN a >>> ((nI k).toInt64 &&& 63) = lN (a / 2 ^ k) := pf_shr (wl_sm k hk) (by omega)
theorem wl_not {a : Nat} (h : a < 18446744073709551616) : lN a ^^^ (-1) = lN (18446744073709551616 - (a + 1)) := by
  apply wb_inj
  rw [Int64.toBitVec_xor, wb_tb, wb_tb, show (-1 : Int64).toBitVec = BitVec.allOnes 64 from by decide, BitVec.xor_allOnes]
  apply BitVec.eq_of_toNat_eq
  rw [BitVec.toNat_not, BitVec.toNat_ofNat, BitVec.toNat_ofNat]
  omega
theorem lg_cmp_b {b : Nat} (hb : b < 2) : lg_cmp (lN b) (lN 0) = nI b := by
  rcases Nat.lt_or_ge b 1 with h | h
  · rw [show b = 0 by omega]; decide
  · rw [show b = 1 by omega]; decide
section gLong
variable {l : Launch} {V : gVt} {mm : gY} {E : gEnv} {cs : Nat × Nat} {M : gMem} {pc : Nat} {lv : List (Nat × Value)} {st : List Value}
theorem g_ldcw {idx : Nat} (v : Int32) (hc : Cond.constant mm.1.cls idx v ∈ gT) (d : decode mm.2.1 pc = .ok (.ldc_w idx, 3)) (k : gG l V mm E cs M (pc + 3) lv (.int v :: st)) : gG l V mm E cs M pc lv st :=
  fun p e s m args below meth c H locs ls C hD hS hl => lv_ldcw C.1 C.2.1 C.2.2.2.1 (C.2.2.2.2.1 _ hc) d (k p e s m args below meth c H locs ls C hD hS hl)
theorem g_ldc2 {idx : Nat} (v : Int64) (hc : Cond.constantLong mm.1.cls idx v ∈ gT) (d : decode mm.2.1 pc = .ok (.ldc2_w idx, 3)) (k : gG l V mm E cs M (pc + 3) lv (.long v :: st)) : gG l V mm E cs M pc lv st :=
  fun p e s m args below meth c H locs ls C hD hS hl => lv_ldc2 C.1 C.2.1 C.2.2.2.1 (C.2.2.2.2.1 _ hc) d (k p e s m args below meth c H locs ls C hD hS hl)
theorem g_lcmp {x y : Int64} (d : decode mm.2.1 pc = .ok (.lcmp, 1)) (k : gG l V mm E cs M (pc + 1) lv (.int (lg_cmp x y) :: st)) : gG l V mm E cs M pc lv (.long y :: .long x :: st) :=
  fun p e s m args below meth c H locs ls C hD hS hl => W.lcmp C.1 C.2.1 d (k p e s m args below meth c H locs ls C hD hS hl)
theorem g_nmi {x : Int32} (k : ∀ y, y = x → gG l V mm E cs M pc lv (.int y :: st)) : gG l V mm E cs M pc lv (.int x :: st) := k x rfl
theorem g_nml {x : Int64} (k : ∀ y, y = x → gG l V mm E cs M pc lv (.long y :: st)) : gG l V mm E cs M pc lv (.long x :: st) := k x rfl
end gLong
theorem cJ6_265 : Cond.constant RJ6 265 1431655765 ∈ gT := gT_in 413 (by decide +kernel) (by decide +kernel)
theorem cJ6_266 : Cond.constant RJ6 266 858993459 ∈ gT := gT_in 414 (by decide +kernel) (by decide +kernel)
theorem cJ6_267 : Cond.constant RJ6 267 252645135 ∈ gT := gT_in 415 (by decide +kernel) (by decide +kernel)
theorem cJ13_314 : Cond.constantLong RJ13 314 6148914691236517205 ∈ gT := gT_in 469 (by decide +kernel) (by decide +kernel)
theorem cJ13_316 : Cond.constantLong RJ13 316 3689348814741910323 ∈ gT := gT_in 470 (by decide +kernel) (by decide +kernel)
theorem cJ13_318 : Cond.constantLong RJ13 318 1085102592571150095 ∈ gT := gT_in 471 (by decide +kernel) (by decide +kernel)
theorem cX6_239 : Cond.constantLong RX6 239 (-1) ∈ gT := gT_in 527 (by decide +kernel) (by decide +kernel)
def us32 (x : Int32) (k : Int32) : Int32 := (x.toUInt32 >>> (k.toUInt32 &&& Int32.toUInt32 31)).toInt32
def us64 (x : Int64) (k : Int32) : Int64 := (x.toUInt64 >>> (k.toInt64.toUInt64 &&& Int64.toUInt64 63)).toInt64
def bc1 (x : Int32) : Int32 := x - (us32 x (nI 1) &&& 1431655765)
def bc2 (x : Int32) : Int32 := (x &&& 858993459) + (us32 x (nI 2) &&& 858993459)
def bc3 (x : Int32) : Int32 := (x + us32 x (nI 4)) &&& 252645135
def bc4 (x : Int32) : Int32 := x + us32 x (nI 8)
def bc5 (x : Int32) : Int32 := x + us32 x (nI 16)
theorem bc32 : ∀ n, n < 1024 → bc5 (bc4 (bc3 (bc2 (bc1 (nI n))))) &&& nI 63 = nI (sOnes n) := by decide +kernel
def bl1 (x : Int64) : Int64 := x - (us64 x (nI 1) &&& 6148914691236517205)
def bl2 (x : Int64) : Int64 := (x &&& 3689348814741910323) + (us64 x (nI 2) &&& 3689348814741910323)
def bl3 (x : Int64) : Int64 := (x + us64 x (nI 4)) &&& 1085102592571150095
def bl4 (x : Int64) : Int64 := x + us64 x (nI 8)
def bl5 (x : Int64) : Int64 := x + us64 x (nI 16)
def bl6 (x : Int64) : Int64 := x + us64 x (nI 32)
/-- how many of the weeks 0 to 51 a set of weeks has -/
def sPop (x : Nat) : Nat := sSum (fun k => if x.testBit k then 1 else 0) 52
def sCnt (x : Nat) : Nat → Nat := sSum (fun k => if x.testBit k then 1 else 0)
def sMask (f l : Nat) : Nat := 2 ^ (l + 1) - 2 ^ f
def sWs (x : Nat) : Nat := x &&& (18446744073709551616 - (x * 2 ^ 1 + 1))
def sKth (x k : Nat) : Option Nat := sFr (fun w => x.testBit w && sCnt x w == k) 0 52
def sRn (x : Nat) : Nat → Nat → Nat
  | _, 0 => 0
  | f, k + 1 => if x.testBit f then 1 + sRn x (f + 1) k else 0
/-- the longest run of weeks so far, its start, the run that ends here -/
def sLs (x : Nat) : Nat → Nat × Nat × Nat
  | 0 => (0, 0, 0)
  | w + 1 =>
    let q := sLs x w
    let len := if x.testBit w then q.2.2 + 1 else 0
    if len > q.1 then (len, w + 1 - len, len) else (q.1, q.2.1, len)
theorem sRn_step {x f : Nat} (h : f < 52) : sRn x f (52 - f) = if x.testBit f then 1 + sRn x (f + 1) (52 - (f + 1)) else 0 := by
  rw [show 52 - f = (52 - (f + 1)) + 1 by omega]; rfl
theorem sCnt_le (x : Nat) : ∀ w, sCnt x w ≤ w := by
  intro w
  have h := sSum_le (f := fun k => if x.testBit k then 1 else 0) (c := 1) w (fun i _ => by show (if _ then 1 else 0) ≤ 1; split <;> omega)
  simpa [sCnt] using h
theorem sLs_le (x : Nat) : ∀ w, (sLs x w).1 ≤ w ∧ (sLs x w).2.2 ≤ w ∧ (sLs x w).2.1 ≤ w := by
  intro w
  induction w with
  | zero => exact ⟨Nat.le_refl _, Nat.le_refl _, Nat.le_refl _⟩
  | succ w ih =>
    simp only [sLs]
    split <;> split <;> simp <;> omega
