/-! the count of the ones of a long number, byte by byte -/
theorem pb_and (a b u v : Nat) (hu : u < 256) (hv : v < 256) : (256 * a + u) &&& (256 * b + v) = 256 * (a &&& b) + (u &&& v) := by
  have h1 := Nat.and_div_two_pow (a := 256 * a + u) (b := 256 * b + v) (n := 8)
  have h2 := Nat.and_mod_two_pow (a := 256 * a + u) (b := 256 * b + v) (n := 8)
  have h3 : u &&& v < 256 := Nat.lt_of_le_of_lt Nat.and_le_left hu
  rw [show (256 * a + u) / 2 ^ 8 = a by omega, show (256 * b + v) / 2 ^ 8 = b by omega] at h1
  rw [show (256 * a + u) % 2 ^ 8 = u by omega, show (256 * b + v) % 2 ^ 8 = v by omega] at h2
  omega
def pbM (m : Nat) : Nat → Nat
  | 0 => 0
  | k + 1 => 256 * pbM m k + m
def pb1 (k n : Nat) : Nat := n - (n / 2 &&& pbM 85 k)
def pb2 (k x : Nat) : Nat := (x &&& pbM 51 k) + (x / 4 &&& pbM 51 k)
def pb3 (k x : Nat) : Nat := (x + x / 16) &&& pbM 15 k
def pbB (b : Nat) : Nat := sSum (fun j => if b.testBit j then 1 else 0) 8
def pbS : Nat → Nat → Nat
  | 0, _ => 0
  | k + 1, n => 256 * pbS k (n / 256) + pbB (n % 256)
theorem pb_1 : ∀ b, b < 256 → ∀ c, c < 2 → (128 * c + b / 2) &&& 85 = b / 2 &&& 85 := by decide +kernel
theorem pb_2 : ∀ b, b < 256 → ∀ c, c < 4 → (64 * c + b / 4) &&& 51 = b / 4 &&& 51 := by decide +kernel
theorem pb_x : ∀ b, b < 256 → b - (b / 2 &&& 85) < 256 ∧ ((b - (b / 2 &&& 85)) &&& 51) + ((b - (b / 2 &&& 85)) / 4 &&& 51) < 69 ∧ (((b - (b / 2 &&& 85)) &&& 51) + ((b - (b / 2 &&& 85)) / 4 &&& 51)) % 16 ≤ 4 := by decide +kernel
theorem pb_y : ∀ b, b < 256 → ∀ c, c < 5 → (((b - (b / 2 &&& 85)) &&& 51) + ((b - (b / 2 &&& 85)) / 4 &&& 51) + 16 * c + (((b - (b / 2 &&& 85)) &&& 51) + ((b - (b / 2 &&& 85)) / 4 &&& 51)) / 16) &&& 15 = pbB b := by decide +kernel
theorem pb1_s (k a b : Nat) (hb : b < 256) : pb1 (k + 1) (256 * a + b) = 256 * pb1 k a + (b - (b / 2 &&& 85)) := by
  show 256 * a + b - ((256 * a + b) / 2 &&& (256 * pbM 85 k + 85)) = 256 * (a - (a / 2 &&& pbM 85 k)) + _
  rw [show (256 * a + b) / 2 = 256 * (a / 2) + (128 * (a % 2) + b / 2) by omega, pb_and _ _ _ _ (by omega) (by omega), pb_1 b hb _ (by omega)]
  have h1 : a / 2 &&& pbM 85 k ≤ a / 2 := Nat.and_le_left
  have h2 : b / 2 &&& 85 ≤ b / 2 := Nat.and_le_left
  omega
theorem pb2_s (k a b : Nat) (hb : b < 256) : pb2 (k + 1) (256 * a + b) = 256 * pb2 k a + ((b &&& 51) + (b / 4 &&& 51)) := by
  show ((256 * a + b) &&& (256 * pbM 51 k + 51)) + ((256 * a + b) / 4 &&& (256 * pbM 51 k + 51)) = 256 * ((a &&& pbM 51 k) + (a / 4 &&& pbM 51 k)) + _
  rw [show (256 * a + b) / 4 = 256 * (a / 4) + (64 * (a % 4) + b / 4) by omega, pb_and _ _ _ _ (by omega) (by omega), pb_and _ _ _ _ (by omega) (by omega), pb_2 b hb _ (by omega)]
  omega
theorem pb_4 : ∀ k n, pb2 k (pb1 k n) % 16 ≤ 4 := by
  intro k n
  cases k with
  | zero => simp [pb2, pb1, pbM]
  | succ k =>
    have hb : n % 256 < 256 := by omega
    have h := pb_x (n % 256) hb
    rw [show n = 256 * (n / 256) + n % 256 by omega, pb1_s _ _ _ hb, pb2_s _ _ _ h.1]
    omega
theorem pb_all : ∀ k n, pb3 k (pb2 k (pb1 k n)) = pbS k n := by
  intro k
  induction k with
  | zero => intro n; simp [pb3, pbM, pbS]
  | succ k ih =>
    intro n
    have hb : n % 256 < 256 := by omega
    have h := pb_x (n % 256) hb
    have hy := pb_y (n % 256) hb (pb2 k (pb1 k (n / 256)) % 16) (by have := pb_4 k (n / 256); omega)
    have h4 := pb_4 k (n / 256)
    have ih := ih (n / 256)
    have e : pb2 (k + 1) (pb1 (k + 1) n) = 256 * pb2 k (pb1 k (n / 256)) + (((n % 256 - (n % 256 / 2 &&& 85)) &&& 51) + ((n % 256 - (n % 256 / 2 &&& 85)) / 4 &&& 51)) := by
      conv => lhs; rw [show n = 256 * (n / 256) + n % 256 by omega, pb1_s _ _ _ hb, pb2_s _ _ _ h.1]
    rw [e]
    generalize hX : pb2 k (pb1 k (n / 256)) = X at *
    generalize hY : ((n % 256 - (n % 256 / 2 &&& 85)) &&& 51) + ((n % 256 - (n % 256 / 2 &&& 85)) / 4 &&& 51) = Y at *
    show (256 * X + Y + (256 * X + Y) / 16) &&& (256 * pbM 15 k + 15) = 256 * pbS k (n / 256) + pbB (n % 256)
    rw [show 256 * X + Y + (256 * X + Y) / 16 = 256 * (X + X / 16) + (Y + 16 * (X % 16) + Y / 16) by omega, pb_and _ _ _ _ (by omega) (by omega), hy, ← ih]
    rfl
theorem pbB_le (b : Nat) : pbB b ≤ 8 := by
  have h := sSum_le (f := fun j => if b.testBit j then 1 else 0) (c := 1) 8 (fun i _ => by show (if _ then 1 else 0) ≤ 1; split <;> omega)
  simpa [pbB] using h
theorem sSum_8 (f : Nat → Nat) (m : Nat) : sSum f (m + 8) = sSum f m + sSum (fun j => f (m + j)) 8 := by
  simp only [sSum]
  simp only [Nat.add_zero, Nat.zero_add]
  simp only [← Nat.add_assoc]
theorem pbB_of (n i : Nat) : pbB (n / 2 ^ i % 256) = sSum (fun j => if n.testBit (i + j) then 1 else 0) 8 := by
  unfold pbB
  have e : ∀ j, j < 8 → (if (n / 2 ^ i % 256).testBit j then 1 else 0) = (if n.testBit (i + j) then 1 else 0) := by
    intro j hj
    rw [show (256 : Nat) = 2 ^ 8 from rfl, Nat.testBit_mod_two_pow, Nat.testBit_div_two_pow, Nat.add_comm j i]
    simp [hj]
  simp only [sSum]
  rw [e 0 (by omega), e 1 (by omega), e 2 (by omega), e 3 (by omega), e 4 (by omega), e 5 (by omega), e 6 (by omega), e 7 (by omega)]
theorem pb_sum (n : Nat) (hn : n < 4503599627370496) : sPop n = pbB (n / 2 ^ 0 % 256) + pbB (n / 2 ^ 8 % 256) + pbB (n / 2 ^ 16 % 256) + pbB (n / 2 ^ 24 % 256) + pbB (n / 2 ^ 32 % 256) + pbB (n / 2 ^ 40 % 256) + pbB (n / 2 ^ 48 % 256) := by
  have h0 : ∀ k, 52 ≤ k → n.testBit k = false := fun k hk => Nat.testBit_lt_two_pow (Nat.lt_of_lt_of_le hn (Nat.pow_le_pow_right (n := 2) (by decide) hk))
  have e : sPop n = sSum (fun k => if n.testBit k then 1 else 0) 56 := by
    show sPop n = sPop n + (if n.testBit 52 then 1 else 0) + (if n.testBit 53 then 1 else 0) + (if n.testBit 54 then 1 else 0) + (if n.testBit 55 then 1 else 0)
    rw [h0 52 (by omega), h0 53 (by omega), h0 54 (by omega), h0 55 (by omega)]
    rfl
  rw [e, sSum_8 _ 48, sSum_8 _ 40, sSum_8 _ 32, sSum_8 _ 24, sSum_8 _ 16, sSum_8 _ 8, pbB_of n 0, pbB_of n 8, pbB_of n 16, pbB_of n 24, pbB_of n 32, pbB_of n 40, pbB_of n 48]
  simp only [Nat.zero_add]
theorem pbS_8 (n : Nat) (hn : n < 4503599627370496) : pbS 8 n = pbB (n / 2 ^ 0 % 256) + 256 * pbB (n / 2 ^ 8 % 256) + 65536 * pbB (n / 2 ^ 16 % 256) + 16777216 * pbB (n / 2 ^ 24 % 256) + 4294967296 * pbB (n / 2 ^ 32 % 256) + 1099511627776 * pbB (n / 2 ^ 40 % 256) + 281474976710656 * pbB (n / 2 ^ 48 % 256) := by
  have hz : pbB 0 = 0 := by decide
  simp only [pbS, Nat.div_div_eq_div_mul]
  rw [show n / (256 * 256 * 256 * 256 * 256 * 256 * 256) % 256 = 0 by omega, hz]
  simp only [Nat.reducePow, Nat.reduceMul, Nat.div_one]
  omega
theorem pb_fin {a b c d e f g : Nat} (ha : a ≤ 8) (hb : b ≤ 8) (hc : c ≤ 8) (hd : d ≤ 8) (he : e ≤ 8) (hf : f ≤ 8) (hg : g ≤ 8) (x w y z : Nat) (hx : x = a + 256 * b + 65536 * c + 16777216 * d + 4294967296 * e + 1099511627776 * f + 281474976710656 * g) (hw : w = x + x / 256) (hy : y = w + w / 65536) (hz : z = y + y / 4294967296) : z % 128 = a + b + c + d + e + f + g := by
  have w1 : w = (a + b) + 256 * (b + c) + 65536 * (c + d) + 16777216 * (d + e) + 4294967296 * (e + f) + 1099511627776 * (f + g) + 281474976710656 * g := by omega
  have y1 : y = (a + b + c + d) + 256 * (b + c + d + e) + 65536 * (c + d + e + f) + 16777216 * (d + e + f + g) + 4294967296 * (e + f + g) + 1099511627776 * (f + g) + 281474976710656 * g := by omega
  have z1 : y / 4294967296 = (e + f + g) + 256 * (f + g) + 65536 * g := by omega
  omega
theorem pbL_sub {a b : Nat} (h : b ≤ a) : lN a - lN b = lN (a - b) := by
  apply wb_inj
  rw [Int64.toBitVec_sub, wb_tb, wb_tb, wb_tb]
  apply BitVec.eq_of_toNat_eq
  rw [BitVec.toNat_sub, BitVec.toNat_ofNat, BitVec.toNat_ofNat, BitVec.toNat_ofNat]
  omega
theorem pbL_add (a b : Nat) : lN a + lN b = lN (a + b) := by
  apply wb_inj
  rw [Int64.toBitVec_add, wb_tb, wb_tb, wb_tb]
  apply BitVec.eq_of_toNat_eq
  rw [BitVec.toNat_add, BitVec.toNat_ofNat, BitVec.toNat_ofNat, BitVec.toNat_ofNat]
  omega
theorem lN_i32 (a : Nat) : (lN a).toInt32 = nI a := by
  apply Int32.toBitVec_inj.1
  rw [Int64.toBitVec_toInt32, wb_tb]
  apply BitVec.eq_of_toNat_eq
  show ((BitVec.ofNat 64 a).signExtend 32).toNat = (BitVec.ofNat 32 a).toNat
  rw [BitVec.signExtend_eq_setWidth_of_le _ (by decide), BitVec.toNat_setWidth, BitVec.toNat_ofNat, BitVec.toNat_ofNat]
  omega
theorem us64_N {a k : Nat} (ha : a < 18446744073709551616) (hk : k < 64) : us64 (lN a) (nI k) = lN (a / 2 ^ k) := wb_shr (by omega) hk
theorem bc64 (n : Nat) (hn : n < 4503599627370496) : (bl6 (bl5 (bl4 (bl3 (bl2 (bl1 (lN n))))))).toInt32 &&& nI 127 = nI (sPop n) := by
  have l1 : pb1 8 n ≤ n := Nat.sub_le _ _
  have e1 : bl1 (lN n) = lN (pb1 8 n) := by
    unfold bl1
    rw [us64_N (by omega) (by omega), show (6148914691236517205 : Int64) = lN (pbM 85 8) by decide, wb_and (by omega) (by decide), pbL_sub (Nat.le_trans Nat.and_le_left (Nat.div_le_self _ _))]
    rfl
  have l2 : pb2 8 (pb1 8 n) ≤ 2 * n := by
    have h1 : pb1 8 n &&& pbM 51 8 ≤ pb1 8 n := Nat.and_le_left
    have h2 : pb1 8 n / 4 &&& pbM 51 8 ≤ pb1 8 n / 4 := Nat.and_le_left
    unfold pb2
    omega
  have e2 : bl2 (lN (pb1 8 n)) = lN (pb2 8 (pb1 8 n)) := by
    unfold bl2
    rw [us64_N (by omega) (by omega), show (3689348814741910323 : Int64) = lN (pbM 51 8) by decide, wb_and (by omega) (by decide), wb_and (by omega) (by decide), pbL_add]
    rfl
  have e3 : bl3 (lN (pb2 8 (pb1 8 n))) = lN (pbS 8 n) := by
    unfold bl3
    rw [us64_N (by omega) (by omega), show (1085102592571150095 : Int64) = lN (pbM 15 8) by decide, pbL_add, wb_and (by omega) (by decide), ← pb_all]
    rfl
  have hS := pbS_8 n hn
  have ha := pbB_le (n / 2 ^ 0 % 256)
  have hb := pbB_le (n / 2 ^ 8 % 256)
  have hc := pbB_le (n / 2 ^ 16 % 256)
  have hd := pbB_le (n / 2 ^ 24 % 256)
  have he := pbB_le (n / 2 ^ 32 % 256)
  have hf := pbB_le (n / 2 ^ 40 % 256)
  have hg := pbB_le (n / 2 ^ 48 % 256)
  have hP := pb_sum n hn
  rw [e1, e2, e3]
  generalize pbB (n / 2 ^ 0 % 256) = a at *
  generalize pbB (n / 2 ^ 8 % 256) = b at *
  generalize pbB (n / 2 ^ 16 % 256) = c at *
  generalize pbB (n / 2 ^ 24 % 256) = d at *
  generalize pbB (n / 2 ^ 32 % 256) = e at *
  generalize pbB (n / 2 ^ 40 % 256) = f at *
  generalize pbB (n / 2 ^ 48 % 256) = g at *
  generalize pbS 8 n = X at *
  have hX : X < 4503599627370496 := by omega
  unfold bl6 bl5 bl4
  rw [us64_N (by omega) (by omega), pbL_add, us64_N (by omega) (by omega), pbL_add, us64_N (by omega) (by omega), pbL_add, lN_i32, fa_and, show (127 : Nat) = 2 ^ 7 - 1 from rfl, Nat.and_two_pow_sub_one_eq_mod, hP]
  exact congrArg nI (pb_fin ha hb hc hd he hf hg X _ _ _ hS rfl rfl rfl)
