set_option maxRecDepth 100000 in
set_option maxHeartbeats 4000000 in
theorem kX6_remember (l : Launch) (E : gEnv) (M : gMem) (b b' : Nat) (hS : cS E M b b') (hO : cO M b) (hsg : M.1 1 5 < 1024) (hz : M.1 5 1 ≤ 6) (i : Nat) (hi : i < M.1 b 1) : gMet l E mX6_remember 2 [.ref (gAd E 1), .int (nI i)] M (fun v u => v = none ∧ hAdd M u (M.1 1 5) i (M.1 (b + 3 + i) 7)) := by
  have hB := hS.B
  have hO' := hO
  obtain ⟨hn, hk, hft, hto, hU, hH⟩ := hO
  have hO := hO'
  refine gMet_of (mm := mX6_remember) (h := 2) (M := M) [(0, .ref (gAd E 1)), (1, .int (nI i))] (by decide) (Nat.le_of_ble_eq_true rfl) rfl ?_
  refine g_aload_n (pc := 0) 0 rfl rfl dX6_remember_0 ?_
  refine fX6_33 (pc := 1) 5 rfl hS.s1 hS.rh (by decide) dX6_remember_1 ?_
  refine g_aload_n (pc := 4) 0 rfl rfl dX6_remember_4 ?_
  refine fX6_63 (pc := 5) rfl hS.s1 dX6_remember_5 ?_
  refine g_iload_n (pc := 8) 1 rfl rfl dX6_remember_8 ?_
  refine g_aload_n (pc := 9) 0 rfl rfl dX6_remember_9 ?_
  refine fX6_23 (pc := 10) b rfl hS.s1 hS.rb hS.b0 dX6_remember_10 ?_
  refine fX6_93 (pc := 13) (b + 1) rfl hB.1.1 hB.1.2.2.2.2.2.1 (by omega) dX6_remember_13 ?_
  refine g_iload_n (pc := 16) 1 rfl rfl dX6_remember_16 ?_
  refine g_aaload (pc := 17) (t0 := 2) (r := (b + 3 + i)) hB.1.2.1 (by decide) rfl (by rw [hB.1.2.2.1]; omega) (by rw [hB.1.2.2.1]; omega) (hB.2.1 i (by omega)).2 (by omega) dX6_remember_17 ?_
  refine fX6_97 (pc := 18) rfl (hB.2.1 i (by omega)).1 dX6_remember_18 ?_
  refine g_callV (pc := 21) (mc := mX2_add) (rest := []) lX6_129 iX2_add (kX2_add l E M hS.1 (hOk_of hS) hS.rc hz (M.1 1 5) i (M.1 ((b + 3 + i)) 7)) ⟨Nat.le_of_ble_eq_true rfl, Nat.le_of_ble_eq_true rfl⟩ hS.s5 (by decide) (by decide) rfl rfl rfl rfl (Nat.le_of_ble_eq_true rfl) ⟨Nat.zero_le _, Nat.zero_le _⟩ dX6_remember_21 ?_
  intro v u hq
  obtain ⟨rfl, hA⟩ := hq
  exact g_vret (pc := 24) rfl dX6_remember_24 ⟨rfl, hA⟩
set_option maxRecDepth 100000 in
set_option maxHeartbeats 4000000 in
theorem kX6_sign_bad (l : Launch) (E : gEnv) (M : gMem) (b b' : Nat) (hS : cS E M b b') (hO : cO M b) (hsg : M.1 1 5 < 1024) (x : Int32) (hx : inR x (M.1 b 1) = false) : gMetI l E mX6_sign 5 [.ref (gAd E 1), .int x] M (-1) := by
  have hB := hS.B
  have hO' := hO
  obtain ⟨hn, hk, hft, hto, hU, hH⟩ := hO
  have hO := hO'
  refine gMet_of (mm := mX6_sign) (h := 5) (M := M) [(0, .ref (gAd E 1)), (1, .int x)] (by decide) (Nat.le_of_ble_eq_true rfl) rfl ?_
  refine g_aload_n (pc := 0) 0 rfl rfl dX6_sign_0 ?_
  refine g_iload_n (pc := 1) 1 rfl rfl dX6_sign_1 ?_
  refine g_callV (pc := 2) (mc := mX6_isOffer) (rest := []) lX6_69 iX6_isOffer (kX6_isOffer l E M b b' hS hO hsg (x)) ⟨Nat.le_of_ble_eq_true rfl, Nat.le_of_ble_eq_true rfl⟩ hS.s1 (by decide) (by decide) rfl rfl rfl rfl (Nat.le_of_ble_eq_true rfl) ⟨Nat.zero_le _, Nat.zero_le _⟩ dX6_sign_2 (g_rI ?_)
  refine g_ifB_ne (pc := 5) 10 dX6_sign_5 (by decide) (fun h5 => absurd h5 (by rw [hx]; decide)) (fun h5 => ?_)
  refine g_iconst (pc := 8) ((-1)) (by decide) dX6_sign_8 ?_
  exact g_iret (pc := 9) rfl dX6_sign_9 ⟨rfl, rfl⟩
set_option maxRecDepth 100000 in
set_option maxHeartbeats 4000000 in
theorem kX6_sign_no (l : Launch) (E : gEnv) (M : gMem) (b b' : Nat) (hS : cS E M b b') (hO : cO M b) (hsg : M.1 1 5 < 1024) (j : Nat) (hj : j < M.1 b 1) (hw : sWhy (cV M b) (M.1 b 1) (cH M b) (M.1 b 3) (M.1 b 4) (M.1 b 5) (M.1 1 5) j ≠ 0) : gMetI l E mX6_sign 5 [.ref (gAd E 1), .int (nI j)] M (-2) := by
  have hB := hS.B
  have hO' := hO
  obtain ⟨hn, hk, hft, hto, hU, hH⟩ := hO
  have hO := hO'
  have hx : inR (nI j) (M.1 b 1) = true := by rw [inR_nI (by omega)]; exact decide_eq_true hj
  refine gMet_of (mm := mX6_sign) (h := 5) (M := M) [(0, .ref (gAd E 1)), (1, .int (nI j))] (by decide) (Nat.le_of_ble_eq_true rfl) rfl ?_
  refine g_aload_n (pc := 0) 0 rfl rfl dX6_sign_0 ?_
  refine g_iload_n (pc := 1) 1 rfl rfl dX6_sign_1 ?_
  refine g_callV (pc := 2) (mc := mX6_isOffer) (rest := []) lX6_69 iX6_isOffer (kX6_isOffer l E M b b' hS hO hsg (nI j)) ⟨Nat.le_of_ble_eq_true rfl, Nat.le_of_ble_eq_true rfl⟩ hS.s1 (by decide) (by decide) rfl rfl rfl rfl (Nat.le_of_ble_eq_true rfl) ⟨Nat.zero_le _, Nat.zero_le _⟩ dX6_sign_2 (g_rI ?_)
  refine g_ifB_ne (pc := 5) 10 dX6_sign_5 (by decide) (fun h5 => ?_) (fun h5 => absurd h5 (by rw [hx]; decide))
  refine g_aload_n (pc := 10) 0 rfl rfl dX6_sign_10 ?_
  refine g_iload_n (pc := 11) 1 rfl rfl dX6_sign_11 ?_
  refine g_callV (pc := 12) (mc := mX6_whatSpeaksAgainst) (rest := []) lX6_73 iX6_whatSpeaksAgainst (kX6_whatSpeaksAgainst l E M b b' hS hO hsg j (by omega)) ⟨Nat.le_of_ble_eq_true rfl, Nat.le_of_ble_eq_true rfl⟩ hS.s1 (by decide) (by decide) rfl rfl rfl rfl (Nat.le_of_ble_eq_true rfl) ⟨Nat.zero_le _, Nat.zero_le _⟩ dX6_sign_12 (g_rI ?_)
  refine g_ifN_eq (pc := 15) 21 dX6_sign_15 (by decide) (by have := sWhy_le (V := cV M b) (n := M.1 b 1) (Hd := cH M b) (k := M.1 b 3) (fr := M.1 b 4) (to := M.1 b 5) (sg := M.1 1 5) (i := j); omega) (fun h15 => absurd h15 (by omega)) (fun h15 => ?_)
  refine g_bipush (pc := 18) ((-2)) (by decide) dX6_sign_18 ?_
  exact g_iret (pc := 20) rfl dX6_sign_20 ⟨rfl, rfl⟩
set_option maxRecDepth 100000 in
set_option maxHeartbeats 4000000 in
theorem kX6_sign_ok (l : Launch) (E : gEnv) (M : gMem) (b b' : Nat) (hS : cS E M b b') (hO : cO M b) (hsg : M.1 1 5 < 1024) (hz : M.1 5 1 ≤ 6) (j : Nat) (hj : j < M.1 b 1) (hw : sWhy (cV M b) (M.1 b 1) (cH M b) (M.1 b 3) (M.1 b 4) (M.1 b 5) (M.1 1 5) j = 0) : gMet l E mX6_sign 5 [.ref (gAd E 1), .int (nI j)] M (fun v u => v = some (.int (nI (sOnes (M.1 1 5 ||| 2 ^ j)))) ∧ ∃ u0, hAdd M u0 (M.1 1 5) j (M.1 (b + 3 + j) 7) ∧ u = gU u0 1 5 (M.1 1 5 ||| 2 ^ j)) := by
  have hB := hS.B
  have hO' := hO
  obtain ⟨hn, hk, hft, hto, hU, hH⟩ := hO
  have hO := hO'
  have hx : inR (nI j) (M.1 b 1) = true := by rw [inR_nI (by omega)]; exact decide_eq_true hj
  refine gMet_of (mm := mX6_sign) (h := 5) (M := M) [(0, .ref (gAd E 1)), (1, .int (nI j))] (by decide) (Nat.le_of_ble_eq_true rfl) rfl ?_
  refine g_aload_n (pc := 0) 0 rfl rfl dX6_sign_0 ?_
  refine g_iload_n (pc := 1) 1 rfl rfl dX6_sign_1 ?_
  refine g_callV (pc := 2) (mc := mX6_isOffer) (rest := []) lX6_69 iX6_isOffer (kX6_isOffer l E M b b' hS hO hsg (nI j)) ⟨Nat.le_of_ble_eq_true rfl, Nat.le_of_ble_eq_true rfl⟩ hS.s1 (by decide) (by decide) rfl rfl rfl rfl (Nat.le_of_ble_eq_true rfl) ⟨Nat.zero_le _, Nat.zero_le _⟩ dX6_sign_2 (g_rI ?_)
  refine g_ifB_ne (pc := 5) 10 dX6_sign_5 (by decide) (fun h5 => ?_) (fun h5 => absurd h5 (by rw [hx]; decide))
  refine g_aload_n (pc := 10) 0 rfl rfl dX6_sign_10 ?_
  refine g_iload_n (pc := 11) 1 rfl rfl dX6_sign_11 ?_
  refine g_callV (pc := 12) (mc := mX6_whatSpeaksAgainst) (rest := []) lX6_73 iX6_whatSpeaksAgainst (kX6_whatSpeaksAgainst l E M b b' hS hO hsg j (by omega)) ⟨Nat.le_of_ble_eq_true rfl, Nat.le_of_ble_eq_true rfl⟩ hS.s1 (by decide) (by decide) rfl rfl rfl rfl (Nat.le_of_ble_eq_true rfl) ⟨Nat.zero_le _, Nat.zero_le _⟩ dX6_sign_12 (g_rI ?_)
  refine g_ifN_eq (pc := 15) 21 dX6_sign_15 (by decide) (by have := sWhy_le (V := cV M b) (n := M.1 b 1) (Hd := cH M b) (k := M.1 b 3) (fr := M.1 b 4) (to := M.1 b 5) (sg := M.1 1 5) (i := j); omega) (fun h15 => ?_) (fun h15 => absurd h15 (by omega))
  refine g_aload_n (pc := 21) 0 rfl rfl dX6_sign_21 ?_
  refine g_iload_n (pc := 22) 1 rfl rfl dX6_sign_22 ?_
  refine g_callV (pc := 23) (mc := mX6_remember) (rest := []) lX6_77 iX6_remember (kX6_remember l E M b b' hS hO hsg hz j (by omega)) ⟨Nat.le_of_ble_eq_true rfl, Nat.le_of_ble_eq_true rfl⟩ hS.s1 (by decide) (by decide) rfl rfl rfl rfl (Nat.le_of_ble_eq_true rfl) ⟨Nat.zero_le _, Nat.zero_le _⟩ dX6_sign_23 ?_
  intro v u hq
  obtain ⟨rfl, hA⟩ := hq
  have hS' := hS
  have hS := hAdd_cS hS hA
  have e15 : u.1 1 5 = M.1 1 5 := hA.1 1 5 (by decide) (by decide)
  refine g_aload_n (pc := 26) 0 rfl rfl dX6_sign_26 ?_
  refine g_dup (pc := 27) rfl dX6_sign_27 ?_
  refine fX6_63 (pc := 28) rfl hS.s1 dX6_sign_28 ?_
  refine g_topi (pc := 31) (x' := nI (M.1 1 5)) (by rw [e15]) ?_
  refine g_iconst (pc := 31) (nI 1) (by decide) dX6_sign_31 ?_
  refine g_iload_n (pc := 32) 1 rfl rfl dX6_sign_32 ?_
  refine g_ishl1 (pc := 33) (by omega) dX6_sign_33 ?_
  refine g_iorN (pc := 34) dX6_sign_34 ?_
  refine uX6_63 (pc := 35) rfl hS.s1 dX6_sign_35 ?_
  refine g_aload_n (pc := 38) 0 rfl rfl dX6_sign_38 ?_
  refine fX6_63 (pc := 39) rfl hS.s1 dX6_sign_39 ?_
  refine g_topi (pc := 42) (x' := nI ((M.1 1 5) ||| (2 ^ j))) (by simp [gU, gUr]) ?_
  refine g_callS (pc := 42) (mc := mJ6_bitCount_0f7a4) (rest := []) lX6_81 iJ6_bitCount_0f7a4 (kJ6_bitCount l E (gU u 1 5 ((M.1 1 5) ||| (2 ^ j))) ((M.1 1 5) ||| (2 ^ j)) (Nat.or_lt_two_pow (n := 10) hsg (Nat.pow_lt_pow_right (by decide) (by omega)))) ⟨Nat.le_of_ble_eq_true rfl, Nat.le_of_ble_eq_true rfl⟩ rfl rfl (Nat.le_of_ble_eq_true rfl) ⟨Nat.zero_le _, Nat.zero_le _⟩ dX6_sign_42 (g_rI ?_)
  exact g_iret (pc := 45) rfl dX6_sign_45 ⟨rfl, u, hA, rfl⟩
theorem nx_clr {s j : Nat} (hs : s < 1024) (hj : j < 10) : nI s &&& (nI (2 ^ j) ^^^ (-1)) = nI (s &&& (1023 - 2 ^ j)) := by
  have h2 : 2 ^ j ≤ 2 ^ 9 := Nat.pow_le_pow_right (by decide) (by omega)
  have e : nI (2 ^ j) ^^^ (-1) = nI (4294967295 - 2 ^ j) := by
    apply Int32.toBitVec_inj.1
    rw [Int32.toBitVec_xor, show (-1 : Int32).toBitVec = BitVec.allOnes 32 from by decide, BitVec.xor_allOnes]
    apply BitVec.eq_of_toNat_eq
    show (~~~(BitVec.ofNat 32 (2 ^ j))).toNat = (BitVec.ofNat 32 (4294967295 - 2 ^ j)).toNat
    rw [BitVec.toNat_not, BitVec.toNat_ofNat, BitVec.toNat_ofNat]
    omega
  rw [e, fa_and]
  congr 1
  have e2 : 4294967295 - 2 ^ j = 2 ^ 32 - (2 ^ j + 1) := by omega
  have e3 : 1023 - 2 ^ j = 2 ^ 10 - (2 ^ j + 1) := by omega
  apply Nat.eq_of_testBit_eq
  intro i
  rw [Nat.testBit_and, Nat.testBit_and, e2, e3, Nat.testBit_two_pow_sub_succ (by omega), Nat.testBit_two_pow_sub_succ (by omega)]
  by_cases hi : i < 10
  · simp [hi, show i < 32 by omega]
  · rw [Nat.testBit_lt_two_pow (Nat.lt_of_lt_of_le (show s < 2 ^ 10 from hs) (Nat.pow_le_pow_right (by decide) (by omega)))]
    rfl
set_option maxRecDepth 100000 in
set_option maxHeartbeats 4000000 in
theorem kX6_drop_bad (l : Launch) (E : gEnv) (M : gMem) (b b' : Nat) (hS : cS E M b b') (hO : cO M b) (hsg : M.1 1 5 < 1024) (x : Int32) (hx : inR x (M.1 b 1) = false) : gMetI l E mX6_drop 5 [.ref (gAd E 1), .int x] M (-1) := by
  have hB := hS.B
  have hO' := hO
  obtain ⟨hn, hk, hft, hto, hU, hH⟩ := hO
  have hO := hO'
  refine gMet_of (mm := mX6_drop) (h := 5) (M := M) [(0, .ref (gAd E 1)), (1, .int x)] (by decide) (Nat.le_of_ble_eq_true rfl) rfl ?_
  refine g_aload_n (pc := 0) 0 rfl rfl dX6_drop_0 ?_
  refine g_iload_n (pc := 1) 1 rfl rfl dX6_drop_1 ?_
  refine g_callV (pc := 2) (mc := mX6_isOffer) (rest := []) lX6_69 iX6_isOffer (kX6_isOffer l E M b b' hS hO hsg (x)) ⟨Nat.le_of_ble_eq_true rfl, Nat.le_of_ble_eq_true rfl⟩ hS.s1 (by decide) (by decide) rfl rfl rfl rfl (Nat.le_of_ble_eq_true rfl) ⟨Nat.zero_le _, Nat.zero_le _⟩ dX6_drop_2 (g_rI ?_)
  refine g_ifB_ne (pc := 5) 10 dX6_drop_5 (by decide) (fun h5 => absurd h5 (by rw [hx]; decide)) (fun h5 => ?_)
  refine g_iconst (pc := 8) ((-1)) (by decide) dX6_drop_8 ?_
  exact g_iret (pc := 9) rfl dX6_drop_9 ⟨rfl, rfl⟩
set_option maxRecDepth 100000 in
set_option maxHeartbeats 4000000 in
theorem kX6_drop_no (l : Launch) (E : gEnv) (M : gMem) (b b' : Nat) (hS : cS E M b b') (hO : cO M b) (hsg : M.1 1 5 < 1024) (j : Nat) (hj : j < M.1 b 1) (hb : (M.1 1 5).testBit j = false) : gMetI l E mX6_drop 5 [.ref (gAd E 1), .int (nI j)] M (-2) := by
  have hB := hS.B
  have hO' := hO
  obtain ⟨hn, hk, hft, hto, hU, hH⟩ := hO
  have hO := hO'
  have hx : inR (nI j) (M.1 b 1) = true := by rw [inR_nI (by omega)]; exact decide_eq_true hj
  refine gMet_of (mm := mX6_drop) (h := 5) (M := M) [(0, .ref (gAd E 1)), (1, .int (nI j))] (by decide) (Nat.le_of_ble_eq_true rfl) rfl ?_
  refine g_aload_n (pc := 0) 0 rfl rfl dX6_drop_0 ?_
  refine g_iload_n (pc := 1) 1 rfl rfl dX6_drop_1 ?_
  refine g_callV (pc := 2) (mc := mX6_isOffer) (rest := []) lX6_69 iX6_isOffer (kX6_isOffer l E M b b' hS hO hsg (nI j)) ⟨Nat.le_of_ble_eq_true rfl, Nat.le_of_ble_eq_true rfl⟩ hS.s1 (by decide) (by decide) rfl rfl rfl rfl (Nat.le_of_ble_eq_true rfl) ⟨Nat.zero_le _, Nat.zero_le _⟩ dX6_drop_2 (g_rI ?_)
  refine g_ifB_ne (pc := 5) 10 dX6_drop_5 (by decide) (fun h5 => ?_) (fun h5 => absurd h5 (by rw [hx]; decide))
  refine g_aload_n (pc := 10) 0 rfl rfl dX6_drop_10 ?_
  refine g_iload_n (pc := 11) 1 rfl rfl dX6_drop_11 ?_
  refine g_callV (pc := 12) (mc := mX6_isSigned) (rest := []) lX6_90 iX6_isSigned (kX6_isSigned l E M b b' hS hO hsg j (by omega)) ⟨Nat.le_of_ble_eq_true rfl, Nat.le_of_ble_eq_true rfl⟩ hS.s1 (by decide) (by decide) rfl rfl rfl rfl (Nat.le_of_ble_eq_true rfl) ⟨Nat.zero_le _, Nat.zero_le _⟩ dX6_drop_12 (g_rI ?_)
  refine g_ifB_ne (pc := 15) 21 dX6_drop_15 (by decide) (fun h15 => absurd h15 (by rw [hb]; decide)) (fun h15 => ?_)
  refine g_bipush (pc := 18) ((-2)) (by decide) dX6_drop_18 ?_
  exact g_iret (pc := 20) rfl dX6_drop_20 ⟨rfl, rfl⟩
set_option maxRecDepth 100000 in
set_option maxHeartbeats 4000000 in
theorem kX6_drop_ok (l : Launch) (E : gEnv) (M : gMem) (b b' : Nat) (hS : cS E M b b') (hO : cO M b) (hsg : M.1 1 5 < 1024) (hz : M.1 5 1 ≤ 6) (j : Nat) (hj : j < M.1 b 1) (hb : (M.1 1 5).testBit j = true) : gMet l E mX6_drop 5 [.ref (gAd E 1), .int (nI j)] M (fun v u => v = some (.int (nI (sOnes (M.1 1 5 &&& (1023 - 2 ^ j))))) ∧ ∃ u0, hAdd M u0 (M.1 1 5) j (M.1 (b + 3 + j) 7) ∧ u = gU u0 1 5 (M.1 1 5 &&& (1023 - 2 ^ j))) := by
  have hB := hS.B
  have hO' := hO
  obtain ⟨hn, hk, hft, hto, hU, hH⟩ := hO
  have hO := hO'
  have hx : inR (nI j) (M.1 b 1) = true := by rw [inR_nI (by omega)]; exact decide_eq_true hj
  refine gMet_of (mm := mX6_drop) (h := 5) (M := M) [(0, .ref (gAd E 1)), (1, .int (nI j))] (by decide) (Nat.le_of_ble_eq_true rfl) rfl ?_
  refine g_aload_n (pc := 0) 0 rfl rfl dX6_drop_0 ?_
  refine g_iload_n (pc := 1) 1 rfl rfl dX6_drop_1 ?_
  refine g_callV (pc := 2) (mc := mX6_isOffer) (rest := []) lX6_69 iX6_isOffer (kX6_isOffer l E M b b' hS hO hsg (nI j)) ⟨Nat.le_of_ble_eq_true rfl, Nat.le_of_ble_eq_true rfl⟩ hS.s1 (by decide) (by decide) rfl rfl rfl rfl (Nat.le_of_ble_eq_true rfl) ⟨Nat.zero_le _, Nat.zero_le _⟩ dX6_drop_2 (g_rI ?_)
  refine g_ifB_ne (pc := 5) 10 dX6_drop_5 (by decide) (fun h5 => ?_) (fun h5 => absurd h5 (by rw [hx]; decide))
  refine g_aload_n (pc := 10) 0 rfl rfl dX6_drop_10 ?_
  refine g_iload_n (pc := 11) 1 rfl rfl dX6_drop_11 ?_
  refine g_callV (pc := 12) (mc := mX6_isSigned) (rest := []) lX6_90 iX6_isSigned (kX6_isSigned l E M b b' hS hO hsg j (by omega)) ⟨Nat.le_of_ble_eq_true rfl, Nat.le_of_ble_eq_true rfl⟩ hS.s1 (by decide) (by decide) rfl rfl rfl rfl (Nat.le_of_ble_eq_true rfl) ⟨Nat.zero_le _, Nat.zero_le _⟩ dX6_drop_12 (g_rI ?_)
  refine g_ifB_ne (pc := 15) 21 dX6_drop_15 (by decide) (fun h15 => ?_) (fun h15 => absurd h15 (by rw [hb]; decide))
  refine g_aload_n (pc := 21) 0 rfl rfl dX6_drop_21 ?_
  refine g_iload_n (pc := 22) 1 rfl rfl dX6_drop_22 ?_
  refine g_callV (pc := 23) (mc := mX6_remember) (rest := []) lX6_77 iX6_remember (kX6_remember l E M b b' hS hO hsg hz j (by omega)) ⟨Nat.le_of_ble_eq_true rfl, Nat.le_of_ble_eq_true rfl⟩ hS.s1 (by decide) (by decide) rfl rfl rfl rfl (Nat.le_of_ble_eq_true rfl) ⟨Nat.zero_le _, Nat.zero_le _⟩ dX6_drop_23 ?_
  intro v u hq
  obtain ⟨rfl, hA⟩ := hq
  have hS' := hS
  have hS := hAdd_cS hS hA
  have e15 : u.1 1 5 = M.1 1 5 := hA.1 1 5 (by decide) (by decide)
  refine g_aload_n (pc := 26) 0 rfl rfl dX6_drop_26 ?_
  refine g_dup (pc := 27) rfl dX6_drop_27 ?_
  refine fX6_63 (pc := 28) rfl hS.s1 dX6_drop_28 ?_
  refine g_topi (pc := 31) (x' := nI (M.1 1 5)) (by rw [e15]) ?_
  refine g_iconst (pc := 31) (nI 1) (by decide) dX6_drop_31 ?_
  refine g_iload_n (pc := 32) 1 rfl rfl dX6_drop_32 ?_
  refine g_ishl1 (pc := 33) (by omega) dX6_drop_33 ?_
  refine g_iconst (pc := 34) ((-1)) (by decide) dX6_drop_34 ?_
  refine g_ixor (pc := 35) dX6_drop_35 ?_
  refine g_iand (pc := 36) dX6_drop_36 ?_
  refine g_topi (pc := 37) (x' := nI (M.1 1 5 &&& (1023 - 2 ^ j))) (nx_clr hsg (by omega)) ?_
  refine uX6_63 (pc := 37) rfl hS.s1 dX6_drop_37 ?_
  refine g_aload_n (pc := 40) 0 rfl rfl dX6_drop_40 ?_
  refine fX6_63 (pc := 41) rfl hS.s1 dX6_drop_41 ?_
  refine g_topi (pc := 44) (x' := nI (M.1 1 5 &&& (1023 - 2 ^ j))) (by simp [gU, gUr]) ?_
  refine g_callS (pc := 44) (mc := mJ6_bitCount_0f7a4) (rest := []) lX6_81 iJ6_bitCount_0f7a4 (kJ6_bitCount l E (gU u 1 5 (M.1 1 5 &&& (1023 - 2 ^ j))) (M.1 1 5 &&& (1023 - 2 ^ j)) (Nat.lt_of_le_of_lt Nat.and_le_left hsg)) ⟨Nat.le_of_ble_eq_true rfl, Nat.le_of_ble_eq_true rfl⟩ rfl rfl (Nat.le_of_ble_eq_true rfl) ⟨Nat.zero_le _, Nat.zero_le _⟩ dX6_drop_44 (g_rI ?_)
  exact g_iret (pc := 47) rfl dX6_drop_47 ⟨rfl, u, hA, rfl⟩
set_option maxRecDepth 100000 in
set_option maxHeartbeats 4000000 in
theorem kX6_take (l : Launch) (E : gEnv) (M : gMem) (b b' : Nat) (hS : cS E M b b') (hO : cO M b) (hsg : M.1 1 5 < 1024) (hz : M.1 5 1 ≤ 6) (hn0 : 0 < M.1 b 1) (hbl : sBest (cV M b) (M.1 b 1) (goodC (cV M b) (M.1 b 1) (cH M b) (M.1 b 3) (M.1 b 4) (M.1 b 5)) (2 ^ M.1 b 1) < 1024) : gMet l E mX6_take 6 [.ref (gAd E 1)] M (fun v u => v = some (.int (nI (sOnes (sBest (cV M b) (M.1 b 1) (goodC (cV M b) (M.1 b 1) (cH M b) (M.1 b 3) (M.1 b 4) (M.1 b 5)) (2 ^ M.1 b 1))))) ∧ ∃ u0, hAdd M u0 (M.1 1 5) 0 (M.1 (b + 3 + 0) 7) ∧ u = gU u0 1 5 (sBest (cV M b) (M.1 b 1) (goodC (cV M b) (M.1 b 1) (cH M b) (M.1 b 3) (M.1 b 4) (M.1 b 5)) (2 ^ M.1 b 1))) := by
  have hB := hS.B
  have hO' := hO
  obtain ⟨hn, hk, hft, hto, hU, hH⟩ := hO
  have hO := hO'
  refine gMet_of (mm := mX6_take) (h := 6) (M := M) [(0, .ref (gAd E 1))] (by decide) (Nat.le_of_ble_eq_true rfl) rfl ?_
  refine g_aload_n (pc := 0) 0 rfl rfl dX6_take_0 ?_
  refine fX6_23 (pc := 1) b rfl hS.s1 hS.rb hS.b0 dX6_take_1 ?_
  refine g_callV (pc := 4) (mc := mX0_bestSet) (rest := []) lX6_241 iX0_bestSet (kX0_bestSet l E M b hB hO) ⟨Nat.le_of_ble_eq_true rfl, Nat.le_of_ble_eq_true rfl⟩ hB.1.1 (by decide) (by decide) rfl rfl rfl rfl (Nat.le_of_ble_eq_true rfl) ⟨Nat.zero_le _, Nat.zero_le _⟩ dX6_take_4 (g_rI ?_)
  refine g_istore_n (pc := 7) rfl [(0, .ref (gAd E 1)), (1, .int (nI (sBest (cV M b) (M.1 b 1) (goodC (cV M b) (M.1 b 1) (cH M b) (M.1 b 3) (M.1 b 4) (M.1 b 5)) (2 ^ M.1 b 1))))] dX6_take_7 (by decide) rfl rfl ?_
  refine g_aload_n (pc := 8) 0 rfl rfl dX6_take_8 ?_
  refine g_iconst (pc := 9) (nI 0) (by decide) dX6_take_9 ?_
  refine g_callV (pc := 10) (mc := mX6_remember) (rest := []) lX6_77 iX6_remember (kX6_remember l E M b b' hS hO hsg hz 0 hn0) ⟨Nat.le_of_ble_eq_true rfl, Nat.le_of_ble_eq_true rfl⟩ hS.s1 (by decide) (by decide) rfl rfl rfl rfl (Nat.le_of_ble_eq_true rfl) ⟨Nat.zero_le _, Nat.zero_le _⟩ dX6_take_10 ?_
  intro v u hq
  obtain ⟨rfl, hA⟩ := hq
  have hS' := hS
  have hS := hAdd_cS hS hA
  have e15 : u.1 1 5 = M.1 1 5 := hA.1 1 5 (by decide) (by decide)
  refine g_aload_n (pc := 13) 0 rfl rfl dX6_take_13 ?_
  refine g_iload_n (pc := 14) 1 rfl rfl dX6_take_14 ?_
  refine uX6_63 (pc := 15) rfl hS.s1 dX6_take_15 ?_
  refine g_aload_n (pc := 18) 0 rfl rfl dX6_take_18 ?_
  refine fX6_63 (pc := 19) rfl hS.s1 dX6_take_19 ?_
  refine g_topi (pc := 22) (x' := nI (sBest (cV M b) (M.1 b 1) (goodC (cV M b) (M.1 b 1) (cH M b) (M.1 b 3) (M.1 b 4) (M.1 b 5)) (2 ^ M.1 b 1))) (by simp [gU, gUr]) ?_
  refine g_callS (pc := 22) (mc := mJ6_bitCount_0f7a4) (rest := []) lX6_81 iJ6_bitCount_0f7a4 (kJ6_bitCount l E (gU u 1 5 (sBest (cV M b) (M.1 b 1) (goodC (cV M b) (M.1 b 1) (cH M b) (M.1 b 3) (M.1 b 4) (M.1 b 5)) (2 ^ M.1 b 1))) (sBest (cV M b) (M.1 b 1) (goodC (cV M b) (M.1 b 1) (cH M b) (M.1 b 3) (M.1 b 4) (M.1 b 5)) (2 ^ M.1 b 1)) (by omega)) ⟨Nat.le_of_ble_eq_true rfl, Nat.le_of_ble_eq_true rfl⟩ rfl rfl (Nat.le_of_ble_eq_true rfl) ⟨Nat.zero_le _, Nat.zero_le _⟩ dX6_take_22 (g_rI ?_)
  exact g_iret (pc := 25) rfl dX6_take_25 ⟨rfl, u, hA, rfl⟩
set_option maxRecDepth 100000 in
set_option maxHeartbeats 4000000 in
theorem kX6_write_bad (l : Launch) (E : gEnv) (M : gMem) (b b' : Nat) (hS : cS E M b b') (hO : cO M b) (hsg : M.1 1 5 < 1024) (x : Int32) (hx : inG x 32 126 = false) : gMetI l E mX6_write 0 [.ref (gAd E 1), .int x] M (-1) := by
  have hB := hS.B
  have hO' := hO
  obtain ⟨hn, hk, hft, hto, hU, hH⟩ := hO
  have hO := hO'
  refine gMet_of (mm := mX6_write) (h := 0) (M := M) [(0, .ref (gAd E 1)), (1, .int x)] (by decide) (Nat.le_of_ble_eq_true rfl) rfl ?_
  refine g_iload_n (pc := 0) 1 rfl rfl dX6_write_0 ?_
  refine g_bipush (pc := 1) (nI 32) (by decide) dX6_write_1 ?_
  refine g_icmp_lt (pc := 3) 12 dX6_write_3 (by decide) (fun h3 => ?_) (fun h3 => ?_)
  · refine g_iconst (pc := 12) ((-1)) (by decide) dX6_write_12 ?_
    exact g_iret (pc := 13) rfl dX6_write_13 ⟨rfl, rfl⟩
  · refine g_iload_n (pc := 6) 1 rfl rfl dX6_write_6 ?_
    refine g_bipush (pc := 7) (nI 126) (by decide) dX6_write_7 ?_
    refine g_icmp_le (pc := 9) 14 dX6_write_9 (by decide) (fun h9 => absurd h9 (fun q => (of_decide_eq_false hx) ⟨i32_ge (by omega) h3, i32_le (by omega) h9⟩)) (fun h9 => ?_)
    refine g_iconst (pc := 12) ((-1)) (by decide) dX6_write_12 ?_
    exact g_iret (pc := 13) rfl dX6_write_13 ⟨rfl, rfl⟩
set_option maxRecDepth 100000 in
set_option maxHeartbeats 4000000 in
theorem kX6_write_full (l : Launch) (E : gEnv) (M : gMem) (b b' : Nat) (hS : cS E M b b') (hO : cO M b) (hsg : M.1 1 5 < 1024) (c : Nat) (hc1 : 32 ≤ c) (hc2 : c ≤ 126) (hL : M.1 1 1 = 200) : gMetI l E mX6_write 0 [.ref (gAd E 1), .int (nI c)] M (-3) := by
  have hB := hS.B
  have hO' := hO
  obtain ⟨hn, hk, hft, hto, hU, hH⟩ := hO
  have hO := hO'
  refine gMet_of (mm := mX6_write) (h := 0) (M := M) [(0, .ref (gAd E 1)), (1, .int (nI c))] (by decide) (Nat.le_of_ble_eq_true rfl) rfl ?_
  refine g_iload_n (pc := 0) 1 rfl rfl dX6_write_0 ?_
  refine g_bipush (pc := 1) (nI 32) (by decide) dX6_write_1 ?_
  refine g_icmpN_lt (pc := 3) 12 dX6_write_3 (by decide) (by omega) (by omega) (fun h3 => absurd h3 (by omega)) (fun h3 => ?_)
  refine g_iload_n (pc := 6) 1 rfl rfl dX6_write_6 ?_
  refine g_bipush (pc := 7) (nI 126) (by decide) dX6_write_7 ?_
  refine g_icmpN_le (pc := 9) 14 dX6_write_9 (by decide) (by omega) (by omega) (fun h9 => ?_) (fun h9 => absurd h9 (by omega))
  refine g_aload_n (pc := 14) 0 rfl rfl dX6_write_14 ?_
  refine fX6_49 (pc := 15) rfl hS.s1 dX6_write_15 ?_
  refine g_sipush (pc := 18) (nI 200) (by decide) dX6_write_18 ?_
  refine g_icmpN_lt (pc := 21) 27 dX6_write_21 (by decide) (by omega) (by omega) (fun h21 => absurd h21 (by omega)) (fun h21 => ?_)
  refine g_bipush (pc := 24) ((-3)) (by decide) dX6_write_24 ?_
  exact g_iret (pc := 26) rfl dX6_write_26 ⟨rfl, rfl⟩
set_option maxRecDepth 100000 in
set_option maxHeartbeats 4000000 in
theorem kX6_write_ok (l : Launch) (E : gEnv) (M : gMem) (b b' : Nat) (hS : cS E M b b') (hO : cO M b) (hsg : M.1 1 5 < 1024) (c : Nat) (hc1 : 32 ≤ c) (hc2 : c ≤ 126) (hL : M.1 1 1 < 200) : gMet l E mX6_write 0 [.ref (gAd E 1), .int (nI c)] M (fun v u => v = some (.int (nI (M.1 1 1 + 1))) ∧ u = gU (gU M 2 (M.1 1 1) c) 1 1 (M.1 1 1 + 1)) := by
  have hB := hS.B
  have hO' := hO
  obtain ⟨hn, hk, hft, hto, hU, hH⟩ := hO
  have hO := hO'
  refine gMet_of (mm := mX6_write) (h := 0) (M := M) [(0, .ref (gAd E 1)), (1, .int (nI c))] (by decide) (Nat.le_of_ble_eq_true rfl) rfl ?_
  refine g_iload_n (pc := 0) 1 rfl rfl dX6_write_0 ?_
  refine g_bipush (pc := 1) (nI 32) (by decide) dX6_write_1 ?_
  refine g_icmpN_lt (pc := 3) 12 dX6_write_3 (by decide) (by omega) (by omega) (fun h3 => absurd h3 (by omega)) (fun h3 => ?_)
  refine g_iload_n (pc := 6) 1 rfl rfl dX6_write_6 ?_
  refine g_bipush (pc := 7) (nI 126) (by decide) dX6_write_7 ?_
  refine g_icmpN_le (pc := 9) 14 dX6_write_9 (by decide) (by omega) (by omega) (fun h9 => ?_) (fun h9 => absurd h9 (by omega))
  refine g_aload_n (pc := 14) 0 rfl rfl dX6_write_14 ?_
  refine fX6_49 (pc := 15) rfl hS.s1 dX6_write_15 ?_
  refine g_sipush (pc := 18) (nI 200) (by decide) dX6_write_18 ?_
  refine g_icmpN_lt (pc := 21) 27 dX6_write_21 (by decide) (by omega) (by omega) (fun h21 => ?_) (fun h21 => absurd h21 (by omega))
  refine g_aload_n (pc := 27) 0 rfl rfl dX6_write_27 ?_
  refine fX6_9 (pc := 28) 2 rfl hS.s1 hS.rt (by decide) dX6_write_28 ?_
  refine g_aload_n (pc := 31) 0 rfl rfl dX6_write_31 ?_
  refine fX6_49 (pc := 32) rfl hS.s1 dX6_write_32 ?_
  refine g_iload_n (pc := 35) 1 rfl rfl dX6_write_35 ?_
  refine g_i2c (pc := 36) (nI c) (by rw [pk_char, pk_tn (by omega), Nat.mod_eq_of_lt (by omega)]) dX6_write_36 ?_
  refine g_castore (pc := 37) hS.s2 (by rw [hS.l2]; omega) (by rw [hS.l2]; omega) (by omega) dX6_write_37 ?_
  refine g_aload_n (pc := 38) 0 rfl rfl dX6_write_38 ?_
  refine g_dup (pc := 39) rfl dX6_write_39 ?_
  refine fX6_49 (pc := 40) rfl hS.s1 dX6_write_40 ?_
  refine g_topi (pc := 43) (x' := nI (M.1 1 1)) (by simp [gU, gUr]) ?_
  refine g_iconst (pc := 43) (nI 1) (by decide) dX6_write_43 ?_
  refine g_iaddN (pc := 44) dX6_write_44 ?_
  refine uX6_49 (pc := 45) rfl hS.s1 dX6_write_45 ?_
  refine g_aload_n (pc := 48) 0 rfl rfl dX6_write_48 ?_
  refine fX6_49 (pc := 49) rfl hS.s1 dX6_write_49 ?_
  refine g_topi (pc := 52) (x' := nI ((M.1 1 1) + 1)) (by simp [gU, gUr]) ?_
  exact g_iret (pc := 52) rfl dX6_write_52 ⟨rfl, rfl⟩
set_option maxRecDepth 100000 in
set_option maxHeartbeats 4000000 in
theorem kX6_wipe (l : Launch) (E : gEnv) (M : gMem) (b b' : Nat) (hS : cS E M b b') (hO : cO M b) (hsg : M.1 1 5 < 1024) : gMet l E mX6_wipe 0 [.ref (gAd E 1)] M (fun v u => v = some (.int (nI (M.1 1 1))) ∧ u = gU M 1 1 0) := by
  have hB := hS.B
  have hO' := hO
  obtain ⟨hn, hk, hft, hto, hU, hH⟩ := hO
  have hO := hO'
  refine gMet_of (mm := mX6_wipe) (h := 0) (M := M) [(0, .ref (gAd E 1))] (by decide) (Nat.le_of_ble_eq_true rfl) rfl ?_
  refine g_aload_n (pc := 0) 0 rfl rfl dX6_wipe_0 ?_
  refine fX6_49 (pc := 1) rfl hS.s1 dX6_wipe_1 ?_
  refine g_istore_n (pc := 4) rfl [(0, .ref (gAd E 1)), (1, .int (nI (M.1 1 1)))] dX6_wipe_4 (by decide) rfl rfl ?_
  refine g_aload_n (pc := 5) 0 rfl rfl dX6_wipe_5 ?_
  refine g_iconst (pc := 6) (nI 0) (by decide) dX6_wipe_6 ?_
  refine uX6_49 (pc := 7) rfl hS.s1 dX6_wipe_7 ?_
  refine g_iload_n (pc := 10) 1 rfl rfl dX6_wipe_10 ?_
  exact g_iret (pc := 11) rfl dX6_wipe_11 ⟨rfl, rfl⟩
