set_option maxRecDepth 100000 in
set_option maxHeartbeats 4000000 in
theorem kX7_in (l : Launch) (E : gEnv) (M : gMem) (x lo hi : Int32) : gMetI l E mX7_in 0 [.int x, .int lo, .int hi] M (gb (b2 lo x hi)) := by
  refine gMet_of (mm := mX7_in) (h := 0) (M := M) [(0, .int x), (1, .int lo), (2, .int hi)] (by decide) (Nat.le_of_ble_eq_true rfl) rfl ?_
  refine g_iload_n (pc := 0) 0 rfl rfl dX7_in_0 ?_
  refine g_iload_n (pc := 1) 1 rfl rfl dX7_in_1 ?_
  refine g_icmp_lt (pc := 2) 14 dX7_in_2 (by decide) (fun h2 => ?_) (fun h2 => ?_)
  · refine g_iconst (pc := 14) (nI 0) (by decide) dX7_in_14 ?_
    refine g_topi (pc := 15) (x' := gb false) (by decide) ?_
    exact g_zret (pc := 15) rfl dX7_in_15 ⟨congrArg (fun z => some (Value.int (gb z))) (bf_of (by intro hh; have hh := of_decide_eq_true hh; exact Int32.not_lt.mpr hh.1 h2)), rfl⟩
  · refine g_iload_n (pc := 5) 0 rfl rfl dX7_in_5 ?_
    refine g_iload_n (pc := 6) 2 rfl rfl dX7_in_6 ?_
    refine g_icmp_gt (pc := 7) 14 dX7_in_7 (by decide) (fun h7 => ?_) (fun h7 => ?_)
    · refine g_iconst (pc := 14) (nI 0) (by decide) dX7_in_14 ?_
      refine g_topi (pc := 15) (x' := gb false) (by decide) ?_
      exact g_zret (pc := 15) rfl dX7_in_15 ⟨congrArg (fun z => some (Value.int (gb z))) (bf_of (by intro hh; have hh := of_decide_eq_true hh; exact Int32.not_lt.mpr hh.2 h7)), rfl⟩
    · refine g_iconst (pc := 10) (nI 1) (by decide) dX7_in_10 ?_
      refine g_goto (pc := 11) 15 dX7_in_11 (by decide) ?_
      refine g_topi (pc := 15) (x' := gb true) (by decide) ?_
      exact g_zret (pc := 15) rfl dX7_in_15 ⟨congrArg (fun z => some (Value.int (gb z))) (bt_of (by exact decide_eq_true ⟨Int32.not_lt.mp h2, Int32.not_lt.mp h7⟩)), rfl⟩
theorem kX7_inN (l : Launch) (E : gEnv) (M : gMem) (x lo hi : Nat) (h0 : x < 2147483648) (h1 : lo < 2147483648) (h2 : hi < 2147483648) : gMetI l E mX7_in 0 [.int (nI x), .int (nI lo), .int (nI hi)] M (gb (decide (lo ≤ x ∧ x ≤ hi))) := by
  rw [← b2_N h0 h1 h2]; exact kX7_in l E M _ _ _
theorem kX7_inG (l : Launch) (E : gEnv) (M : gMem) (x : Int32) (lo hi : Nat) (h1 : lo < 2147483648) (h2 : hi < 2147483648) : gMetI l E mX7_in 0 [.int x, .int (nI lo), .int (nI hi)] M (gb (inG x lo hi)) := by
  rw [← b2_G h1 h2]; exact kX7_in l E M _ _ _
theorem kX7_inR (l : Launch) (E : gEnv) (M : gMem) (x : Int32) (n : Nat) (h : n < 2147483648) : gMetI l E mX7_in 0 [.int x, .int (nI 0), .int (nI n - nI 1)] M (gb (inR x n)) := by
  rw [← b2_R h]; exact kX7_in l E M _ _ _
set_option maxRecDepth 100000 in
set_option maxHeartbeats 4000000 in
theorem kX7_isOffer (l : Launch) (E : gEnv) (M : gMem) (hR : mR E M) (hO : mO M) (hsg : M.1 66 10 < 1024) (x : Int32) : gMetI l E mX7_isOffer 1 [.ref (gAd E 60), .int x] M (gb (inR x (M.1 60 11))) := by
  have hO' := hO
  obtain ⟨hn, hk, hft, hto, hU, hH⟩ := hO
  have hO := hO'
  refine gMet_of (mm := mX7_isOffer) (h := 1) (M := M) [(0, .ref (gAd E 60)), (1, .int x)] (by decide) (Nat.le_of_ble_eq_true rfl) rfl ?_
  refine g_iload_n (pc := 0) 1 rfl rfl dX7_isOffer_0 ?_
  refine g_iconst (pc := 1) (nI 0) (by decide) dX7_isOffer_1 ?_
  refine g_aload_n (pc := 2) 0 rfl rfl dX7_isOffer_2 ?_
  refine fX7_61 (pc := 3) rfl hR.s0 dX7_isOffer_3 ?_
  refine g_iconst (pc := 6) (nI 1) (by decide) dX7_isOffer_6 ?_
  refine g_isub (pc := 7) dX7_isOffer_7 ?_
  refine g_callS (pc := 8) (mc := mX7_in) (rest := []) lX7_82 iX7_in (kX7_inR l E M (x) (M.1 60 11) (by omega)) ⟨Nat.le_of_ble_eq_true rfl, Nat.le_of_ble_eq_true rfl⟩ rfl rfl (Nat.le_of_ble_eq_true rfl) ⟨Nat.zero_le _, Nat.zero_le _⟩ dX7_isOffer_8 (g_rI ?_)
  exact g_zret (pc := 11) rfl dX7_isOffer_11 ⟨rfl, rfl⟩
set_option maxRecDepth 100000 in
set_option maxHeartbeats 4000000 in
theorem kX7_of (l : Launch) (E : gEnv) (M : gMem) (hR : mR E M) (i w : Nat) (hi : i < 10) (hw : w < 7) : gMetI l E mX7_of 0 [.ref (gAd E 60), .int (nI i), .int (nI w)] M (nI (mV M i w)) := by
  refine gMet_of (mm := mX7_of) (h := 0) (M := M) [(0, .ref (gAd E 60)), (1, .int (nI i)), (2, .int (nI w))] (by decide) (Nat.le_of_ble_eq_true rfl) rfl ?_
  refine g_aload_n (pc := 0) 0 rfl rfl dX7_of_0 ?_
  refine fX7_19 (pc := 1) 64 rfl hR.s0 hR.r4 (by decide) dX7_of_1 ?_
  refine g_bipush (pc := 4) (nI 7) (by decide) dX7_of_4 ?_
  refine g_iload_n (pc := 6) 1 rfl rfl dX7_of_6 ?_
  refine g_imulN (pc := 7) dX7_of_7 ?_
  refine g_iload_n (pc := 8) 2 rfl rfl dX7_of_8 ?_
  refine g_iaddN (pc := 9) dX7_of_9 ?_
  refine g_iaload (pc := 10) hR.s4 (by rw [hR.l4]; omega) (by rw [hR.l4]; omega) dX7_of_10 ?_
  refine g_istore_n (pc := 11) rfl [(0, .ref (gAd E 60)), (1, .int (nI i)), (2, .int (nI w)), (3, .int (nI (M.1 64 ((7 * i) + w))))] dX7_of_11 (by decide) rfl rfl ?_
  refine g_iload_n (pc := 12) 2 rfl rfl dX7_of_12 ?_
  refine g_iconst (pc := 13) (nI 3) (by decide) dX7_of_13 ?_
  refine g_icmpN_eq (pc := 14) 22 dX7_of_14 (by decide) (by omega) (by omega) (fun h14 => ?_) (fun h14 => ?_)
  · refine g_iload_n (pc := 22) 3 rfl rfl dX7_of_22 ?_
    refine g_aload_n (pc := 23) 0 rfl rfl dX7_of_23 ?_
    refine fX7_25 (pc := 24) 66 rfl hR.s0 hR.r6 (by decide) dX7_of_24 ?_
    refine g_iload_n (pc := 27) 1 rfl rfl dX7_of_27 ?_
    refine g_iaload (pc := 28) hR.s6 (by rw [hR.l6]; omega) (by rw [hR.l6]; omega) dX7_of_28 ?_
    refine g_iaddN (pc := 29) dX7_of_29 ?_
    refine g_goto (pc := 30) 34 dX7_of_30 (by decide) ?_
    exact g_iret (pc := 34) rfl dX7_of_34 ⟨congrArg (fun z => some (Value.int z)) (by subst h14; rfl), rfl⟩
  · refine g_iload_n (pc := 17) 2 rfl rfl dX7_of_17 ?_
    refine g_iconst (pc := 18) (nI 4) (by decide) dX7_of_18 ?_
    refine g_icmpN_ne (pc := 19) 33 dX7_of_19 (by decide) (by omega) (by omega) (fun h19 => ?_) (fun h19 => ?_)
    · refine g_iload_n (pc := 33) 3 rfl rfl dX7_of_33 ?_
      exact g_iret (pc := 34) rfl dX7_of_34 ⟨congrArg (fun z => some (Value.int z)) (by rw [mV_o h14 h19]), rfl⟩
    · refine g_iload_n (pc := 22) 3 rfl rfl dX7_of_22 ?_
      refine g_aload_n (pc := 23) 0 rfl rfl dX7_of_23 ?_
      refine fX7_25 (pc := 24) 66 rfl hR.s0 hR.r6 (by decide) dX7_of_24 ?_
      refine g_iload_n (pc := 27) 1 rfl rfl dX7_of_27 ?_
      refine g_iaload (pc := 28) hR.s6 (by rw [hR.l6]; omega) (by rw [hR.l6]; omega) dX7_of_28 ?_
      refine g_iaddN (pc := 29) dX7_of_29 ?_
      refine g_goto (pc := 30) 34 dX7_of_30 (by decide) ?_
      exact g_iret (pc := 34) rfl dX7_of_34 ⟨congrArg (fun z => some (Value.int z)) (by subst h19; rfl), rfl⟩
set_option maxRecDepth 100000 in
set_option maxHeartbeats 4000000 in
theorem kX7_isSigned (l : Launch) (E : gEnv) (M : gMem) (hR : mR E M) (hsg : M.1 66 10 < 1024) (i : Nat) (hi : i < 32) : gMetI l E mX7_isSigned 0 [.ref (gAd E 60), .int (nI i)] M (gb ((M.1 66 10).testBit i)) := by
  refine gMet_of (mm := mX7_isSigned) (h := 0) (M := M) [(0, .ref (gAd E 60)), (1, .int (nI i))] (by decide) (Nat.le_of_ble_eq_true rfl) rfl ?_
  refine g_aload_n (pc := 0) 0 rfl rfl dX7_isSigned_0 ?_
  refine fX7_25 (pc := 1) 66 rfl hR.s0 hR.r6 (by decide) dX7_isSigned_1 ?_
  refine g_bipush (pc := 4) (nI 10) (by decide) dX7_isSigned_4 ?_
  refine g_iaload (pc := 6) hR.s6 (by rw [hR.l6]; omega) (by rw [hR.l6]; omega) dX7_isSigned_6 ?_
  refine g_iload_n (pc := 7) 1 rfl rfl dX7_isSigned_7 ?_
  refine g_ishrN (pc := 8) (by omega) (by omega) dX7_isSigned_8 ?_
  refine g_iconst (pc := 9) (nI 1) (by decide) dX7_isSigned_9 ?_
  refine g_iand1 (pc := 10) dX7_isSigned_10 ?_
  refine g_iconst (pc := 11) (nI 1) (by decide) dX7_isSigned_11 ?_
  refine g_icmpN_ne (pc := 12) 19 dX7_isSigned_12 (by decide) (by omega) (by omega) (fun h12 => ?_) (fun h12 => ?_)
  · refine g_iconst (pc := 19) (nI 0) (by decide) dX7_isSigned_19 ?_
    refine g_topi (pc := 20) (x' := gb false) (by decide) ?_
    exact g_zret (pc := 20) rfl dX7_isSigned_20 ⟨congrArg (fun z => some (Value.int (gb z))) (by rw [nx_tb]; simp; omega), rfl⟩
  · refine g_iconst (pc := 15) (nI 1) (by decide) dX7_isSigned_15 ?_
    refine g_goto (pc := 16) 20 dX7_isSigned_16 (by decide) ?_
    refine g_topi (pc := 20) (x' := gb true) (by decide) ?_
    exact g_zret (pc := 20) rfl dX7_isSigned_20 ⟨congrArg (fun z => some (Value.int (gb z))) (by rw [nx_tb]; simp; omega), rfl⟩
set_option maxRecDepth 100000 in
set_option maxHeartbeats 4000000 in
theorem kX7_ones (l : Launch) (E : gEnv) (M : gMem) (n : Nat) (hn : n < 2147483648) : gMetI l E mX7_ones 0 [.int (nI n)] M (nI (sOnes n)) := by
  refine gMet_of (mm := mX7_ones) (h := 0) (M := M) [(0, .int (nI n))] (by decide) (Nat.le_of_ble_eq_true rfl) rfl ?_
  refine g_iconst (pc := 0) (nI 0) (by decide) dX7_ones_0 ?_
  refine g_istore_n (pc := 1) rfl [(0, .int (nI n)), (1, .int (nI 0))] dX7_ones_1 (by decide) rfl rfl ?_
  refine g_iconst (pc := 2) (nI 0) (by decide) dX7_ones_2 ?_
  refine g_istore_n (pc := 3) rfl [(0, .int (nI n)), (1, .int (nI 0)), (2, .int (nI 0))] dX7_ones_3 (by decide) rfl rfl ?_
  have lp4 : ∀ k, k ≤ 10 → gG l (gV0 0 E (fun v u => v = some (.int (nI (sOnes n))) ∧ u = M)) mX7_ones E (0, 0) M 4 [(0, .int (nI n)), (1, .int (nI (sSum (fun z => n / 2 ^ z % 2) k))), (2, .int (nI k))] [] := by
    refine gloop (fun k hik ihk => ?_)
    refine g_iload_n (pc := 4) 2 rfl rfl dX7_ones_4 ?_
    refine g_bipush (pc := 5) (nI 10) (by decide) dX7_ones_5 ?_
    refine g_icmpN_ge (pc := 7) 24 dX7_ones_7 (by decide) (by omega) (by omega) (fun h7 => ?_) (fun h7 => ?_)
    · refine g_iload_n (pc := 24) 1 rfl rfl dX7_ones_24 ?_
      exact g_iret (pc := 25) rfl dX7_ones_25 ⟨congrArg (fun z => some (Value.int z)) (by rw [show k = 10 by omega]; rfl), rfl⟩
    · refine g_iload_n (pc := 10) 1 rfl rfl dX7_ones_10 ?_
      refine g_iload_n (pc := 11) 0 rfl rfl dX7_ones_11 ?_
      refine g_iload_n (pc := 12) 2 rfl rfl dX7_ones_12 ?_
      refine g_ishrN (pc := 13) (by omega) (by omega) dX7_ones_13 ?_
      refine g_iconst (pc := 14) (nI 1) (by decide) dX7_ones_14 ?_
      refine g_iand1 (pc := 15) dX7_ones_15 ?_
      refine g_iaddN (pc := 16) dX7_ones_16 ?_
      refine g_istore_n (pc := 17) rfl [(0, .int (nI n)), (1, .int (nI ((sSum (fun z => n / 2 ^ z % 2) k) + ((n / 2 ^ k) % 2)))), (2, .int (nI k))] dX7_ones_17 (by decide) rfl rfl ?_
      refine g_iincN (pc := 18) 1 2 [(0, .int (nI n)), (1, .int (nI ((sSum (fun z => n / 2 ^ z % 2) k) + ((n / 2 ^ k) % 2)))), (2, .int (nI (k + 1)))] rfl dX7_ones_18 (by decide) rfl rfl ?_
      refine g_goto (pc := 21) 4 dX7_ones_21 (by decide) ?_
      refine g_lv (pc := 4) (lv' := [(0, .int (nI n)), (1, .int (nI (sSum (fun z => n / 2 ^ z % 2) (k + 1)))), (2, .int (nI (k + 1)))]) rfl ?_
      exact ihk (by omega)
  refine g_lv (pc := 4) (lv' := [(0, .int (nI n)), (1, .int (nI (sSum (fun z => n / 2 ^ z % 2) 0))), (2, .int (nI 0))]) rfl ?_
  exact lp4 0 (by omega)
set_option maxRecDepth 100000 in
set_option maxHeartbeats 4000000 in
theorem kX7_commonOf (l : Launch) (E : gEnv) (M : gMem) (hR : mR E M) (hO : mO M) (i j : Nat) (hi : i < M.1 60 11) (hj : j < M.1 60 11) : gMetI l E mX7_commonOf 1 [.ref (gAd E 60), .int (nI i), .int (nI j)] M (nI (sCom (mV M i) (mV M j))) := by
  have hO' := hO
  obtain ⟨hn, hk, hft, hto, hU, hH⟩ := hO
  have hO := hO'
  have ui := hU i hi
  have uj := hU j hj
  obtain ⟨i0, i1, i2, i3, i4, i5, i6, i7⟩ := ui
  obtain ⟨j0, j1, j2, j3, j4, j5, j6, j7⟩ := uj
  have jn79 : gG l (gV0 1 E (fun v u => v = some (.int (nI (sCom (mV M i) (mV M j)))) ∧ u = M)) mX7_commonOf E (0, 0) M 79 [(0, .ref (gAd E 60)), (1, .int (nI i)), (2, .int (nI j)), (3, .int (nI (if mV M i 3 > mV M j 3 then mV M i 3 else mV M j 3))), (4, .int (nI (if mV M i 4 < mV M j 4 then mV M i 4 else mV M j 4)))] [.int (nI (sWk (mV M i) (mV M j)))] := by
    refine g_istore (pc := 79) [(0, .ref (gAd E 60)), (1, .int (nI i)), (2, .int (nI j)), (3, .int (nI (if mV M i 3 > mV M j 3 then mV M i 3 else mV M j 3))), (4, .int (nI (if mV M i 4 < mV M j 4 then mV M i 4 else mV M j 4))), (5, .int (nI (sWk (mV M i) (mV M j))))] dX7_commonOf_79 (by decide) rfl rfl ?_
    refine g_aload_n (pc := 81) 0 rfl rfl dX7_commonOf_81 ?_
    refine g_iload_n (pc := 82) 1 rfl rfl dX7_commonOf_82 ?_
    refine g_iconst (pc := 83) (nI 0) (by decide) dX7_commonOf_83 ?_
    refine g_callV (pc := 84) (mc := mX7_of) (rest := []) lX7_107 iX7_of (kX7_of l E M hR i 0 (by omega) (by omega)) ⟨Nat.le_of_ble_eq_true rfl, Nat.le_of_ble_eq_true rfl⟩ hR.s0 (by decide) (by decide) rfl rfl rfl rfl (Nat.le_of_ble_eq_true rfl) ⟨Nat.zero_le _, Nat.zero_le _⟩ dX7_commonOf_84 (g_rI ?_)
    refine g_aload_n (pc := 87) 0 rfl rfl dX7_commonOf_87 ?_
    refine g_iload_n (pc := 88) 2 rfl rfl dX7_commonOf_88 ?_
    refine g_iconst (pc := 89) (nI 0) (by decide) dX7_commonOf_89 ?_
    refine g_callV (pc := 90) (mc := mX7_of) (rest := [.int (nI (mV M i 0))]) lX7_107 iX7_of (kX7_of l E M hR j 0 (by omega) (by omega)) ⟨Nat.le_of_ble_eq_true rfl, Nat.le_of_ble_eq_true rfl⟩ hR.s0 (by decide) (by decide) rfl rfl rfl rfl (Nat.le_of_ble_eq_true rfl) ⟨Nat.zero_le _, Nat.zero_le _⟩ dX7_commonOf_90 (g_rI ?_)
    refine g_iandN (pc := 93) dX7_commonOf_93 ?_
    refine g_callS (pc := 94) (mc := mX7_ones) (rest := []) lX7_111 iX7_ones (kX7_ones l E M ((mV M i 0) &&& (mV M j 0)) (Nat.lt_of_le_of_lt Nat.and_le_left (by omega))) ⟨Nat.le_of_ble_eq_true rfl, Nat.le_of_ble_eq_true rfl⟩ rfl rfl (Nat.le_of_ble_eq_true rfl) ⟨Nat.zero_le _, Nat.zero_le _⟩ dX7_commonOf_94 (g_rI ?_)
    refine g_aload_n (pc := 97) 0 rfl rfl dX7_commonOf_97 ?_
    refine g_iload_n (pc := 98) 1 rfl rfl dX7_commonOf_98 ?_
    refine g_iconst (pc := 99) (nI 1) (by decide) dX7_commonOf_99 ?_
    refine g_callV (pc := 100) (mc := mX7_of) (rest := [.int (nI (sOnes ((mV M i 0) &&& (mV M j 0))))]) lX7_107 iX7_of (kX7_of l E M hR i 1 (by omega) (by omega)) ⟨Nat.le_of_ble_eq_true rfl, Nat.le_of_ble_eq_true rfl⟩ hR.s0 (by decide) (by decide) rfl rfl rfl rfl (Nat.le_of_ble_eq_true rfl) ⟨Nat.zero_le _, Nat.zero_le _⟩ dX7_commonOf_100 (g_rI ?_)
    refine g_aload_n (pc := 103) 0 rfl rfl dX7_commonOf_103 ?_
    refine g_iload_n (pc := 104) 2 rfl rfl dX7_commonOf_104 ?_
    refine g_iconst (pc := 105) (nI 1) (by decide) dX7_commonOf_105 ?_
    refine g_callV (pc := 106) (mc := mX7_of) (rest := [.int (nI (mV M i 1)), .int (nI (sOnes ((mV M i 0) &&& (mV M j 0))))]) lX7_107 iX7_of (kX7_of l E M hR j 1 (by omega) (by omega)) ⟨Nat.le_of_ble_eq_true rfl, Nat.le_of_ble_eq_true rfl⟩ hR.s0 (by decide) (by decide) rfl rfl rfl rfl (Nat.le_of_ble_eq_true rfl) ⟨Nat.zero_le _, Nat.zero_le _⟩ dX7_commonOf_106 (g_rI ?_)
    refine g_iandN (pc := 109) dX7_commonOf_109 ?_
    refine g_callS (pc := 110) (mc := mX7_ones) (rest := [.int (nI (sOnes ((mV M i 0) &&& (mV M j 0))))]) lX7_111 iX7_ones (kX7_ones l E M ((mV M i 1) &&& (mV M j 1)) (Nat.lt_of_le_of_lt Nat.and_le_left (by omega))) ⟨Nat.le_of_ble_eq_true rfl, Nat.le_of_ble_eq_true rfl⟩ rfl rfl (Nat.le_of_ble_eq_true rfl) ⟨Nat.zero_le _, Nat.zero_le _⟩ dX7_commonOf_110 (g_rI ?_)
    refine g_imulN (pc := 113) dX7_commonOf_113 ?_
    refine g_aload_n (pc := 114) 0 rfl rfl dX7_commonOf_114 ?_
    refine g_iload_n (pc := 115) 1 rfl rfl dX7_commonOf_115 ?_
    refine g_iconst (pc := 116) (nI 2) (by decide) dX7_commonOf_116 ?_
    refine g_callV (pc := 117) (mc := mX7_of) (rest := [.int (nI ((sOnes ((mV M i 0) &&& (mV M j 0))) * (sOnes ((mV M i 1) &&& (mV M j 1)))))]) lX7_107 iX7_of (kX7_of l E M hR i 2 (by omega) (by omega)) ⟨Nat.le_of_ble_eq_true rfl, Nat.le_of_ble_eq_true rfl⟩ hR.s0 (by decide) (by decide) rfl rfl rfl rfl (Nat.le_of_ble_eq_true rfl) ⟨Nat.zero_le _, Nat.zero_le _⟩ dX7_commonOf_117 (g_rI ?_)
    refine g_aload_n (pc := 120) 0 rfl rfl dX7_commonOf_120 ?_
    refine g_iload_n (pc := 121) 2 rfl rfl dX7_commonOf_121 ?_
    refine g_iconst (pc := 122) (nI 2) (by decide) dX7_commonOf_122 ?_
    refine g_callV (pc := 123) (mc := mX7_of) (rest := [.int (nI (mV M i 2)), .int (nI ((sOnes ((mV M i 0) &&& (mV M j 0))) * (sOnes ((mV M i 1) &&& (mV M j 1)))))]) lX7_107 iX7_of (kX7_of l E M hR j 2 (by omega) (by omega)) ⟨Nat.le_of_ble_eq_true rfl, Nat.le_of_ble_eq_true rfl⟩ hR.s0 (by decide) (by decide) rfl rfl rfl rfl (Nat.le_of_ble_eq_true rfl) ⟨Nat.zero_le _, Nat.zero_le _⟩ dX7_commonOf_123 (g_rI ?_)
    refine g_iandN (pc := 126) dX7_commonOf_126 ?_
    refine g_callS (pc := 127) (mc := mX7_ones) (rest := [.int (nI ((sOnes ((mV M i 0) &&& (mV M j 0))) * (sOnes ((mV M i 1) &&& (mV M j 1)))))]) lX7_111 iX7_ones (kX7_ones l E M ((mV M i 2) &&& (mV M j 2)) (Nat.lt_of_le_of_lt Nat.and_le_left (by omega))) ⟨Nat.le_of_ble_eq_true rfl, Nat.le_of_ble_eq_true rfl⟩ rfl rfl (Nat.le_of_ble_eq_true rfl) ⟨Nat.zero_le _, Nat.zero_le _⟩ dX7_commonOf_127 (g_rI ?_)
    refine g_imulN (pc := 130) dX7_commonOf_130 ?_
    refine g_iload (pc := 131) 5 rfl dX7_commonOf_131 ?_
    refine g_imulN (pc := 133) dX7_commonOf_133 ?_
    exact g_iret (pc := 134) rfl dX7_commonOf_134 ⟨rfl, rfl⟩
  have jn61 : gG l (gV0 1 E (fun v u => v = some (.int (nI (sCom (mV M i) (mV M j)))) ∧ u = M)) mX7_commonOf E (0, 0) M 61 [(0, .ref (gAd E 60)), (1, .int (nI i)), (2, .int (nI j)), (3, .int (nI (if mV M i 3 > mV M j 3 then mV M i 3 else mV M j 3)))] [.int (nI (if mV M i 4 < mV M j 4 then mV M i 4 else mV M j 4))] := by
    refine g_istore (pc := 61) [(0, .ref (gAd E 60)), (1, .int (nI i)), (2, .int (nI j)), (3, .int (nI (if mV M i 3 > mV M j 3 then mV M i 3 else mV M j 3))), (4, .int (nI (if mV M i 4 < mV M j 4 then mV M i 4 else mV M j 4)))] dX7_commonOf_61 (by decide) rfl rfl ?_
    have hb1 : (if mV M i 4 < mV M j 4 then mV M i 4 else mV M j 4) ≤ 51 := by split <;> omega
    have hb2 : (if mV M i 3 > mV M j 3 then mV M i 3 else mV M j 3) ≤ 51 := by split <;> omega
    refine g_iload (pc := 63) 4 rfl dX7_commonOf_63 ?_
    refine g_iload_n (pc := 65) 3 rfl rfl dX7_commonOf_65 ?_
    refine g_icmpN_ge (pc := 66) 73 dX7_commonOf_66 (by decide) (by omega) (by omega) (fun h66 => ?_) (fun h66 => ?_)
    · refine g_iload (pc := 73) 4 rfl dX7_commonOf_73 ?_
      refine g_iload_n (pc := 75) 3 rfl rfl dX7_commonOf_75 ?_
      refine g_isubN (pc := 76) (by omega) dX7_commonOf_76 ?_
      refine g_iconst (pc := 77) (nI 1) (by decide) dX7_commonOf_77 ?_
      refine g_iaddN (pc := 78) dX7_commonOf_78 ?_
      refine g_topi (pc := 79) (x' := nI (sWk (mV M i) (mV M j))) (by unfold sWk; congr 1; omega) ?_
      exact jn79
    · refine g_iconst (pc := 69) (nI 0) (by decide) dX7_commonOf_69 ?_
      refine g_goto (pc := 70) 79 dX7_commonOf_70 (by decide) ?_
      refine g_topi (pc := 79) (x' := nI (sWk (mV M i) (mV M j))) (by unfold sWk; congr 1; omega) ?_
      exact jn79
  have jn30 : gG l (gV0 1 E (fun v u => v = some (.int (nI (sCom (mV M i) (mV M j)))) ∧ u = M)) mX7_commonOf E (0, 0) M 30 [(0, .ref (gAd E 60)), (1, .int (nI i)), (2, .int (nI j))] [.int (nI (if mV M i 3 > mV M j 3 then mV M i 3 else mV M j 3))] := by
    refine g_istore_n (pc := 30) rfl [(0, .ref (gAd E 60)), (1, .int (nI i)), (2, .int (nI j)), (3, .int (nI (if mV M i 3 > mV M j 3 then mV M i 3 else mV M j 3)))] dX7_commonOf_30 (by decide) rfl rfl ?_
    refine g_aload_n (pc := 31) 0 rfl rfl dX7_commonOf_31 ?_
    refine g_iload_n (pc := 32) 1 rfl rfl dX7_commonOf_32 ?_
    refine g_iconst (pc := 33) (nI 4) (by decide) dX7_commonOf_33 ?_
    refine g_callV (pc := 34) (mc := mX7_of) (rest := []) lX7_107 iX7_of (kX7_of l E M hR i 4 (by omega) (by omega)) ⟨Nat.le_of_ble_eq_true rfl, Nat.le_of_ble_eq_true rfl⟩ hR.s0 (by decide) (by decide) rfl rfl rfl rfl (Nat.le_of_ble_eq_true rfl) ⟨Nat.zero_le _, Nat.zero_le _⟩ dX7_commonOf_34 (g_rI ?_)
    refine g_aload_n (pc := 37) 0 rfl rfl dX7_commonOf_37 ?_
    refine g_iload_n (pc := 38) 2 rfl rfl dX7_commonOf_38 ?_
    refine g_iconst (pc := 39) (nI 4) (by decide) dX7_commonOf_39 ?_
    refine g_callV (pc := 40) (mc := mX7_of) (rest := [.int (nI (mV M i 4))]) lX7_107 iX7_of (kX7_of l E M hR j 4 (by omega) (by omega)) ⟨Nat.le_of_ble_eq_true rfl, Nat.le_of_ble_eq_true rfl⟩ hR.s0 (by decide) (by decide) rfl rfl rfl rfl (Nat.le_of_ble_eq_true rfl) ⟨Nat.zero_le _, Nat.zero_le _⟩ dX7_commonOf_40 (g_rI ?_)
    refine g_icmpN_ge (pc := 43) 55 dX7_commonOf_43 (by decide) (by omega) (by omega) (fun h43 => ?_) (fun h43 => ?_)
    · refine g_aload_n (pc := 55) 0 rfl rfl dX7_commonOf_55 ?_
      refine g_iload_n (pc := 56) 2 rfl rfl dX7_commonOf_56 ?_
      refine g_iconst (pc := 57) (nI 4) (by decide) dX7_commonOf_57 ?_
      refine g_callV (pc := 58) (mc := mX7_of) (rest := []) lX7_107 iX7_of (kX7_of l E M hR j 4 (by omega) (by omega)) ⟨Nat.le_of_ble_eq_true rfl, Nat.le_of_ble_eq_true rfl⟩ hR.s0 (by decide) (by decide) rfl rfl rfl rfl (Nat.le_of_ble_eq_true rfl) ⟨Nat.zero_le _, Nat.zero_le _⟩ dX7_commonOf_58 (g_rI ?_)
      refine g_topi (pc := 61) (x' := nI (if mV M i 4 < mV M j 4 then mV M i 4 else mV M j 4)) (by congr 1; split <;> omega) ?_
      exact jn61
    · refine g_aload_n (pc := 46) 0 rfl rfl dX7_commonOf_46 ?_
      refine g_iload_n (pc := 47) 1 rfl rfl dX7_commonOf_47 ?_
      refine g_iconst (pc := 48) (nI 4) (by decide) dX7_commonOf_48 ?_
      refine g_callV (pc := 49) (mc := mX7_of) (rest := []) lX7_107 iX7_of (kX7_of l E M hR i 4 (by omega) (by omega)) ⟨Nat.le_of_ble_eq_true rfl, Nat.le_of_ble_eq_true rfl⟩ hR.s0 (by decide) (by decide) rfl rfl rfl rfl (Nat.le_of_ble_eq_true rfl) ⟨Nat.zero_le _, Nat.zero_le _⟩ dX7_commonOf_49 (g_rI ?_)
      refine g_goto (pc := 52) 61 dX7_commonOf_52 (by decide) ?_
      refine g_topi (pc := 61) (x' := nI (if mV M i 4 < mV M j 4 then mV M i 4 else mV M j 4)) (by congr 1; split <;> omega) ?_
      exact jn61
  refine gMet_of (mm := mX7_commonOf) (h := 1) (M := M) [(0, .ref (gAd E 60)), (1, .int (nI i)), (2, .int (nI j))] (by decide) (Nat.le_of_ble_eq_true rfl) rfl ?_
  refine g_aload_n (pc := 0) 0 rfl rfl dX7_commonOf_0 ?_
  refine g_iload_n (pc := 1) 1 rfl rfl dX7_commonOf_1 ?_
  refine g_iconst (pc := 2) (nI 3) (by decide) dX7_commonOf_2 ?_
  refine g_callV (pc := 3) (mc := mX7_of) (rest := []) lX7_107 iX7_of (kX7_of l E M hR i 3 (by omega) (by omega)) ⟨Nat.le_of_ble_eq_true rfl, Nat.le_of_ble_eq_true rfl⟩ hR.s0 (by decide) (by decide) rfl rfl rfl rfl (Nat.le_of_ble_eq_true rfl) ⟨Nat.zero_le _, Nat.zero_le _⟩ dX7_commonOf_3 (g_rI ?_)
  refine g_aload_n (pc := 6) 0 rfl rfl dX7_commonOf_6 ?_
  refine g_iload_n (pc := 7) 2 rfl rfl dX7_commonOf_7 ?_
  refine g_iconst (pc := 8) (nI 3) (by decide) dX7_commonOf_8 ?_
  refine g_callV (pc := 9) (mc := mX7_of) (rest := [.int (nI (mV M i 3))]) lX7_107 iX7_of (kX7_of l E M hR j 3 (by omega) (by omega)) ⟨Nat.le_of_ble_eq_true rfl, Nat.le_of_ble_eq_true rfl⟩ hR.s0 (by decide) (by decide) rfl rfl rfl rfl (Nat.le_of_ble_eq_true rfl) ⟨Nat.zero_le _, Nat.zero_le _⟩ dX7_commonOf_9 (g_rI ?_)
  refine g_icmpN_le (pc := 12) 24 dX7_commonOf_12 (by decide) (by omega) (by omega) (fun h12 => ?_) (fun h12 => ?_)
  · refine g_aload_n (pc := 24) 0 rfl rfl dX7_commonOf_24 ?_
    refine g_iload_n (pc := 25) 2 rfl rfl dX7_commonOf_25 ?_
    refine g_iconst (pc := 26) (nI 3) (by decide) dX7_commonOf_26 ?_
    refine g_callV (pc := 27) (mc := mX7_of) (rest := []) lX7_107 iX7_of (kX7_of l E M hR j 3 (by omega) (by omega)) ⟨Nat.le_of_ble_eq_true rfl, Nat.le_of_ble_eq_true rfl⟩ hR.s0 (by decide) (by decide) rfl rfl rfl rfl (Nat.le_of_ble_eq_true rfl) ⟨Nat.zero_le _, Nat.zero_le _⟩ dX7_commonOf_27 (g_rI ?_)
    refine g_topi (pc := 30) (x' := nI (if mV M i 3 > mV M j 3 then mV M i 3 else mV M j 3)) (by congr 1; split <;> omega) ?_
    exact jn30
  · refine g_aload_n (pc := 15) 0 rfl rfl dX7_commonOf_15 ?_
    refine g_iload_n (pc := 16) 1 rfl rfl dX7_commonOf_16 ?_
    refine g_iconst (pc := 17) (nI 3) (by decide) dX7_commonOf_17 ?_
    refine g_callV (pc := 18) (mc := mX7_of) (rest := []) lX7_107 iX7_of (kX7_of l E M hR i 3 (by omega) (by omega)) ⟨Nat.le_of_ble_eq_true rfl, Nat.le_of_ble_eq_true rfl⟩ hR.s0 (by decide) (by decide) rfl rfl rfl rfl (Nat.le_of_ble_eq_true rfl) ⟨Nat.zero_le _, Nat.zero_le _⟩ dX7_commonOf_18 (g_rI ?_)
    refine g_goto (pc := 21) 30 dX7_commonOf_21 (by decide) ?_
    refine g_topi (pc := 30) (x' := nI (if mV M i 3 > mV M j 3 then mV M i 3 else mV M j 3)) (by congr 1; split <;> omega) ?_
    exact jn30
theorem sCom_le {u v : Nat → Nat} (hu : uOk u) (hv : uOk v) : sCom u v < 2147483648 := by
  have h1 := sOnes_le (u 0 &&& v 0)
  have h2 := sOnes_le (u 1 &&& v 1)
  have h3 := sOnes_le (u 2 &&& v 2)
  have h4 : sWk u v ≤ 52 := by
    obtain ⟨-, -, -, -, a4, -⟩ := hu
    obtain ⟨-, -, -, -, b4, -⟩ := hv
    unfold sWk
    split <;> split <;> omega
  have : sCom u v ≤ 10 * 10 * 10 * 52 := Nat.mul_le_mul (Nat.mul_le_mul (Nat.mul_le_mul h1 h2) h3) h4
  omega
set_option maxRecDepth 100000 in
set_option maxHeartbeats 4000000 in
theorem kX7_doClash (l : Launch) (E : gEnv) (M : gMem) (hR : mR E M) (hO : mO M) (i j : Nat) (hi : i < M.1 60 11) (hj : j < M.1 60 11) : gMetI l E mX7_doClash 2 [.ref (gAd E 60), .int (nI i), .int (nI j)] M (gb (i != j && sCl (mV M i) (mV M j))) := by
  have hO' := hO
  obtain ⟨hn, hk, hft, hto, hU, hH⟩ := hO
  have hO := hO'
  have ui := hU i hi
  have uj := hU j hj
  obtain ⟨i0, i1, i2, i3, i4, i5, i6, i7⟩ := ui
  obtain ⟨j0, j1, j2, j3, j4, j5, j6, j7⟩ := uj
  refine gMet_of (mm := mX7_doClash) (h := 2) (M := M) [(0, .ref (gAd E 60)), (1, .int (nI i)), (2, .int (nI j))] (by decide) (Nat.le_of_ble_eq_true rfl) rfl ?_
  refine g_iload_n (pc := 0) 1 rfl rfl dX7_doClash_0 ?_
  refine g_iload_n (pc := 1) 2 rfl rfl dX7_doClash_1 ?_
  refine g_icmpN_eq (pc := 2) 38 dX7_doClash_2 (by decide) (by omega) (by omega) (fun h2 => ?_) (fun h2 => ?_)
  · refine g_iconst (pc := 38) (nI 0) (by decide) dX7_doClash_38 ?_
    refine g_topi (pc := 39) (x' := gb false) (by decide) ?_
    exact g_zret (pc := 39) rfl dX7_doClash_39 ⟨congrArg (fun z => some (Value.int (gb z))) (by simp [h2]), rfl⟩
  · refine g_aload_n (pc := 5) 0 rfl rfl dX7_doClash_5 ?_
    refine g_iload_n (pc := 6) 1 rfl rfl dX7_doClash_6 ?_
    refine g_iconst (pc := 7) (nI 5) (by decide) dX7_doClash_7 ?_
    refine g_callV (pc := 8) (mc := mX7_of) (rest := []) lX7_107 iX7_of (kX7_of l E M hR i 5 (by omega) (by omega)) ⟨Nat.le_of_ble_eq_true rfl, Nat.le_of_ble_eq_true rfl⟩ hR.s0 (by decide) (by decide) rfl rfl rfl rfl (Nat.le_of_ble_eq_true rfl) ⟨Nat.zero_le _, Nat.zero_le _⟩ dX7_doClash_8 (g_rI ?_)
    refine g_iconst (pc := 11) (nI 1) (by decide) dX7_doClash_11 ?_
    refine g_icmpN_eq (pc := 12) 25 dX7_doClash_12 (by decide) (by omega) (by omega) (fun h12 => ?_) (fun h12 => ?_)
    · refine g_aload_n (pc := 25) 0 rfl rfl dX7_doClash_25 ?_
      refine g_iload_n (pc := 26) 1 rfl rfl dX7_doClash_26 ?_
      refine g_iload_n (pc := 27) 2 rfl rfl dX7_doClash_27 ?_
      refine g_callV (pc := 28) (mc := mX7_commonOf) (rest := []) lX7_115 iX7_commonOf (kX7_commonOf l E M hR hO i j (by omega) (by omega)) ⟨Nat.le_of_ble_eq_true rfl, Nat.le_of_ble_eq_true rfl⟩ hR.s0 (by decide) (by decide) rfl rfl rfl rfl (Nat.le_of_ble_eq_true rfl) ⟨Nat.zero_le _, Nat.zero_le _⟩ dX7_doClash_28 (g_rI ?_)
      refine g_ifN_le (pc := 31) 38 dX7_doClash_31 (by decide) (sCom_le (hU i hi) (hU j hj)) (fun h31 => ?_) (fun h31 => ?_)
      · refine g_iconst (pc := 38) (nI 0) (by decide) dX7_doClash_38 ?_
        refine g_topi (pc := 39) (x' := gb false) (by decide) ?_
        exact g_zret (pc := 39) rfl dX7_doClash_39 ⟨congrArg (fun z => some (Value.int (gb z))) (by simp only [sCl]; rw [show (decide (0 < sCom (mV M i) (mV M j))) = false from decide_eq_false (by omega), show (i != j) = true from bne_iff_ne.mpr h2, show ((mV M i 5 == 1) || (mV M j 5 == 1)) = true from by (rw [beq_iff_eq.mpr h12]; rfl)]; rfl), rfl⟩
      · refine g_iconst (pc := 34) (nI 1) (by decide) dX7_doClash_34 ?_
        refine g_goto (pc := 35) 39 dX7_doClash_35 (by decide) ?_
        refine g_topi (pc := 39) (x' := gb true) (by decide) ?_
        exact g_zret (pc := 39) rfl dX7_doClash_39 ⟨congrArg (fun z => some (Value.int (gb z))) (by simp only [sCl]; rw [show (decide (0 < sCom (mV M i) (mV M j))) = true from decide_eq_true h31, show (i != j) = true from bne_iff_ne.mpr h2, show ((mV M i 5 == 1) || (mV M j 5 == 1)) = true from by (rw [beq_iff_eq.mpr h12]; rfl)]; rfl), rfl⟩
    · refine g_aload_n (pc := 15) 0 rfl rfl dX7_doClash_15 ?_
      refine g_iload_n (pc := 16) 2 rfl rfl dX7_doClash_16 ?_
      refine g_iconst (pc := 17) (nI 5) (by decide) dX7_doClash_17 ?_
      refine g_callV (pc := 18) (mc := mX7_of) (rest := []) lX7_107 iX7_of (kX7_of l E M hR j 5 (by omega) (by omega)) ⟨Nat.le_of_ble_eq_true rfl, Nat.le_of_ble_eq_true rfl⟩ hR.s0 (by decide) (by decide) rfl rfl rfl rfl (Nat.le_of_ble_eq_true rfl) ⟨Nat.zero_le _, Nat.zero_le _⟩ dX7_doClash_18 (g_rI ?_)
      refine g_iconst (pc := 21) (nI 1) (by decide) dX7_doClash_21 ?_
      refine g_icmpN_ne (pc := 22) 38 dX7_doClash_22 (by decide) (by omega) (by omega) (fun h22 => ?_) (fun h22 => ?_)
      · refine g_iconst (pc := 38) (nI 0) (by decide) dX7_doClash_38 ?_
        refine g_topi (pc := 39) (x' := gb false) (by decide) ?_
        exact g_zret (pc := 39) rfl dX7_doClash_39 ⟨congrArg (fun z => some (Value.int (gb z))) (by simp only [sCl]; rw [show (mV M i 5 == 1) = false from beq_eq_false_iff_ne.mpr h12, show (mV M j 5 == 1) = false from beq_eq_false_iff_ne.mpr h22]; simp), rfl⟩
      · refine g_aload_n (pc := 25) 0 rfl rfl dX7_doClash_25 ?_
        refine g_iload_n (pc := 26) 1 rfl rfl dX7_doClash_26 ?_
        refine g_iload_n (pc := 27) 2 rfl rfl dX7_doClash_27 ?_
        refine g_callV (pc := 28) (mc := mX7_commonOf) (rest := []) lX7_115 iX7_commonOf (kX7_commonOf l E M hR hO i j (by omega) (by omega)) ⟨Nat.le_of_ble_eq_true rfl, Nat.le_of_ble_eq_true rfl⟩ hR.s0 (by decide) (by decide) rfl rfl rfl rfl (Nat.le_of_ble_eq_true rfl) ⟨Nat.zero_le _, Nat.zero_le _⟩ dX7_doClash_28 (g_rI ?_)
        refine g_ifN_le (pc := 31) 38 dX7_doClash_31 (by decide) (sCom_le (hU i hi) (hU j hj)) (fun h31 => ?_) (fun h31 => ?_)
        · refine g_iconst (pc := 38) (nI 0) (by decide) dX7_doClash_38 ?_
          refine g_topi (pc := 39) (x' := gb false) (by decide) ?_
          exact g_zret (pc := 39) rfl dX7_doClash_39 ⟨congrArg (fun z => some (Value.int (gb z))) (by simp only [sCl]; rw [show (decide (0 < sCom (mV M i) (mV M j))) = false from decide_eq_false (by omega), show (i != j) = true from bne_iff_ne.mpr h2, show ((mV M i 5 == 1) || (mV M j 5 == 1)) = true from by (rw [beq_iff_eq.mpr h22]; simp)]; rfl), rfl⟩
        · refine g_iconst (pc := 34) (nI 1) (by decide) dX7_doClash_34 ?_
          refine g_goto (pc := 35) 39 dX7_doClash_35 (by decide) ?_
          refine g_topi (pc := 39) (x' := gb true) (by decide) ?_
          exact g_zret (pc := 39) rfl dX7_doClash_39 ⟨congrArg (fun z => some (Value.int (gb z))) (by simp only [sCl]; rw [show (decide (0 < sCom (mV M i) (mV M j))) = true from decide_eq_true h31, show (i != j) = true from bne_iff_ne.mpr h2, show ((mV M i 5 == 1) || (mV M j 5 == 1)) = true from by (rw [beq_iff_eq.mpr h22]; simp)]; rfl), rfl⟩
set_option maxRecDepth 100000 in
set_option maxHeartbeats 4000000 in
theorem kX7_isOfTerm (l : Launch) (E : gEnv) (M : gMem) (hR : mR E M) (hO : mO M) (i : Nat) (hi : i < M.1 60 11) : gMetI l E mX7_isOfTerm 1 [.ref (gAd E 60), .int (nI i)] M (gb (sIn (mV M) (M.1 60 13) (M.1 60 14) i)) := by
  have hO' := hO
  obtain ⟨hn, hk, hft, hto, hU, hH⟩ := hO
  have hO := hO'
  obtain ⟨i0, i1, i2, i3, i4, i5, i6, i7⟩ := hU i hi
  refine gMet_of (mm := mX7_isOfTerm) (h := 1) (M := M) [(0, .ref (gAd E 60)), (1, .int (nI i))] (by decide) (Nat.le_of_ble_eq_true rfl) rfl ?_
  refine g_aload_n (pc := 0) 0 rfl rfl dX7_isOfTerm_0 ?_
  refine g_iload_n (pc := 1) 1 rfl rfl dX7_isOfTerm_1 ?_
  refine g_iconst (pc := 2) (nI 3) (by decide) dX7_isOfTerm_2 ?_
  refine g_callV (pc := 3) (mc := mX7_of) (rest := []) lX7_107 iX7_of (kX7_of l E M hR i 3 (by omega) (by omega)) ⟨Nat.le_of_ble_eq_true rfl, Nat.le_of_ble_eq_true rfl⟩ hR.s0 (by decide) (by decide) rfl rfl rfl rfl (Nat.le_of_ble_eq_true rfl) ⟨Nat.zero_le _, Nat.zero_le _⟩ dX7_isOfTerm_3 (g_rI ?_)
  refine g_aload_n (pc := 6) 0 rfl rfl dX7_isOfTerm_6 ?_
  refine fX7_67 (pc := 7) rfl hR.s0 dX7_isOfTerm_7 ?_
  refine g_icmpN_lt (pc := 10) 30 dX7_isOfTerm_10 (by decide) (by omega) (by omega) (fun h10 => ?_) (fun h10 => ?_)
  · refine g_iconst (pc := 30) (nI 0) (by decide) dX7_isOfTerm_30 ?_
    refine g_topi (pc := 31) (x' := gb false) (by decide) ?_
    exact g_zret (pc := 31) rfl dX7_isOfTerm_31 ⟨congrArg (fun z => some (Value.int (gb z))) (bf_of (by intro hh; have q := sIn_iff.mp hh; omega)), rfl⟩
  · refine g_aload_n (pc := 13) 0 rfl rfl dX7_isOfTerm_13 ?_
    refine g_iload_n (pc := 14) 1 rfl rfl dX7_isOfTerm_14 ?_
    refine g_iconst (pc := 15) (nI 4) (by decide) dX7_isOfTerm_15 ?_
    refine g_callV (pc := 16) (mc := mX7_of) (rest := []) lX7_107 iX7_of (kX7_of l E M hR i 4 (by omega) (by omega)) ⟨Nat.le_of_ble_eq_true rfl, Nat.le_of_ble_eq_true rfl⟩ hR.s0 (by decide) (by decide) rfl rfl rfl rfl (Nat.le_of_ble_eq_true rfl) ⟨Nat.zero_le _, Nat.zero_le _⟩ dX7_isOfTerm_16 (g_rI ?_)
    refine g_aload_n (pc := 19) 0 rfl rfl dX7_isOfTerm_19 ?_
    refine fX7_70 (pc := 20) rfl hR.s0 dX7_isOfTerm_20 ?_
    refine g_icmpN_gt (pc := 23) 30 dX7_isOfTerm_23 (by decide) (by omega) (by omega) (fun h23 => ?_) (fun h23 => ?_)
    · refine g_iconst (pc := 30) (nI 0) (by decide) dX7_isOfTerm_30 ?_
      refine g_topi (pc := 31) (x' := gb false) (by decide) ?_
      exact g_zret (pc := 31) rfl dX7_isOfTerm_31 ⟨congrArg (fun z => some (Value.int (gb z))) (bf_of (by intro hh; have q := sIn_iff.mp hh; omega)), rfl⟩
    · refine g_iconst (pc := 26) (nI 1) (by decide) dX7_isOfTerm_26 ?_
      refine g_goto (pc := 27) 31 dX7_isOfTerm_27 (by decide) ?_
      refine g_topi (pc := 31) (x' := gb true) (by decide) ?_
      exact g_zret (pc := 31) rfl dX7_isOfTerm_31 ⟨congrArg (fun z => some (Value.int (gb z))) (bt_of (by exact sIn_iff.mpr ⟨by omega, by omega⟩)), rfl⟩
set_option maxRecDepth 100000 in
set_option maxHeartbeats 4000000 in
theorem kX7_pricesOf (l : Launch) (E : gEnv) (M : gMem) (hR : mR E M) (hO : mO M) (set : Nat) (hs : set < 2147483648) : gMetI l E mX7_pricesOf 1 [.ref (gAd E 60), .int (nI set)] M (nI (sPrice (mV M) (M.1 60 11) set)) := by
  have hO' := hO
  obtain ⟨hn, hk, hft, hto, hU, hH⟩ := hO
  have hO := hO'
  refine gMet_of (mm := mX7_pricesOf) (h := 1) (M := M) [(0, .ref (gAd E 60)), (1, .int (nI set))] (by decide) (Nat.le_of_ble_eq_true rfl) rfl ?_
  refine g_iconst (pc := 0) (nI 0) (by decide) dX7_pricesOf_0 ?_
  refine g_istore_n (pc := 1) rfl [(0, .ref (gAd E 60)), (1, .int (nI set)), (2, .int (nI 0))] dX7_pricesOf_1 (by decide) rfl rfl ?_
  refine g_iconst (pc := 2) (nI 0) (by decide) dX7_pricesOf_2 ?_
  refine g_istore_n (pc := 3) rfl [(0, .ref (gAd E 60)), (1, .int (nI set)), (2, .int (nI 0)), (3, .int (nI 0))] dX7_pricesOf_3 (by decide) rfl rfl ?_
  have lp4 : ∀ i, i ≤ M.1 60 11 → gG l (gV0 1 E (fun v u => v = some (.int (nI (sPrice (mV M) (M.1 60 11) set))) ∧ u = M)) mX7_pricesOf E (0, 0) M 4 [(0, .ref (gAd E 60)), (1, .int (nI set)), (2, .int (nI (sPrice (mV M) i set))), (3, .int (nI i))] [] := by
    refine gloop (fun i hii ihi => ?_)
    refine g_iload_n (pc := 4) 3 rfl rfl dX7_pricesOf_4 ?_
    refine g_aload_n (pc := 5) 0 rfl rfl dX7_pricesOf_5 ?_
    refine fX7_61 (pc := 6) rfl hR.s0 dX7_pricesOf_6 ?_
    refine g_icmpN_ge (pc := 9) 41 dX7_pricesOf_9 (by decide) (by omega) (by omega) (fun h9 => ?_) (fun h9 => ?_)
    · refine g_iload_n (pc := 41) 2 rfl rfl dX7_pricesOf_41 ?_
      exact g_iret (pc := 42) rfl dX7_pricesOf_42 ⟨congrArg (fun z => some (Value.int z)) (by rw [show i = M.1 60 11 by omega]), rfl⟩
    · refine g_iload_n (pc := 12) 2 rfl rfl dX7_pricesOf_12 ?_
      refine g_iload_n (pc := 13) 1 rfl rfl dX7_pricesOf_13 ?_
      refine g_iload_n (pc := 14) 3 rfl rfl dX7_pricesOf_14 ?_
      refine g_ishrN (pc := 15) (by omega) (by omega) dX7_pricesOf_15 ?_
      refine g_iconst (pc := 16) (nI 1) (by decide) dX7_pricesOf_16 ?_
      refine g_iand1 (pc := 17) dX7_pricesOf_17 ?_
      refine g_iconst (pc := 18) (nI 1) (by decide) dX7_pricesOf_18 ?_
      refine g_icmpN_ne (pc := 19) 32 dX7_pricesOf_19 (by decide) (by omega) (by omega) (fun h19 => ?_) (fun h19 => ?_)
      · refine g_iconst (pc := 32) (nI 0) (by decide) dX7_pricesOf_32 ?_
        refine g_iaddN (pc := 33) dX7_pricesOf_33 ?_
        refine g_topi (pc := 34) (x' := nI (sPrice (mV M) (i + 1) set)) (by rw [show sPrice (mV M) (i + 1) set = sPrice (mV M) i set + (if set.testBit i then mV M i 6 else 0) from rfl, show set.testBit i = false from by rw [nx_tb]; exact decide_eq_false h19]; rfl) ?_
        refine g_istore_n (pc := 34) rfl [(0, .ref (gAd E 60)), (1, .int (nI set)), (2, .int (nI (sPrice (mV M) (i + 1) set))), (3, .int (nI i))] dX7_pricesOf_34 (by decide) rfl rfl ?_
        refine g_iincN (pc := 35) 1 3 [(0, .ref (gAd E 60)), (1, .int (nI set)), (2, .int (nI (sPrice (mV M) (i + 1) set))), (3, .int (nI (i + 1)))] rfl dX7_pricesOf_35 (by decide) rfl rfl ?_
        refine g_goto (pc := 38) 4 dX7_pricesOf_38 (by decide) ?_
        exact ihi (by omega)
      · refine g_aload_n (pc := 22) 0 rfl rfl dX7_pricesOf_22 ?_
        refine g_iload_n (pc := 23) 3 rfl rfl dX7_pricesOf_23 ?_
        refine g_bipush (pc := 24) (nI 6) (by decide) dX7_pricesOf_24 ?_
        refine g_callV (pc := 26) (mc := mX7_of) (rest := [.int (nI (sPrice (mV M) i set))]) lX7_107 iX7_of (kX7_of l E M hR i 6 (by omega) (by omega)) ⟨Nat.le_of_ble_eq_true rfl, Nat.le_of_ble_eq_true rfl⟩ hR.s0 (by decide) (by decide) rfl rfl rfl rfl (Nat.le_of_ble_eq_true rfl) ⟨Nat.zero_le _, Nat.zero_le _⟩ dX7_pricesOf_26 (g_rI ?_)
        refine g_goto (pc := 29) 33 dX7_pricesOf_29 (by decide) ?_
        refine g_iaddN (pc := 33) dX7_pricesOf_33 ?_
        refine g_topi (pc := 34) (x' := nI (sPrice (mV M) (i + 1) set)) (by rw [show sPrice (mV M) (i + 1) set = sPrice (mV M) i set + (if set.testBit i then mV M i 6 else 0) from rfl, show set.testBit i = true from by rw [nx_tb]; exact decide_eq_true h19]; rfl) ?_
        refine g_istore_n (pc := 34) rfl [(0, .ref (gAd E 60)), (1, .int (nI set)), (2, .int (nI (sPrice (mV M) (i + 1) set))), (3, .int (nI i))] dX7_pricesOf_34 (by decide) rfl rfl ?_
        refine g_iincN (pc := 35) 1 3 [(0, .ref (gAd E 60)), (1, .int (nI set)), (2, .int (nI (sPrice (mV M) (i + 1) set))), (3, .int (nI (i + 1)))] rfl dX7_pricesOf_35 (by decide) rfl rfl ?_
        refine g_goto (pc := 38) 4 dX7_pricesOf_38 (by decide) ?_
        exact ihi (by omega)
  refine g_lv (pc := 4) (lv' := [(0, .ref (gAd E 60)), (1, .int (nI set)), (2, .int (nI (sPrice (mV M) 0 set))), (3, .int (nI 0))]) rfl ?_
  exact lp4 0 (by omega)
