set_option maxRecDepth 100000 in
set_option maxHeartbeats 4000000 in
theorem kX6_has (l : Launch) (E : gEnv) (M : gMem) (s i : Nat) (hs : s < 2147483648) (hi : i < 32) : gMetI l E mX6_has 0 [.int (nI s), .int (nI i)] M (gb (s.testBit i)) := by
  refine gMet_of (mm := mX6_has) (h := 0) (M := M) [(0, .int (nI s)), (1, .int (nI i))] (by decide) (Nat.le_of_ble_eq_true rfl) rfl ?_
  refine g_iload_n (pc := 0) 0 rfl rfl dX6_has_0 ?_
  refine g_iload_n (pc := 1) 1 rfl rfl dX6_has_1 ?_
  refine g_ishrN (pc := 2) (by omega) (by omega) dX6_has_2 ?_
  refine g_iconst (pc := 3) (nI 1) (by decide) dX6_has_3 ?_
  refine g_iand1 (pc := 4) dX6_has_4 ?_
  refine g_ifN_eq (pc := 5) 12 dX6_has_5 (by decide) (by omega) (fun h5 => ?_) (fun h5 => ?_)
  · refine g_iconst (pc := 12) (nI 0) (by decide) dX6_has_12 ?_
    refine g_topi (pc := 13) (x' := gb false) (by decide) ?_
    exact g_zret (pc := 13) rfl dX6_has_13 ⟨congrArg (fun z => some (Value.int (gb z))) (by rw [nx_tb]; simp; omega), rfl⟩
  · refine g_iconst (pc := 8) (nI 1) (by decide) dX6_has_8 ?_
    refine g_goto (pc := 9) 13 dX6_has_9 (by decide) ?_
    refine g_topi (pc := 13) (x' := gb true) (by decide) ?_
    exact g_zret (pc := 13) rfl dX6_has_13 ⟨congrArg (fun z => some (Value.int (gb z))) (by rw [nx_tb]; simp; omega), rfl⟩
set_option maxRecDepth 100000 in
set_option maxHeartbeats 4000000 in
theorem kX4_firstNow (l : Launch) (E : gEnv) (M : gMem) (a : Nat) (ha : gSh E a = 5) : gMetI l E mX4_firstNow 0 [.ref (gAd E a)] M (nI (M.1 a 3 + M.1 a 7)) := by
  refine gMet_of (mm := mX4_firstNow) (h := 0) (M := M) [(0, .ref (gAd E a))] (by decide) (Nat.le_of_ble_eq_true rfl) rfl ?_
  refine g_aload_n (pc := 0) 0 rfl rfl dX4_firstNow_0 ?_
  refine fX4_9 (pc := 1) rfl ha dX4_firstNow_1 ?_
  refine g_aload_n (pc := 4) 0 rfl rfl dX4_firstNow_4 ?_
  refine fX4_15 (pc := 5) rfl ha dX4_firstNow_5 ?_
  refine g_iaddN (pc := 8) dX4_firstNow_8 ?_
  exact g_iret (pc := 9) rfl dX4_firstNow_9 ⟨rfl, rfl⟩
set_option maxRecDepth 100000 in
set_option maxHeartbeats 4000000 in
theorem kX4_lastNow (l : Launch) (E : gEnv) (M : gMem) (a : Nat) (ha : gSh E a = 5) : gMetI l E mX4_lastNow 0 [.ref (gAd E a)] M (nI (M.1 a 4 + M.1 a 7)) := by
  refine gMet_of (mm := mX4_lastNow) (h := 0) (M := M) [(0, .ref (gAd E a))] (by decide) (Nat.le_of_ble_eq_true rfl) rfl ?_
  refine g_aload_n (pc := 0) 0 rfl rfl dX4_lastNow_0 ?_
  refine fX4_18 (pc := 1) rfl ha dX4_lastNow_1 ?_
  refine g_aload_n (pc := 4) 0 rfl rfl dX4_lastNow_4 ?_
  refine fX4_15 (pc := 5) rfl ha dX4_lastNow_5 ?_
  refine g_iaddN (pc := 8) dX4_lastNow_8 ?_
  exact g_iret (pc := 9) rfl dX4_lastNow_9 ⟨rfl, rfl⟩
set_option maxRecDepth 100000 in
set_option maxHeartbeats 4000000 in
theorem kX4_farthestMove (l : Launch) (E : gEnv) (M : gMem) (a : Nat) (ha : gSh E a = 5) (hl : M.1 a 4 ≤ 51) : gMetI l E mX4_farthestMove 0 [.ref (gAd E a)] M (nI (51 - M.1 a 4)) := by
  refine gMet_of (mm := mX4_farthestMove) (h := 0) (M := M) [(0, .ref (gAd E a))] (by decide) (Nat.le_of_ble_eq_true rfl) rfl ?_
  refine g_bipush (pc := 0) (nI 51) (by decide) dX4_farthestMove_0 ?_
  refine g_aload_n (pc := 2) 0 rfl rfl dX4_farthestMove_2 ?_
  refine fX4_18 (pc := 3) rfl ha dX4_farthestMove_3 ?_
  refine g_isubN (pc := 6) (by omega) dX4_farthestMove_6 ?_
  exact g_iret (pc := 7) rfl dX4_farthestMove_7 ⟨rfl, rfl⟩
set_option maxRecDepth 100000 in
set_option maxHeartbeats 4000000 in
theorem kX0_priceOf (l : Launch) (E : gEnv) (M : gMem) (b set : Nat) (hB : cBr E M b) (hs : set < 2147483648) (hn : M.1 b 1 ≤ 10) : gMetI l E mX0_priceOf 1 [.ref (gAd E b), .int (nI set)] M (nI (sPrice (cV M b) (M.1 b 1) set)) := by
  refine gMet_of (mm := mX0_priceOf) (h := 1) (M := M) [(0, .ref (gAd E b)), (1, .int (nI set))] (by decide) (Nat.le_of_ble_eq_true rfl) rfl ?_
  refine g_iconst (pc := 0) (nI 0) (by decide) dX0_priceOf_0 ?_
  refine g_istore_n (pc := 1) rfl [(0, .ref (gAd E b)), (1, .int (nI set)), (2, .int (nI 0))] dX0_priceOf_1 (by decide) rfl rfl ?_
  refine g_iconst (pc := 2) (nI 0) (by decide) dX0_priceOf_2 ?_
  refine g_istore_n (pc := 3) rfl [(0, .ref (gAd E b)), (1, .int (nI set)), (2, .int (nI 0)), (3, .int (nI 0))] dX0_priceOf_3 (by decide) rfl rfl ?_
  have lp4 : ∀ i, i ≤ M.1 b 1 → gG l (gV0 1 E (fun v u => v = some (.int (nI (sPrice (cV M b) (M.1 b 1) set))) ∧ u = M)) mX0_priceOf E (0, 0) M 4 [(0, .ref (gAd E b)), (1, .int (nI set)), (2, .int (nI (sPrice (cV M b) i set))), (3, .int (nI i))] [] := by
    refine gloop (fun i hii ihi => ?_)
    refine g_iload_n (pc := 4) 3 rfl rfl dX0_priceOf_4 ?_
    refine g_aload_n (pc := 5) 0 rfl rfl dX0_priceOf_5 ?_
    refine fX0_25 (pc := 6) rfl hB.1.1 dX0_priceOf_6 ?_
    refine g_icmpN_ge (pc := 9) 38 dX0_priceOf_9 (by decide) (by omega) (by omega) (fun h9 => ?_) (fun h9 => ?_)
    · refine g_iload_n (pc := 38) 2 rfl rfl dX0_priceOf_38 ?_
      exact g_iret (pc := 39) rfl dX0_priceOf_39 ⟨congrArg (fun z => some (Value.int z)) (by rw [show i = M.1 b 1 by omega]), rfl⟩
    · refine g_iload_n (pc := 12) 1 rfl rfl dX0_priceOf_12 ?_
      refine g_iload_n (pc := 13) 3 rfl rfl dX0_priceOf_13 ?_
      refine g_callSN (pc := 14) (mc := mX6_has) (rest := []) lX0_93 iX6_has (kX6_has l E M set i (by omega) (by omega)) ⟨Nat.le_of_ble_eq_true rfl, Nat.le_of_ble_eq_true rfl⟩ rfl rfl (Nat.le_of_ble_eq_true rfl) ⟨Nat.zero_le _, Nat.zero_le _⟩ dX0_priceOf_14 (g_rI ?_)
      refine g_ifB_eq (pc := 17) 32 dX0_priceOf_17 (by decide) (fun h17 => ?_) (fun h17 => ?_)
      · refine g_iincN (pc := 32) 1 3 [(0, .ref (gAd E b)), (1, .int (nI set)), (2, .int (nI (sPrice (cV M b) i set))), (3, .int (nI (i + 1)))] rfl dX0_priceOf_32 (by decide) rfl rfl ?_
        refine g_goto (pc := 35) 4 dX0_priceOf_35 (by decide) ?_
        refine g_lv (pc := 4) (lv' := [(0, .ref (gAd E b)), (1, .int (nI set)), (2, .int (nI (sPrice (cV M b) (i + 1) set))), (3, .int (nI (i + 1)))]) (by simp only [sPrice, sSum, h17]; rfl) ?_
        exact ihi (by omega)
      · refine g_iload_n (pc := 20) 2 rfl rfl dX0_priceOf_20 ?_
        refine g_aload_n (pc := 21) 0 rfl rfl dX0_priceOf_21 ?_
        refine fX0_11 (pc := 22) (b + 1) rfl hB.1.1 hB.1.2.2.2.2.2.1 (by omega) dX0_priceOf_22 ?_
        refine g_iload_n (pc := 25) 3 rfl rfl dX0_priceOf_25 ?_
        refine g_aaload (pc := 26) (t0 := 2) (r := (b + 3 + i)) hB.1.2.1 (by decide) rfl (by rw [hB.1.2.2.1]; omega) (by rw [hB.1.2.2.1]; omega) (hB.2.1 i (by omega)).2 (by omega) dX0_priceOf_26 ?_
        refine fX0_65 (pc := 27) rfl (hB.2.1 i (by omega)).1 dX0_priceOf_27 ?_
        refine g_iaddN (pc := 30) dX0_priceOf_30 ?_
        refine g_topi (pc := 31) (x' := nI (sPrice (cV M b) (i + 1) set)) (by simp only [sPrice, sSum, h17, if_true]; rfl) ?_
        refine g_istore_n (pc := 31) rfl [(0, .ref (gAd E b)), (1, .int (nI set)), (2, .int (nI (sPrice (cV M b) (i + 1) set))), (3, .int (nI i))] dX0_priceOf_31 (by decide) rfl rfl ?_
        refine g_iincN (pc := 32) 1 3 [(0, .ref (gAd E b)), (1, .int (nI set)), (2, .int (nI (sPrice (cV M b) (i + 1) set))), (3, .int (nI (i + 1)))] rfl dX0_priceOf_32 (by decide) rfl rfl ?_
        refine g_goto (pc := 35) 4 dX0_priceOf_35 (by decide) ?_
        exact ihi (by omega)
  refine g_lv (pc := 4) (lv' := [(0, .ref (gAd E b)), (1, .int (nI set)), (2, .int (nI (sPrice (cV M b) 0 set))), (3, .int (nI 0))]) rfl ?_
  exact lp4 0 (by omega)
