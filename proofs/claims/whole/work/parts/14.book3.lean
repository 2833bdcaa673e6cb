set_option maxRecDepth 100000 in
set_option maxHeartbeats 4000000 in
theorem kX4_weeksNow (l : Launch) (E : gEnv) (M : gMem) (a : Nat) (ha : gSh E a = 5) (hu : uOk (oV M a)) : gMetL l E mX4_weeksNow 1 [.ref (gAd E a)] M (lN (sMask (oV M a 3) (oV M a 4))) := by
  obtain ⟨a0, a1, a2, a3, a4, a5, a6, a7⟩ := hu
  simp only [oV] at a3 a4
  refine gMet_of (mm := mX4_weeksNow) (h := 1) (M := M) [(0, .ref (gAd E a))] (by decide) (Nat.le_of_ble_eq_true rfl) rfl ?_
  refine g_aload_n (pc := 0) 0 rfl rfl dX4_weeksNow_0 ?_
  refine g_callV (pc := 1) (mc := mX4_firstNow) (rest := []) lX4_21 iX4_firstNow (kX4_firstNow l E M a ha) ⟨Nat.le_of_ble_eq_true rfl, Nat.le_of_ble_eq_true rfl⟩ ha (by decide) (by decide) rfl rfl rfl rfl (Nat.le_of_ble_eq_true rfl) ⟨Nat.zero_le _, Nat.zero_le _⟩ dX4_weeksNow_1 (g_rI ?_)
  refine g_aload_n (pc := 4) 0 rfl rfl dX4_weeksNow_4 ?_
  refine g_callV (pc := 5) (mc := mX4_lastNow) (rest := [.int (nI (M.1 a 3 + M.1 a 7))]) lX4_25 iX4_lastNow (kX4_lastNow l E M a ha) ⟨Nat.le_of_ble_eq_true rfl, Nat.le_of_ble_eq_true rfl⟩ ha (by decide) (by decide) rfl rfl rfl rfl (Nat.le_of_ble_eq_true rfl) ⟨Nat.zero_le _, Nat.zero_le _⟩ dX4_weeksNow_5 (g_rI ?_)
  refine g_callSN (pc := 8) (mc := mX6_weeksFromTo) (rest := []) lX4_28 iX6_weeksFromTo (kX6_weeksFromTo l E M (M.1 a 3 + M.1 a 7) (M.1 a 4 + M.1 a 7) (by omega) (by omega)) ⟨Nat.le_of_ble_eq_true rfl, Nat.le_of_ble_eq_true rfl⟩ rfl rfl (Nat.le_of_ble_eq_true rfl) ⟨Nat.zero_le _, Nat.zero_le _⟩ dX4_weeksNow_8 (g_rL ?_)
  exact g_lret (pc := 11) rfl dX4_weeksNow_11 ⟨rfl, rfl⟩
set_option maxRecDepth 100000 in
set_option maxHeartbeats 4000000 in
theorem kX4_hasCell (l : Launch) (E : gEnv) (M : gMem) (a x : Nat) (ha : gSh E a = 5) (hu : uOk (oV M a)) (hx : x < 96) : gMetI l E mX4_hasCell 1 [.ref (gAd E a), .int (nI x)] M (gb ((oV M a 0).testBit (x / 16) && (oV M a 1).testBit (x / 4 % 4) && (oV M a 2).testBit (x % 4))) := by
  obtain ⟨a0, a1, a2, a3, a4, a5, a6, a7⟩ := hu
  simp only [oV] at a0 a1 a2
  refine gMet_of (mm := mX4_hasCell) (h := 1) (M := M) [(0, .ref (gAd E a)), (1, .int (nI x))] (by decide) (Nat.le_of_ble_eq_true rfl) rfl ?_
  refine g_aload_n (pc := 0) 0 rfl rfl dX4_hasCell_0 ?_
  refine fX4_32 (pc := 1) rfl ha dX4_hasCell_1 ?_
  refine g_iload_n (pc := 4) 1 rfl rfl dX4_hasCell_4 ?_
  refine g_callSN (pc := 5) (mc := mX6_landOf) (rest := [.int (nI (M.1 a 0))]) lX4_35 iX6_landOf (kX6_landOf l E M x (by omega)) ⟨Nat.le_of_ble_eq_true rfl, Nat.le_of_ble_eq_true rfl⟩ rfl rfl (Nat.le_of_ble_eq_true rfl) ⟨Nat.zero_le _, Nat.zero_le _⟩ dX4_hasCell_5 (g_rI ?_)
  refine g_callSN (pc := 8) (mc := mX6_has) (rest := []) lX4_39 iX6_has (kX6_has l E M (M.1 a 0) (x / 16) (by omega) (by omega)) ⟨Nat.le_of_ble_eq_true rfl, Nat.le_of_ble_eq_true rfl⟩ rfl rfl (Nat.le_of_ble_eq_true rfl) ⟨Nat.zero_le _, Nat.zero_le _⟩ dX4_hasCell_8 (g_rI ?_)
  refine g_ifB_eq (pc := 11) 46 dX4_hasCell_11 (by decide) (fun h11 => ?_) (fun h11 => ?_)
  · refine g_iconst (pc := 46) (nI 0) (by decide) dX4_hasCell_46 ?_
    refine g_topi (pc := 47) (x' := gb false) (by decide) ?_
    exact g_zret (pc := 47) rfl dX4_hasCell_47 ⟨congrArg (fun z => some (Value.int (gb z))) (by simp only [oV]; rw [h11]; simp), rfl⟩
  · refine g_aload_n (pc := 14) 0 rfl rfl dX4_hasCell_14 ?_
    refine fX4_43 (pc := 15) rfl ha dX4_hasCell_15 ?_
    refine g_iload_n (pc := 18) 1 rfl rfl dX4_hasCell_18 ?_
    refine g_callSN (pc := 19) (mc := mX6_tongueOf) (rest := [.int (nI (M.1 a 1))]) lX4_46 iX6_tongueOf (kX6_tongueOf l E M x (by omega)) ⟨Nat.le_of_ble_eq_true rfl, Nat.le_of_ble_eq_true rfl⟩ rfl rfl (Nat.le_of_ble_eq_true rfl) ⟨Nat.zero_le _, Nat.zero_le _⟩ dX4_hasCell_19 (g_rI ?_)
    refine g_callSN (pc := 22) (mc := mX6_has) (rest := []) lX4_39 iX6_has (kX6_has l E M (M.1 a 1) (x / 4 % 4) (by omega) (by omega)) ⟨Nat.le_of_ble_eq_true rfl, Nat.le_of_ble_eq_true rfl⟩ rfl rfl (Nat.le_of_ble_eq_true rfl) ⟨Nat.zero_le _, Nat.zero_le _⟩ dX4_hasCell_22 (g_rI ?_)
    refine g_ifB_eq (pc := 25) 46 dX4_hasCell_25 (by decide) (fun h25 => ?_) (fun h25 => ?_)
    · refine g_iconst (pc := 46) (nI 0) (by decide) dX4_hasCell_46 ?_
      refine g_topi (pc := 47) (x' := gb false) (by decide) ?_
      exact g_zret (pc := 47) rfl dX4_hasCell_47 ⟨congrArg (fun z => some (Value.int (gb z))) (by simp only [oV]; rw [h11, h25]; simp), rfl⟩
    · refine g_aload_n (pc := 28) 0 rfl rfl dX4_hasCell_28 ?_
      refine fX4_49 (pc := 29) rfl ha dX4_hasCell_29 ?_
      refine g_iload_n (pc := 32) 1 rfl rfl dX4_hasCell_32 ?_
      refine g_callSN (pc := 33) (mc := mX6_meansOf) (rest := [.int (nI (M.1 a 2))]) lX4_52 iX6_meansOf (kX6_meansOf l E M x (by omega)) ⟨Nat.le_of_ble_eq_true rfl, Nat.le_of_ble_eq_true rfl⟩ rfl rfl (Nat.le_of_ble_eq_true rfl) ⟨Nat.zero_le _, Nat.zero_le _⟩ dX4_hasCell_33 (g_rI ?_)
      refine g_callSN (pc := 36) (mc := mX6_has) (rest := []) lX4_39 iX6_has (kX6_has l E M (M.1 a 2) (x % 4) (by omega) (by omega)) ⟨Nat.le_of_ble_eq_true rfl, Nat.le_of_ble_eq_true rfl⟩ rfl rfl (Nat.le_of_ble_eq_true rfl) ⟨Nat.zero_le _, Nat.zero_le _⟩ dX4_hasCell_36 (g_rI ?_)
      refine g_ifB_eq (pc := 39) 46 dX4_hasCell_39 (by decide) (fun h39 => ?_) (fun h39 => ?_)
      · refine g_iconst (pc := 46) (nI 0) (by decide) dX4_hasCell_46 ?_
        refine g_topi (pc := 47) (x' := gb false) (by decide) ?_
        exact g_zret (pc := 47) rfl dX4_hasCell_47 ⟨congrArg (fun z => some (Value.int (gb z))) (by simp only [oV]; rw [h11, h25, h39]; simp), rfl⟩
      · refine g_iconst (pc := 42) (nI 1) (by decide) dX4_hasCell_42 ?_
        refine g_goto (pc := 43) 47 dX4_hasCell_43 (by decide) ?_
        refine g_topi (pc := 47) (x' := gb true) (by decide) ?_
        exact g_zret (pc := 47) rfl dX4_hasCell_47 ⟨congrArg (fun z => some (Value.int (gb z))) (by simp only [oV]; rw [h11, h25, h39]; simp), rfl⟩
set_option maxRecDepth 100000 in
set_option maxHeartbeats 4000000 in
theorem kX4_commonPoints (l : Launch) (E : gEnv) (M : gMem) (a c : Nat) (ha : gSh E a = 5) (hc : gSh E c = 5) (hu : uOk (oV M a)) (hv : uOk (oV M c)) : gMetI l E mX4_commonPoints 2 [.ref (gAd E a), .ref (gAd E c)] M (nI (sCom (oV M a) (oV M c))) := by
  have a0 : M.1 a 0 < 64 := hu.1
  have a1 : M.1 a 1 < 16 := hu.2.1
  have a2 : M.1 a 2 < 16 := hu.2.2.1
  refine gMet_of (mm := mX4_commonPoints) (h := 2) (M := M) [(0, .ref (gAd E a)), (1, .ref (gAd E c))] (by decide) (Nat.le_of_ble_eq_true rfl) rfl ?_
  refine g_aload_n (pc := 0) 0 rfl rfl dX4_commonPoints_0 ?_
  refine fX4_32 (pc := 1) rfl ha dX4_commonPoints_1 ?_
  refine g_aload_n (pc := 4) 1 rfl rfl dX4_commonPoints_4 ?_
  refine fX4_32 (pc := 5) rfl hc dX4_commonPoints_5 ?_
  refine g_iandN (pc := 8) dX4_commonPoints_8 ?_
  refine g_callS (pc := 9) (mc := mJ6_bitCount_0f7a4) (rest := []) lX4_55 iJ6_bitCount_0f7a4 (kJ6_bitCount l E M ((M.1 a 0) &&& (M.1 c 0)) (Nat.lt_of_le_of_lt Nat.and_le_left (by omega))) ⟨Nat.le_of_ble_eq_true rfl, Nat.le_of_ble_eq_true rfl⟩ rfl rfl (Nat.le_of_ble_eq_true rfl) ⟨Nat.zero_le _, Nat.zero_le _⟩ dX4_commonPoints_9 (g_rI ?_)
  refine g_aload_n (pc := 12) 0 rfl rfl dX4_commonPoints_12 ?_
  refine fX4_43 (pc := 13) rfl ha dX4_commonPoints_13 ?_
  refine g_aload_n (pc := 16) 1 rfl rfl dX4_commonPoints_16 ?_
  refine fX4_43 (pc := 17) rfl hc dX4_commonPoints_17 ?_
  refine g_iandN (pc := 20) dX4_commonPoints_20 ?_
  refine g_callS (pc := 21) (mc := mJ6_bitCount_0f7a4) (rest := [.int (nI (sOnes ((M.1 a 0) &&& (M.1 c 0))))]) lX4_55 iJ6_bitCount_0f7a4 (kJ6_bitCount l E M ((M.1 a 1) &&& (M.1 c 1)) (Nat.lt_of_le_of_lt Nat.and_le_left (by omega))) ⟨Nat.le_of_ble_eq_true rfl, Nat.le_of_ble_eq_true rfl⟩ rfl rfl (Nat.le_of_ble_eq_true rfl) ⟨Nat.zero_le _, Nat.zero_le _⟩ dX4_commonPoints_21 (g_rI ?_)
  refine g_imulN (pc := 24) dX4_commonPoints_24 ?_
  refine g_aload_n (pc := 25) 0 rfl rfl dX4_commonPoints_25 ?_
  refine fX4_49 (pc := 26) rfl ha dX4_commonPoints_26 ?_
  refine g_aload_n (pc := 29) 1 rfl rfl dX4_commonPoints_29 ?_
  refine fX4_49 (pc := 30) rfl hc dX4_commonPoints_30 ?_
  refine g_iandN (pc := 33) dX4_commonPoints_33 ?_
  refine g_callS (pc := 34) (mc := mJ6_bitCount_0f7a4) (rest := [.int (nI ((sOnes ((M.1 a 0) &&& (M.1 c 0))) * (sOnes ((M.1 a 1) &&& (M.1 c 1)))))]) lX4_55 iJ6_bitCount_0f7a4 (kJ6_bitCount l E M ((M.1 a 2) &&& (M.1 c 2)) (Nat.lt_of_le_of_lt Nat.and_le_left (by omega))) ⟨Nat.le_of_ble_eq_true rfl, Nat.le_of_ble_eq_true rfl⟩ rfl rfl (Nat.le_of_ble_eq_true rfl) ⟨Nat.zero_le _, Nat.zero_le _⟩ dX4_commonPoints_34 (g_rI ?_)
  refine g_imulN (pc := 37) dX4_commonPoints_37 ?_
  refine g_aload_n (pc := 38) 0 rfl rfl dX4_commonPoints_38 ?_
  refine g_callV (pc := 39) (mc := mX4_weeksNow) (rest := [.int (nI (((sOnes ((M.1 a 0) &&& (M.1 c 0))) * (sOnes ((M.1 a 1) &&& (M.1 c 1)))) * (sOnes ((M.1 a 2) &&& (M.1 c 2)))))]) lX4_60 iX4_weeksNow (kX4_weeksNow l E M a ha hu) ⟨Nat.le_of_ble_eq_true rfl, Nat.le_of_ble_eq_true rfl⟩ ha (by decide) (by decide) rfl rfl rfl rfl (Nat.le_of_ble_eq_true rfl) ⟨Nat.zero_le _, Nat.zero_le _⟩ dX4_commonPoints_39 (g_rL ?_)
  refine g_aload_n (pc := 42) 1 rfl rfl dX4_commonPoints_42 ?_
  refine g_callV (pc := 43) (mc := mX4_weeksNow) (rest := [.long (lN (sMask (oV M a 3) (oV M a 4))), .int (nI (((sOnes ((M.1 a 0) &&& (M.1 c 0))) * (sOnes ((M.1 a 1) &&& (M.1 c 1)))) * (sOnes ((M.1 a 2) &&& (M.1 c 2)))))]) lX4_60 iX4_weeksNow (kX4_weeksNow l E M c hc hv) ⟨Nat.le_of_ble_eq_true rfl, Nat.le_of_ble_eq_true rfl⟩ hc (by decide) (by decide) rfl rfl rfl rfl (Nat.le_of_ble_eq_true rfl) ⟨Nat.zero_le _, Nat.zero_le _⟩ dX4_commonPoints_43 (g_rL ?_)
  refine g_land (pc := 46) dX4_commonPoints_46 ?_
  refine g_topl (pc := 47) (x' := lN (sMask (oV M a 3) (oV M a 4) &&& sMask (oV M c 3) (oV M c 4))) (wb_and (Nat.lt_trans (sMask_lt hu.2.2.2.2.1) (by decide)) (Nat.lt_trans (sMask_lt hv.2.2.2.2.1) (by decide))) ?_
  refine g_callS (pc := 47) (mc := mJ13_bitCount_95d88) (rest := [.int (nI (((sOnes ((M.1 a 0) &&& (M.1 c 0))) * (sOnes ((M.1 a 1) &&& (M.1 c 1)))) * (sOnes ((M.1 a 2) &&& (M.1 c 2)))))]) lX4_64 iJ13_bitCount_95d88 (kJ13_bitCount l E M (sMask (oV M a 3) (oV M a 4) &&& sMask (oV M c 3) (oV M c 4)) (Nat.lt_of_le_of_lt Nat.and_le_left (sMask_lt hu.2.2.2.2.1))) ⟨Nat.le_of_ble_eq_true rfl, Nat.le_of_ble_eq_true rfl⟩ rfl rfl (Nat.le_of_ble_eq_true rfl) ⟨Nat.zero_le _, Nat.zero_le _⟩ dX4_commonPoints_47 (g_rI ?_)
  refine g_imulN (pc := 50) dX4_commonPoints_50 ?_
  exact g_iret (pc := 51) rfl dX4_commonPoints_51 ⟨congrArg (fun z => some (Value.int z)) (by rw [sPop_mask hu hv]; rfl), rfl⟩
set_option maxRecDepth 100000 in
set_option maxHeartbeats 4000000 in
theorem kX0_bestSet (l : Launch) (E : gEnv) (M : gMem) (b : Nat) (hB : cBr E M b) (hO : cO M b) : gMetI l E mX0_bestSet 5 [.ref (gAd E b)] M (nI (sBest (cV M b) (M.1 b 1) (goodC (cV M b) (M.1 b 1) (cH M b) (M.1 b 3) (M.1 b 4) (M.1 b 5)) (2 ^ M.1 b 1))) := by
  have hO' := hO
  obtain ⟨hn, hk, hft, hto, hU, hH⟩ := hO
  have hO := hO'
  have hp : 2 ^ M.1 b 1 ≤ 1024 := Nat.pow_le_pow_right (n := 2) (by decide) hn
  refine gMet_of (mm := mX0_bestSet) (h := 5) (M := M) [(0, .ref (gAd E b))] (by decide) (Nat.le_of_ble_eq_true rfl) rfl ?_
  refine g_aload_n (pc := 0) 0 rfl rfl dX0_bestSet_0 ?_
  refine g_callV (pc := 1) (mc := mX0_outsideTerm) (rest := []) lX0_108 iX0_outsideTerm (kX0_outsideTerm l E M b hB hO) ⟨Nat.le_of_ble_eq_true rfl, Nat.le_of_ble_eq_true rfl⟩ hB.1.1 (by decide) (by decide) rfl rfl rfl rfl (Nat.le_of_ble_eq_true rfl) ⟨Nat.zero_le _, Nat.zero_le _⟩ dX0_bestSet_1 (g_rI ?_)
  refine g_istore_n (pc := 4) rfl [(0, .ref (gAd E b)), (1, .int (nI (sOut (cV M b) (M.1 b 4) (M.1 b 5) (M.1 b 1))))] dX0_bestSet_4 (by decide) rfl rfl ?_
  refine g_iconst (pc := 5) (nI 0) (by decide) dX0_bestSet_5 ?_
  refine g_istore_n (pc := 6) rfl [(0, .ref (gAd E b)), (1, .int (nI (sOut (cV M b) (M.1 b 4) (M.1 b 5) (M.1 b 1)))), (2, .int (nI 0))] dX0_bestSet_6 (by decide) rfl rfl ?_
  refine g_iconst (pc := 7) (nI 0) (by decide) dX0_bestSet_7 ?_
  refine g_istore_n (pc := 8) rfl [(0, .ref (gAd E b)), (1, .int (nI (sOut (cV M b) (M.1 b 4) (M.1 b 5) (M.1 b 1)))), (2, .int (nI 0)), (3, .int (nI 0))] dX0_bestSet_8 (by decide) rfl rfl ?_
  refine g_iconst (pc := 9) (nI 1) (by decide) dX0_bestSet_9 ?_
  refine g_istore (pc := 10) [(0, .ref (gAd E b)), (1, .int (nI (sOut (cV M b) (M.1 b 4) (M.1 b 5) (M.1 b 1)))), (2, .int (nI 0)), (3, .int (nI 0)), (4, .int (nI 1))] dX0_bestSet_10 (by decide) rfl rfl ?_
  have lp12 : ∀ z, z ≤ 2 ^ M.1 b 1 → gG l (gV0 5 E (fun v u => v = some (.int (nI (sBest (cV M b) (M.1 b 1) (goodC (cV M b) (M.1 b 1) (cH M b) (M.1 b 3) (M.1 b 4) (M.1 b 5)) (2 ^ M.1 b 1)))) ∧ u = M)) mX0_bestSet E (0, 0) M 12 [(0, .ref (gAd E b)), (1, .int (nI (sOut (cV M b) (M.1 b 4) (M.1 b 5) (M.1 b 1)))), (2, .int (nI (sBest (cV M b) (M.1 b 1) (goodC (cV M b) (M.1 b 1) (cH M b) (M.1 b 3) (M.1 b 4) (M.1 b 5)) z))), (3, .int (nI (sPrice (cV M b) (M.1 b 1) (sBest (cV M b) (M.1 b 1) (goodC (cV M b) (M.1 b 1) (cH M b) (M.1 b 3) (M.1 b 4) (M.1 b 5)) z)))), (4, .int (nI z))] [] := by
    refine gloop (fun z hiz ihz => ?_)
    refine g_iload (pc := 12) 4 rfl dX0_bestSet_12 ?_
    refine g_iconst (pc := 14) (nI 1) (by decide) dX0_bestSet_14 ?_
    refine g_aload_n (pc := 15) 0 rfl rfl dX0_bestSet_15 ?_
    refine fX0_25 (pc := 16) rfl hB.1.1 dX0_bestSet_16 ?_
    refine g_ishl1 (pc := 19) (by omega) dX0_bestSet_19 ?_
    refine g_icmpN_ge (pc := 20) 107 dX0_bestSet_20 (by decide) (by omega) (by omega) (fun h20 => ?_) (fun h20 => ?_)
    · refine g_iload_n (pc := 107) 2 rfl rfl dX0_bestSet_107 ?_
      exact g_iret (pc := 108) rfl dX0_bestSet_108 ⟨congrArg (fun z => some (Value.int z)) (by rw [show z = 2 ^ M.1 b 1 by omega]), rfl⟩
    · have ho1 := sOnes_le z
      have ho2 := sOnes_le (sBest (cV M b) (M.1 b 1) (goodC (cV M b) (M.1 b 1) (cH M b) (M.1 b 3) (M.1 b 4) (M.1 b 5)) z)
      have hzl := sBest_le (V := cV M b) (n := M.1 b 1) (good := (goodC (cV M b) (M.1 b 1) (cH M b) (M.1 b 3) (M.1 b 4) (M.1 b 5))) z
      have hpz := sPrice_le (V := cV M b) (set := z) (M.1 b 1) (fun i hi => (hU i hi).2.2.2.2.2.2.2)
      have hpb := sPrice_le (V := cV M b) (set := sBest (cV M b) (M.1 b 1) (goodC (cV M b) (M.1 b 1) (cH M b) (M.1 b 3) (M.1 b 4) (M.1 b 5)) z) (M.1 b 1) (fun i hi => (hU i hi).2.2.2.2.2.2.2)
      refine g_iload (pc := 23) 4 rfl dX0_bestSet_23 ?_
      refine g_iload_n (pc := 25) 1 rfl rfl dX0_bestSet_25 ?_
      refine g_iandN (pc := 26) dX0_bestSet_26 ?_
      refine g_ifN_eq (pc := 27) 33 dX0_bestSet_27 (by decide) (Nat.lt_of_le_of_lt Nat.and_le_left (by omega)) (fun h27 => ?_) (fun h27 => ?_)
      · refine g_aload_n (pc := 33) 0 rfl rfl dX0_bestSet_33 ?_
        refine g_iload (pc := 34) 4 rfl dX0_bestSet_34 ?_
        refine g_callV (pc := 36) (mc := mX0_priceOf) (rest := []) lX0_111 iX0_priceOf (kX0_priceOf l E M b z hB (by omega) (by omega)) ⟨Nat.le_of_ble_eq_true rfl, Nat.le_of_ble_eq_true rfl⟩ hB.1.1 (by decide) (by decide) rfl rfl rfl rfl (Nat.le_of_ble_eq_true rfl) ⟨Nat.zero_le _, Nat.zero_le _⟩ dX0_bestSet_36 (g_rI ?_)
        refine g_istore (pc := 39) [(0, .ref (gAd E b)), (1, .int (nI (sOut (cV M b) (M.1 b 4) (M.1 b 5) (M.1 b 1)))), (2, .int (nI (sBest (cV M b) (M.1 b 1) (goodC (cV M b) (M.1 b 1) (cH M b) (M.1 b 3) (M.1 b 4) (M.1 b 5)) z))), (3, .int (nI (sPrice (cV M b) (M.1 b 1) (sBest (cV M b) (M.1 b 1) (goodC (cV M b) (M.1 b 1) (cH M b) (M.1 b 3) (M.1 b 4) (M.1 b 5)) z)))), (4, .int (nI z)), (5, .int (nI (sPrice (cV M b) (M.1 b 1) z)))] dX0_bestSet_39 (by decide) rfl rfl ?_
        refine g_iload (pc := 41) 5 rfl dX0_bestSet_41 ?_
        refine g_iload_n (pc := 43) 3 rfl rfl dX0_bestSet_43 ?_
        refine g_icmpN_gt (pc := 44) 65 dX0_bestSet_44 (by decide) (by omega) (by omega) (fun h44 => ?_) (fun h44 => ?_)
        · have hbet : sBet (cV M b) (M.1 b 1) z (sBest (cV M b) (M.1 b 1) (goodC (cV M b) (M.1 b 1) (cH M b) (M.1 b 3) (M.1 b 4) (M.1 b 5)) z) = true := by simp only [sBet, Bool.or_eq_true, decide_eq_true_eq]; exact Or.inl h44
          refine g_iconst (pc := 65) (nI 1) (by decide) dX0_bestSet_65 ?_
          refine g_goto (pc := 66) 70 dX0_bestSet_66 (by decide) ?_
          refine g_istore (pc := 70) [(0, .ref (gAd E b)), (1, .int (nI (sOut (cV M b) (M.1 b 4) (M.1 b 5) (M.1 b 1)))), (2, .int (nI (sBest (cV M b) (M.1 b 1) (goodC (cV M b) (M.1 b 1) (cH M b) (M.1 b 3) (M.1 b 4) (M.1 b 5)) z))), (3, .int (nI (sPrice (cV M b) (M.1 b 1) (sBest (cV M b) (M.1 b 1) (goodC (cV M b) (M.1 b 1) (cH M b) (M.1 b 3) (M.1 b 4) (M.1 b 5)) z)))), (4, .int (nI z)), (5, .int (nI (sPrice (cV M b) (M.1 b 1) z))), (6, .int (nI 1))] dX0_bestSet_70 (by decide) rfl rfl ?_
          refine g_iload (pc := 72) 6 rfl dX0_bestSet_72 ?_
          refine g_ifN_eq (pc := 74) 101 dX0_bestSet_74 (by decide) (by omega) (fun h74 => absurd h74 (by omega)) (fun h74 => ?_)
          refine g_aload_n (pc := 77) 0 rfl rfl dX0_bestSet_77 ?_
          refine g_iload (pc := 78) 4 rfl dX0_bestSet_78 ?_
          refine g_callV (pc := 80) (mc := mX0_isWithoutClash) (rest := []) lX0_120 iX0_isWithoutClash (kX0_isWithoutClash l E M b z hB hO (by omega)) ⟨Nat.le_of_ble_eq_true rfl, Nat.le_of_ble_eq_true rfl⟩ hB.1.1 (by decide) (by decide) rfl rfl rfl rfl (Nat.le_of_ble_eq_true rfl) ⟨Nat.zero_le _, Nat.zero_le _⟩ dX0_bestSet_80 (g_rI ?_)
          refine g_ifB_eq (pc := 83) 101 dX0_bestSet_83 (by decide) (fun h83 => ?_) (fun h83 => ?_)
          · refine g_iincN (pc := 101) 1 4 [(0, .ref (gAd E b)), (1, .int (nI (sOut (cV M b) (M.1 b 4) (M.1 b 5) (M.1 b 1)))), (2, .int (nI (sBest (cV M b) (M.1 b 1) (goodC (cV M b) (M.1 b 1) (cH M b) (M.1 b 3) (M.1 b 4) (M.1 b 5)) z))), (3, .int (nI (sPrice (cV M b) (M.1 b 1) (sBest (cV M b) (M.1 b 1) (goodC (cV M b) (M.1 b 1) (cH M b) (M.1 b 3) (M.1 b 4) (M.1 b 5)) z)))), (4, .int (nI (z + 1))), (5, .int (nI (sPrice (cV M b) (M.1 b 1) z))), (6, .int (nI 1))] rfl dX0_bestSet_101 (by decide) rfl rfl ?_
            refine g_goto (pc := 104) 12 dX0_bestSet_104 (by decide) ?_
            refine g_pick (pc := 12) [0, 1, 2, 3, 4] [(0, .ref (gAd E b)), (1, .int (nI (sOut (cV M b) (M.1 b 4) (M.1 b 5) (M.1 b 1)))), (2, .int (nI (sBest (cV M b) (M.1 b 1) (goodC (cV M b) (M.1 b 1) (cH M b) (M.1 b 3) (M.1 b 4) (M.1 b 5)) z))), (3, .int (nI (sPrice (cV M b) (M.1 b 1) (sBest (cV M b) (M.1 b 1) (goodC (cV M b) (M.1 b 1) (cH M b) (M.1 b 3) (M.1 b 4) (M.1 b 5)) z)))), (4, .int (nI (z + 1)))] rfl ?_
            refine g_lv (pc := 12) (lv' := [(0, .ref (gAd E b)), (1, .int (nI (sOut (cV M b) (M.1 b 4) (M.1 b 5) (M.1 b 1)))), (2, .int (nI (sBest (cV M b) (M.1 b 1) (goodC (cV M b) (M.1 b 1) (cH M b) (M.1 b 3) (M.1 b 4) (M.1 b 5)) (z + 1)))), (3, .int (nI (sPrice (cV M b) (M.1 b 1) (sBest (cV M b) (M.1 b 1) (goodC (cV M b) (M.1 b 1) (cH M b) (M.1 b 3) (M.1 b 4) (M.1 b 5)) (z + 1))))), (4, .int (nI (z + 1)))]) (by rw [sBest_n2 (good := (goodC (cV M b) (M.1 b 1) (cH M b) (M.1 b 3) (M.1 b 4) (M.1 b 5))) (by simp only [goodC, h83, Bool.and_false, Bool.false_and])]) ?_
            exact ihz (by omega)
          · refine g_aload_n (pc := 86) 0 rfl rfl dX0_bestSet_86 ?_
            refine g_iload (pc := 87) 4 rfl dX0_bestSet_87 ?_
            refine g_callV (pc := 89) (mc := mX0_areHoldsKept) (rest := []) lX0_124 iX0_areHoldsKept (kX0_areHoldsKept l E M b z hB hO (by omega)) ⟨Nat.le_of_ble_eq_true rfl, Nat.le_of_ble_eq_true rfl⟩ hB.1.1 (by decide) (by decide) rfl rfl rfl rfl (Nat.le_of_ble_eq_true rfl) ⟨Nat.zero_le _, Nat.zero_le _⟩ dX0_bestSet_89 (g_rI ?_)
            refine g_ifB_eq (pc := 92) 101 dX0_bestSet_92 (by decide) (fun h92 => ?_) (fun h92 => ?_)
            · refine g_iincN (pc := 101) 1 4 [(0, .ref (gAd E b)), (1, .int (nI (sOut (cV M b) (M.1 b 4) (M.1 b 5) (M.1 b 1)))), (2, .int (nI (sBest (cV M b) (M.1 b 1) (goodC (cV M b) (M.1 b 1) (cH M b) (M.1 b 3) (M.1 b 4) (M.1 b 5)) z))), (3, .int (nI (sPrice (cV M b) (M.1 b 1) (sBest (cV M b) (M.1 b 1) (goodC (cV M b) (M.1 b 1) (cH M b) (M.1 b 3) (M.1 b 4) (M.1 b 5)) z)))), (4, .int (nI (z + 1))), (5, .int (nI (sPrice (cV M b) (M.1 b 1) z))), (6, .int (nI 1))] rfl dX0_bestSet_101 (by decide) rfl rfl ?_
              refine g_goto (pc := 104) 12 dX0_bestSet_104 (by decide) ?_
              refine g_pick (pc := 12) [0, 1, 2, 3, 4] [(0, .ref (gAd E b)), (1, .int (nI (sOut (cV M b) (M.1 b 4) (M.1 b 5) (M.1 b 1)))), (2, .int (nI (sBest (cV M b) (M.1 b 1) (goodC (cV M b) (M.1 b 1) (cH M b) (M.1 b 3) (M.1 b 4) (M.1 b 5)) z))), (3, .int (nI (sPrice (cV M b) (M.1 b 1) (sBest (cV M b) (M.1 b 1) (goodC (cV M b) (M.1 b 1) (cH M b) (M.1 b 3) (M.1 b 4) (M.1 b 5)) z)))), (4, .int (nI (z + 1)))] rfl ?_
              refine g_lv (pc := 12) (lv' := [(0, .ref (gAd E b)), (1, .int (nI (sOut (cV M b) (M.1 b 4) (M.1 b 5) (M.1 b 1)))), (2, .int (nI (sBest (cV M b) (M.1 b 1) (goodC (cV M b) (M.1 b 1) (cH M b) (M.1 b 3) (M.1 b 4) (M.1 b 5)) (z + 1)))), (3, .int (nI (sPrice (cV M b) (M.1 b 1) (sBest (cV M b) (M.1 b 1) (goodC (cV M b) (M.1 b 1) (cH M b) (M.1 b 3) (M.1 b 4) (M.1 b 5)) (z + 1))))), (4, .int (nI (z + 1)))]) (by rw [sBest_n2 (good := (goodC (cV M b) (M.1 b 1) (cH M b) (M.1 b 3) (M.1 b 4) (M.1 b 5))) (by simp only [goodC, h92, Bool.and_false])]) ?_
              exact ihz (by omega)
            · refine g_iload (pc := 95) 4 rfl dX0_bestSet_95 ?_
              refine g_istore_n (pc := 97) rfl [(0, .ref (gAd E b)), (1, .int (nI (sOut (cV M b) (M.1 b 4) (M.1 b 5) (M.1 b 1)))), (2, .int (nI z)), (3, .int (nI (sPrice (cV M b) (M.1 b 1) (sBest (cV M b) (M.1 b 1) (goodC (cV M b) (M.1 b 1) (cH M b) (M.1 b 3) (M.1 b 4) (M.1 b 5)) z)))), (4, .int (nI z)), (5, .int (nI (sPrice (cV M b) (M.1 b 1) z))), (6, .int (nI 1))] dX0_bestSet_97 (by decide) rfl rfl ?_
              refine g_iload (pc := 98) 5 rfl dX0_bestSet_98 ?_
              refine g_istore_n (pc := 100) rfl [(0, .ref (gAd E b)), (1, .int (nI (sOut (cV M b) (M.1 b 4) (M.1 b 5) (M.1 b 1)))), (2, .int (nI z)), (3, .int (nI (sPrice (cV M b) (M.1 b 1) z))), (4, .int (nI z)), (5, .int (nI (sPrice (cV M b) (M.1 b 1) z))), (6, .int (nI 1))] dX0_bestSet_100 (by decide) rfl rfl ?_
              refine g_iincN (pc := 101) 1 4 [(0, .ref (gAd E b)), (1, .int (nI (sOut (cV M b) (M.1 b 4) (M.1 b 5) (M.1 b 1)))), (2, .int (nI z)), (3, .int (nI (sPrice (cV M b) (M.1 b 1) z))), (4, .int (nI (z + 1))), (5, .int (nI (sPrice (cV M b) (M.1 b 1) z))), (6, .int (nI 1))] rfl dX0_bestSet_101 (by decide) rfl rfl ?_
              refine g_goto (pc := 104) 12 dX0_bestSet_104 (by decide) ?_
              refine g_pick (pc := 12) [0, 1, 2, 3, 4] [(0, .ref (gAd E b)), (1, .int (nI (sOut (cV M b) (M.1 b 4) (M.1 b 5) (M.1 b 1)))), (2, .int (nI z)), (3, .int (nI (sPrice (cV M b) (M.1 b 1) z))), (4, .int (nI (z + 1)))] rfl ?_
              refine g_lv (pc := 12) (lv' := [(0, .ref (gAd E b)), (1, .int (nI (sOut (cV M b) (M.1 b 4) (M.1 b 5) (M.1 b 1)))), (2, .int (nI (sBest (cV M b) (M.1 b 1) (goodC (cV M b) (M.1 b 1) (cH M b) (M.1 b 3) (M.1 b 4) (M.1 b 5)) (z + 1)))), (3, .int (nI (sPrice (cV M b) (M.1 b 1) (sBest (cV M b) (M.1 b 1) (goodC (cV M b) (M.1 b 1) (cH M b) (M.1 b 3) (M.1 b 4) (M.1 b 5)) (z + 1))))), (4, .int (nI (z + 1)))]) (by rw [sBest_p (good := (goodC (cV M b) (M.1 b 1) (cH M b) (M.1 b 3) (M.1 b 4) (M.1 b 5))) hbet (by simp only [goodC, h83, h92, h27]; rfl)]) ?_
              exact ihz (by omega)
        · refine g_iload (pc := 47) 5 rfl dX0_bestSet_47 ?_
          refine g_iload_n (pc := 49) 3 rfl rfl dX0_bestSet_49 ?_
          refine g_icmpN_ne (pc := 50) 69 dX0_bestSet_50 (by decide) (by omega) (by omega) (fun h50 => ?_) (fun h50 => ?_)
          · have hbet : sBet (cV M b) (M.1 b 1) z (sBest (cV M b) (M.1 b 1) (goodC (cV M b) (M.1 b 1) (cH M b) (M.1 b 3) (M.1 b 4) (M.1 b 5)) z) = false := by rw [Bool.eq_false_iff]; simp only [sBet, ne_eq, Bool.or_eq_true, Bool.and_eq_true, beq_iff_eq, decide_eq_true_eq]; omega
            refine g_iconst (pc := 69) (nI 0) (by decide) dX0_bestSet_69 ?_
            refine g_istore (pc := 70) [(0, .ref (gAd E b)), (1, .int (nI (sOut (cV M b) (M.1 b 4) (M.1 b 5) (M.1 b 1)))), (2, .int (nI (sBest (cV M b) (M.1 b 1) (goodC (cV M b) (M.1 b 1) (cH M b) (M.1 b 3) (M.1 b 4) (M.1 b 5)) z))), (3, .int (nI (sPrice (cV M b) (M.1 b 1) (sBest (cV M b) (M.1 b 1) (goodC (cV M b) (M.1 b 1) (cH M b) (M.1 b 3) (M.1 b 4) (M.1 b 5)) z)))), (4, .int (nI z)), (5, .int (nI (sPrice (cV M b) (M.1 b 1) z))), (6, .int (nI 0))] dX0_bestSet_70 (by decide) rfl rfl ?_
            refine g_iload (pc := 72) 6 rfl dX0_bestSet_72 ?_
            refine g_ifN_eq (pc := 74) 101 dX0_bestSet_74 (by decide) (by omega) (fun h74 => ?_) (fun h74 => absurd h74 (by omega))
            refine g_iincN (pc := 101) 1 4 [(0, .ref (gAd E b)), (1, .int (nI (sOut (cV M b) (M.1 b 4) (M.1 b 5) (M.1 b 1)))), (2, .int (nI (sBest (cV M b) (M.1 b 1) (goodC (cV M b) (M.1 b 1) (cH M b) (M.1 b 3) (M.1 b 4) (M.1 b 5)) z))), (3, .int (nI (sPrice (cV M b) (M.1 b 1) (sBest (cV M b) (M.1 b 1) (goodC (cV M b) (M.1 b 1) (cH M b) (M.1 b 3) (M.1 b 4) (M.1 b 5)) z)))), (4, .int (nI (z + 1))), (5, .int (nI (sPrice (cV M b) (M.1 b 1) z))), (6, .int (nI 0))] rfl dX0_bestSet_101 (by decide) rfl rfl ?_
            refine g_goto (pc := 104) 12 dX0_bestSet_104 (by decide) ?_
            refine g_pick (pc := 12) [0, 1, 2, 3, 4] [(0, .ref (gAd E b)), (1, .int (nI (sOut (cV M b) (M.1 b 4) (M.1 b 5) (M.1 b 1)))), (2, .int (nI (sBest (cV M b) (M.1 b 1) (goodC (cV M b) (M.1 b 1) (cH M b) (M.1 b 3) (M.1 b 4) (M.1 b 5)) z))), (3, .int (nI (sPrice (cV M b) (M.1 b 1) (sBest (cV M b) (M.1 b 1) (goodC (cV M b) (M.1 b 1) (cH M b) (M.1 b 3) (M.1 b 4) (M.1 b 5)) z)))), (4, .int (nI (z + 1)))] rfl ?_
            refine g_lv (pc := 12) (lv' := [(0, .ref (gAd E b)), (1, .int (nI (sOut (cV M b) (M.1 b 4) (M.1 b 5) (M.1 b 1)))), (2, .int (nI (sBest (cV M b) (M.1 b 1) (goodC (cV M b) (M.1 b 1) (cH M b) (M.1 b 3) (M.1 b 4) (M.1 b 5)) (z + 1)))), (3, .int (nI (sPrice (cV M b) (M.1 b 1) (sBest (cV M b) (M.1 b 1) (goodC (cV M b) (M.1 b 1) (cH M b) (M.1 b 3) (M.1 b 4) (M.1 b 5)) (z + 1))))), (4, .int (nI (z + 1)))]) (by rw [sBest_n1 (good := (goodC (cV M b) (M.1 b 1) (cH M b) (M.1 b 3) (M.1 b 4) (M.1 b 5))) hbet]) ?_
            exact ihz (by omega)
          · refine g_iload (pc := 53) 4 rfl dX0_bestSet_53 ?_
            refine g_callS (pc := 55) (mc := mJ6_bitCount_0f7a4) (rest := []) lX0_115 iJ6_bitCount_0f7a4 (kJ6_bitCount l E M z (by omega)) ⟨Nat.le_of_ble_eq_true rfl, Nat.le_of_ble_eq_true rfl⟩ rfl rfl (Nat.le_of_ble_eq_true rfl) ⟨Nat.zero_le _, Nat.zero_le _⟩ dX0_bestSet_55 (g_rI ?_)
            refine g_iload_n (pc := 58) 2 rfl rfl dX0_bestSet_58 ?_
            refine g_callS (pc := 59) (mc := mJ6_bitCount_0f7a4) (rest := [.int (nI (sOnes z))]) lX0_115 iJ6_bitCount_0f7a4 (kJ6_bitCount l E M (sBest (cV M b) (M.1 b 1) (goodC (cV M b) (M.1 b 1) (cH M b) (M.1 b 3) (M.1 b 4) (M.1 b 5)) z) (by omega)) ⟨Nat.le_of_ble_eq_true rfl, Nat.le_of_ble_eq_true rfl⟩ rfl rfl (Nat.le_of_ble_eq_true rfl) ⟨Nat.zero_le _, Nat.zero_le _⟩ dX0_bestSet_59 (g_rI ?_)
            refine g_icmpN_ge (pc := 62) 69 dX0_bestSet_62 (by decide) (by omega) (by omega) (fun h62 => ?_) (fun h62 => ?_)
            · have hbet : sBet (cV M b) (M.1 b 1) z (sBest (cV M b) (M.1 b 1) (goodC (cV M b) (M.1 b 1) (cH M b) (M.1 b 3) (M.1 b 4) (M.1 b 5)) z) = false := by rw [Bool.eq_false_iff]; simp only [sBet, ne_eq, Bool.or_eq_true, Bool.and_eq_true, beq_iff_eq, decide_eq_true_eq]; omega
              refine g_iconst (pc := 69) (nI 0) (by decide) dX0_bestSet_69 ?_
              refine g_istore (pc := 70) [(0, .ref (gAd E b)), (1, .int (nI (sOut (cV M b) (M.1 b 4) (M.1 b 5) (M.1 b 1)))), (2, .int (nI (sBest (cV M b) (M.1 b 1) (goodC (cV M b) (M.1 b 1) (cH M b) (M.1 b 3) (M.1 b 4) (M.1 b 5)) z))), (3, .int (nI (sPrice (cV M b) (M.1 b 1) (sBest (cV M b) (M.1 b 1) (goodC (cV M b) (M.1 b 1) (cH M b) (M.1 b 3) (M.1 b 4) (M.1 b 5)) z)))), (4, .int (nI z)), (5, .int (nI (sPrice (cV M b) (M.1 b 1) z))), (6, .int (nI 0))] dX0_bestSet_70 (by decide) rfl rfl ?_
              refine g_iload (pc := 72) 6 rfl dX0_bestSet_72 ?_
              refine g_ifN_eq (pc := 74) 101 dX0_bestSet_74 (by decide) (by omega) (fun h74 => ?_) (fun h74 => absurd h74 (by omega))
              refine g_iincN (pc := 101) 1 4 [(0, .ref (gAd E b)), (1, .int (nI (sOut (cV M b) (M.1 b 4) (M.1 b 5) (M.1 b 1)))), (2, .int (nI (sBest (cV M b) (M.1 b 1) (goodC (cV M b) (M.1 b 1) (cH M b) (M.1 b 3) (M.1 b 4) (M.1 b 5)) z))), (3, .int (nI (sPrice (cV M b) (M.1 b 1) (sBest (cV M b) (M.1 b 1) (goodC (cV M b) (M.1 b 1) (cH M b) (M.1 b 3) (M.1 b 4) (M.1 b 5)) z)))), (4, .int (nI (z + 1))), (5, .int (nI (sPrice (cV M b) (M.1 b 1) z))), (6, .int (nI 0))] rfl dX0_bestSet_101 (by decide) rfl rfl ?_
              refine g_goto (pc := 104) 12 dX0_bestSet_104 (by decide) ?_
              refine g_pick (pc := 12) [0, 1, 2, 3, 4] [(0, .ref (gAd E b)), (1, .int (nI (sOut (cV M b) (M.1 b 4) (M.1 b 5) (M.1 b 1)))), (2, .int (nI (sBest (cV M b) (M.1 b 1) (goodC (cV M b) (M.1 b 1) (cH M b) (M.1 b 3) (M.1 b 4) (M.1 b 5)) z))), (3, .int (nI (sPrice (cV M b) (M.1 b 1) (sBest (cV M b) (M.1 b 1) (goodC (cV M b) (M.1 b 1) (cH M b) (M.1 b 3) (M.1 b 4) (M.1 b 5)) z)))), (4, .int (nI (z + 1)))] rfl ?_
              refine g_lv (pc := 12) (lv' := [(0, .ref (gAd E b)), (1, .int (nI (sOut (cV M b) (M.1 b 4) (M.1 b 5) (M.1 b 1)))), (2, .int (nI (sBest (cV M b) (M.1 b 1) (goodC (cV M b) (M.1 b 1) (cH M b) (M.1 b 3) (M.1 b 4) (M.1 b 5)) (z + 1)))), (3, .int (nI (sPrice (cV M b) (M.1 b 1) (sBest (cV M b) (M.1 b 1) (goodC (cV M b) (M.1 b 1) (cH M b) (M.1 b 3) (M.1 b 4) (M.1 b 5)) (z + 1))))), (4, .int (nI (z + 1)))]) (by rw [sBest_n1 (good := (goodC (cV M b) (M.1 b 1) (cH M b) (M.1 b 3) (M.1 b 4) (M.1 b 5))) hbet]) ?_
              exact ihz (by omega)
            · have hbet : sBet (cV M b) (M.1 b 1) z (sBest (cV M b) (M.1 b 1) (goodC (cV M b) (M.1 b 1) (cH M b) (M.1 b 3) (M.1 b 4) (M.1 b 5)) z) = true := by simp only [sBet, Bool.or_eq_true, Bool.and_eq_true, beq_iff_eq, decide_eq_true_eq]; exact Or.inr ⟨h50, h62⟩
              refine g_iconst (pc := 65) (nI 1) (by decide) dX0_bestSet_65 ?_
              refine g_goto (pc := 66) 70 dX0_bestSet_66 (by decide) ?_
              refine g_istore (pc := 70) [(0, .ref (gAd E b)), (1, .int (nI (sOut (cV M b) (M.1 b 4) (M.1 b 5) (M.1 b 1)))), (2, .int (nI (sBest (cV M b) (M.1 b 1) (goodC (cV M b) (M.1 b 1) (cH M b) (M.1 b 3) (M.1 b 4) (M.1 b 5)) z))), (3, .int (nI (sPrice (cV M b) (M.1 b 1) (sBest (cV M b) (M.1 b 1) (goodC (cV M b) (M.1 b 1) (cH M b) (M.1 b 3) (M.1 b 4) (M.1 b 5)) z)))), (4, .int (nI z)), (5, .int (nI (sPrice (cV M b) (M.1 b 1) z))), (6, .int (nI 1))] dX0_bestSet_70 (by decide) rfl rfl ?_
              refine g_iload (pc := 72) 6 rfl dX0_bestSet_72 ?_
              refine g_ifN_eq (pc := 74) 101 dX0_bestSet_74 (by decide) (by omega) (fun h74 => absurd h74 (by omega)) (fun h74 => ?_)
              refine g_aload_n (pc := 77) 0 rfl rfl dX0_bestSet_77 ?_
              refine g_iload (pc := 78) 4 rfl dX0_bestSet_78 ?_
              refine g_callV (pc := 80) (mc := mX0_isWithoutClash) (rest := []) lX0_120 iX0_isWithoutClash (kX0_isWithoutClash l E M b z hB hO (by omega)) ⟨Nat.le_of_ble_eq_true rfl, Nat.le_of_ble_eq_true rfl⟩ hB.1.1 (by decide) (by decide) rfl rfl rfl rfl (Nat.le_of_ble_eq_true rfl) ⟨Nat.zero_le _, Nat.zero_le _⟩ dX0_bestSet_80 (g_rI ?_)
              refine g_ifB_eq (pc := 83) 101 dX0_bestSet_83 (by decide) (fun h83 => ?_) (fun h83 => ?_)
              · refine g_iincN (pc := 101) 1 4 [(0, .ref (gAd E b)), (1, .int (nI (sOut (cV M b) (M.1 b 4) (M.1 b 5) (M.1 b 1)))), (2, .int (nI (sBest (cV M b) (M.1 b 1) (goodC (cV M b) (M.1 b 1) (cH M b) (M.1 b 3) (M.1 b 4) (M.1 b 5)) z))), (3, .int (nI (sPrice (cV M b) (M.1 b 1) (sBest (cV M b) (M.1 b 1) (goodC (cV M b) (M.1 b 1) (cH M b) (M.1 b 3) (M.1 b 4) (M.1 b 5)) z)))), (4, .int (nI (z + 1))), (5, .int (nI (sPrice (cV M b) (M.1 b 1) z))), (6, .int (nI 1))] rfl dX0_bestSet_101 (by decide) rfl rfl ?_
                refine g_goto (pc := 104) 12 dX0_bestSet_104 (by decide) ?_
                refine g_pick (pc := 12) [0, 1, 2, 3, 4] [(0, .ref (gAd E b)), (1, .int (nI (sOut (cV M b) (M.1 b 4) (M.1 b 5) (M.1 b 1)))), (2, .int (nI (sBest (cV M b) (M.1 b 1) (goodC (cV M b) (M.1 b 1) (cH M b) (M.1 b 3) (M.1 b 4) (M.1 b 5)) z))), (3, .int (nI (sPrice (cV M b) (M.1 b 1) (sBest (cV M b) (M.1 b 1) (goodC (cV M b) (M.1 b 1) (cH M b) (M.1 b 3) (M.1 b 4) (M.1 b 5)) z)))), (4, .int (nI (z + 1)))] rfl ?_
                refine g_lv (pc := 12) (lv' := [(0, .ref (gAd E b)), (1, .int (nI (sOut (cV M b) (M.1 b 4) (M.1 b 5) (M.1 b 1)))), (2, .int (nI (sBest (cV M b) (M.1 b 1) (goodC (cV M b) (M.1 b 1) (cH M b) (M.1 b 3) (M.1 b 4) (M.1 b 5)) (z + 1)))), (3, .int (nI (sPrice (cV M b) (M.1 b 1) (sBest (cV M b) (M.1 b 1) (goodC (cV M b) (M.1 b 1) (cH M b) (M.1 b 3) (M.1 b 4) (M.1 b 5)) (z + 1))))), (4, .int (nI (z + 1)))]) (by rw [sBest_n2 (good := (goodC (cV M b) (M.1 b 1) (cH M b) (M.1 b 3) (M.1 b 4) (M.1 b 5))) (by simp only [goodC, h83, Bool.and_false, Bool.false_and])]) ?_
                exact ihz (by omega)
              · refine g_aload_n (pc := 86) 0 rfl rfl dX0_bestSet_86 ?_
                refine g_iload (pc := 87) 4 rfl dX0_bestSet_87 ?_
                refine g_callV (pc := 89) (mc := mX0_areHoldsKept) (rest := []) lX0_124 iX0_areHoldsKept (kX0_areHoldsKept l E M b z hB hO (by omega)) ⟨Nat.le_of_ble_eq_true rfl, Nat.le_of_ble_eq_true rfl⟩ hB.1.1 (by decide) (by decide) rfl rfl rfl rfl (Nat.le_of_ble_eq_true rfl) ⟨Nat.zero_le _, Nat.zero_le _⟩ dX0_bestSet_89 (g_rI ?_)
                refine g_ifB_eq (pc := 92) 101 dX0_bestSet_92 (by decide) (fun h92 => ?_) (fun h92 => ?_)
                · refine g_iincN (pc := 101) 1 4 [(0, .ref (gAd E b)), (1, .int (nI (sOut (cV M b) (M.1 b 4) (M.1 b 5) (M.1 b 1)))), (2, .int (nI (sBest (cV M b) (M.1 b 1) (goodC (cV M b) (M.1 b 1) (cH M b) (M.1 b 3) (M.1 b 4) (M.1 b 5)) z))), (3, .int (nI (sPrice (cV M b) (M.1 b 1) (sBest (cV M b) (M.1 b 1) (goodC (cV M b) (M.1 b 1) (cH M b) (M.1 b 3) (M.1 b 4) (M.1 b 5)) z)))), (4, .int (nI (z + 1))), (5, .int (nI (sPrice (cV M b) (M.1 b 1) z))), (6, .int (nI 1))] rfl dX0_bestSet_101 (by decide) rfl rfl ?_
                  refine g_goto (pc := 104) 12 dX0_bestSet_104 (by decide) ?_
                  refine g_pick (pc := 12) [0, 1, 2, 3, 4] [(0, .ref (gAd E b)), (1, .int (nI (sOut (cV M b) (M.1 b 4) (M.1 b 5) (M.1 b 1)))), (2, .int (nI (sBest (cV M b) (M.1 b 1) (goodC (cV M b) (M.1 b 1) (cH M b) (M.1 b 3) (M.1 b 4) (M.1 b 5)) z))), (3, .int (nI (sPrice (cV M b) (M.1 b 1) (sBest (cV M b) (M.1 b 1) (goodC (cV M b) (M.1 b 1) (cH M b) (M.1 b 3) (M.1 b 4) (M.1 b 5)) z)))), (4, .int (nI (z + 1)))] rfl ?_
                  refine g_lv (pc := 12) (lv' := [(0, .ref (gAd E b)), (1, .int (nI (sOut (cV M b) (M.1 b 4) (M.1 b 5) (M.1 b 1)))), (2, .int (nI (sBest (cV M b) (M.1 b 1) (goodC (cV M b) (M.1 b 1) (cH M b) (M.1 b 3) (M.1 b 4) (M.1 b 5)) (z + 1)))), (3, .int (nI (sPrice (cV M b) (M.1 b 1) (sBest (cV M b) (M.1 b 1) (goodC (cV M b) (M.1 b 1) (cH M b) (M.1 b 3) (M.1 b 4) (M.1 b 5)) (z + 1))))), (4, .int (nI (z + 1)))]) (by rw [sBest_n2 (good := (goodC (cV M b) (M.1 b 1) (cH M b) (M.1 b 3) (M.1 b 4) (M.1 b 5))) (by simp only [goodC, h92, Bool.and_false])]) ?_
                  exact ihz (by omega)
                · refine g_iload (pc := 95) 4 rfl dX0_bestSet_95 ?_
                  refine g_istore_n (pc := 97) rfl [(0, .ref (gAd E b)), (1, .int (nI (sOut (cV M b) (M.1 b 4) (M.1 b 5) (M.1 b 1)))), (2, .int (nI z)), (3, .int (nI (sPrice (cV M b) (M.1 b 1) (sBest (cV M b) (M.1 b 1) (goodC (cV M b) (M.1 b 1) (cH M b) (M.1 b 3) (M.1 b 4) (M.1 b 5)) z)))), (4, .int (nI z)), (5, .int (nI (sPrice (cV M b) (M.1 b 1) z))), (6, .int (nI 1))] dX0_bestSet_97 (by decide) rfl rfl ?_
                  refine g_iload (pc := 98) 5 rfl dX0_bestSet_98 ?_
                  refine g_istore_n (pc := 100) rfl [(0, .ref (gAd E b)), (1, .int (nI (sOut (cV M b) (M.1 b 4) (M.1 b 5) (M.1 b 1)))), (2, .int (nI z)), (3, .int (nI (sPrice (cV M b) (M.1 b 1) z))), (4, .int (nI z)), (5, .int (nI (sPrice (cV M b) (M.1 b 1) z))), (6, .int (nI 1))] dX0_bestSet_100 (by decide) rfl rfl ?_
                  refine g_iincN (pc := 101) 1 4 [(0, .ref (gAd E b)), (1, .int (nI (sOut (cV M b) (M.1 b 4) (M.1 b 5) (M.1 b 1)))), (2, .int (nI z)), (3, .int (nI (sPrice (cV M b) (M.1 b 1) z))), (4, .int (nI (z + 1))), (5, .int (nI (sPrice (cV M b) (M.1 b 1) z))), (6, .int (nI 1))] rfl dX0_bestSet_101 (by decide) rfl rfl ?_
                  refine g_goto (pc := 104) 12 dX0_bestSet_104 (by decide) ?_
                  refine g_pick (pc := 12) [0, 1, 2, 3, 4] [(0, .ref (gAd E b)), (1, .int (nI (sOut (cV M b) (M.1 b 4) (M.1 b 5) (M.1 b 1)))), (2, .int (nI z)), (3, .int (nI (sPrice (cV M b) (M.1 b 1) z))), (4, .int (nI (z + 1)))] rfl ?_
                  refine g_lv (pc := 12) (lv' := [(0, .ref (gAd E b)), (1, .int (nI (sOut (cV M b) (M.1 b 4) (M.1 b 5) (M.1 b 1)))), (2, .int (nI (sBest (cV M b) (M.1 b 1) (goodC (cV M b) (M.1 b 1) (cH M b) (M.1 b 3) (M.1 b 4) (M.1 b 5)) (z + 1)))), (3, .int (nI (sPrice (cV M b) (M.1 b 1) (sBest (cV M b) (M.1 b 1) (goodC (cV M b) (M.1 b 1) (cH M b) (M.1 b 3) (M.1 b 4) (M.1 b 5)) (z + 1))))), (4, .int (nI (z + 1)))]) (by rw [sBest_p (good := (goodC (cV M b) (M.1 b 1) (cH M b) (M.1 b 3) (M.1 b 4) (M.1 b 5))) hbet (by simp only [goodC, h83, h92, h27]; rfl)]) ?_
                  exact ihz (by omega)
      · refine g_goto (pc := 30) 101 dX0_bestSet_30 (by decide) ?_
        refine g_iincN (pc := 101) 1 4 [(0, .ref (gAd E b)), (1, .int (nI (sOut (cV M b) (M.1 b 4) (M.1 b 5) (M.1 b 1)))), (2, .int (nI (sBest (cV M b) (M.1 b 1) (goodC (cV M b) (M.1 b 1) (cH M b) (M.1 b 3) (M.1 b 4) (M.1 b 5)) z))), (3, .int (nI (sPrice (cV M b) (M.1 b 1) (sBest (cV M b) (M.1 b 1) (goodC (cV M b) (M.1 b 1) (cH M b) (M.1 b 3) (M.1 b 4) (M.1 b 5)) z)))), (4, .int (nI (z + 1)))] rfl dX0_bestSet_101 (by decide) rfl rfl ?_
        refine g_goto (pc := 104) 12 dX0_bestSet_104 (by decide) ?_
        refine g_lv (pc := 12) (lv' := [(0, .ref (gAd E b)), (1, .int (nI (sOut (cV M b) (M.1 b 4) (M.1 b 5) (M.1 b 1)))), (2, .int (nI (sBest (cV M b) (M.1 b 1) (goodC (cV M b) (M.1 b 1) (cH M b) (M.1 b 3) (M.1 b 4) (M.1 b 5)) (z + 1)))), (3, .int (nI (sPrice (cV M b) (M.1 b 1) (sBest (cV M b) (M.1 b 1) (goodC (cV M b) (M.1 b 1) (cH M b) (M.1 b 3) (M.1 b 4) (M.1 b 5)) (z + 1))))), (4, .int (nI (z + 1)))]) (by rw [sBest_n2 (good := (goodC (cV M b) (M.1 b 1) (cH M b) (M.1 b 3) (M.1 b 4) (M.1 b 5))) (by simp only [goodC]; rw [show (z &&& sOut (cV M b) (M.1 b 4) (M.1 b 5) (M.1 b 1) == 0) = false from by simp only [beq_eq_false_iff_ne]; omega]; rfl)]) ?_
        exact ihz (by omega)
  refine g_lv (pc := 12) (lv' := [(0, .ref (gAd E b)), (1, .int (nI (sOut (cV M b) (M.1 b 4) (M.1 b 5) (M.1 b 1)))), (2, .int (nI (sBest (cV M b) (M.1 b 1) (goodC (cV M b) (M.1 b 1) (cH M b) (M.1 b 3) (M.1 b 4) (M.1 b 5)) 1))), (3, .int (nI (sPrice (cV M b) (M.1 b 1) (sBest (cV M b) (M.1 b 1) (goodC (cV M b) (M.1 b 1) (cH M b) (M.1 b 3) (M.1 b 4) (M.1 b 5)) 1)))), (4, .int (nI 1))]) (by rw [show sBest (cV M b) (M.1 b 1) (goodC (cV M b) (M.1 b 1) (cH M b) (M.1 b 3) (M.1 b 4) (M.1 b 5)) 1 = 0 from Nat.le_zero.mp (by have := sBest_le (V := cV M b) (n := M.1 b 1) (good := (goodC (cV M b) (M.1 b 1) (cH M b) (M.1 b 3) (M.1 b 4) (M.1 b 5))) 0; rw [show sBest (cV M b) (M.1 b 1) (goodC (cV M b) (M.1 b 1) (cH M b) (M.1 b 3) (M.1 b 4) (M.1 b 5)) 1 = sBest (cV M b) (M.1 b 1) (goodC (cV M b) (M.1 b 1) (cH M b) (M.1 b 3) (M.1 b 4) (M.1 b 5)) 0 from sBest_n1 (by simp only [sBest, sBet]; simp)]; exact this), sPrice_0]) ?_
  exact lp12 1 Nat.one_le_two_pow
