set_option maxRecDepth 100000 in
set_option maxHeartbeats 4000000 in
theorem kX4_meets (l : Launch) (E : gEnv) (M : gMem) (a c : Nat) (ha : gSh E a = 5) (hc : gSh E c = 5) (hu : uOk (oV M a)) (hv : uOk (oV M c)) : gMetI l E mX4_meets 1 [.ref (gAd E a), .ref (gAd E c)] M (gb (sMt (oV M a) (oV M c))) := by
  obtain ⟨a0, a1, a2, a3, a4, a5, a6, a7⟩ := hu
  obtain ⟨b0, b1, b2, b3, b4, b5, b6, b7⟩ := hv
  simp only [oV] at a0 a1 a2 a3 a4 a5 b0 b1 b2 b3 b4 b5
  refine gMet_of (mm := mX4_meets) (h := 1) (M := M) [(0, .ref (gAd E a)), (1, .ref (gAd E c))] (by decide) (Nat.le_of_ble_eq_true rfl) rfl ?_
  refine g_aload_n (pc := 0) 0 rfl rfl dX4_meets_0 ?_
  refine fX4_32 (pc := 1) rfl ha dX4_meets_1 ?_
  refine g_aload_n (pc := 4) 1 rfl rfl dX4_meets_4 ?_
  refine fX4_32 (pc := 5) rfl hc dX4_meets_5 ?_
  refine g_iandN (pc := 8) dX4_meets_8 ?_
  refine g_ifN_eq (pc := 9) 62 dX4_meets_9 (by decide) (Nat.lt_of_le_of_lt Nat.and_le_left (by omega)) (fun h9 => ?_) (fun h9 => ?_)
  · refine g_iconst (pc := 62) (nI 0) (by decide) dX4_meets_62 ?_
    refine g_topi (pc := 63) (x' := gb false) (by decide) ?_
    exact g_zret (pc := 63) rfl dX4_meets_63 ⟨congrArg (fun z => some (Value.int (gb z))) (bf_of (by intro hh; obtain ⟨q0, q1, q2, q3, q4⟩ := sMt_iff.mp hh; simp only [oV] at q0 q1 q2 q3 q4; omega)), rfl⟩
  · refine g_aload_n (pc := 12) 0 rfl rfl dX4_meets_12 ?_
    refine fX4_43 (pc := 13) rfl ha dX4_meets_13 ?_
    refine g_aload_n (pc := 16) 1 rfl rfl dX4_meets_16 ?_
    refine fX4_43 (pc := 17) rfl hc dX4_meets_17 ?_
    refine g_iandN (pc := 20) dX4_meets_20 ?_
    refine g_ifN_eq (pc := 21) 62 dX4_meets_21 (by decide) (Nat.lt_of_le_of_lt Nat.and_le_left (by omega)) (fun h21 => ?_) (fun h21 => ?_)
    · refine g_iconst (pc := 62) (nI 0) (by decide) dX4_meets_62 ?_
      refine g_topi (pc := 63) (x' := gb false) (by decide) ?_
      exact g_zret (pc := 63) rfl dX4_meets_63 ⟨congrArg (fun z => some (Value.int (gb z))) (bf_of (by intro hh; obtain ⟨q0, q1, q2, q3, q4⟩ := sMt_iff.mp hh; simp only [oV] at q0 q1 q2 q3 q4; omega)), rfl⟩
    · refine g_aload_n (pc := 24) 0 rfl rfl dX4_meets_24 ?_
      refine fX4_49 (pc := 25) rfl ha dX4_meets_25 ?_
      refine g_aload_n (pc := 28) 1 rfl rfl dX4_meets_28 ?_
      refine fX4_49 (pc := 29) rfl hc dX4_meets_29 ?_
      refine g_iandN (pc := 32) dX4_meets_32 ?_
      refine g_ifN_eq (pc := 33) 62 dX4_meets_33 (by decide) (Nat.lt_of_le_of_lt Nat.and_le_left (by omega)) (fun h33 => ?_) (fun h33 => ?_)
      · refine g_iconst (pc := 62) (nI 0) (by decide) dX4_meets_62 ?_
        refine g_topi (pc := 63) (x' := gb false) (by decide) ?_
        exact g_zret (pc := 63) rfl dX4_meets_63 ⟨congrArg (fun z => some (Value.int (gb z))) (bf_of (by intro hh; obtain ⟨q0, q1, q2, q3, q4⟩ := sMt_iff.mp hh; simp only [oV] at q0 q1 q2 q3 q4; omega)), rfl⟩
      · refine g_aload_n (pc := 36) 0 rfl rfl dX4_meets_36 ?_
        refine g_callV (pc := 37) (mc := mX4_firstNow) (rest := []) lX4_21 iX4_firstNow (kX4_firstNow l E M a ha) ⟨Nat.le_of_ble_eq_true rfl, Nat.le_of_ble_eq_true rfl⟩ ha (by decide) (by decide) rfl rfl rfl rfl (Nat.le_of_ble_eq_true rfl) ⟨Nat.zero_le _, Nat.zero_le _⟩ dX4_meets_37 (g_rI ?_)
        refine g_aload_n (pc := 40) 1 rfl rfl dX4_meets_40 ?_
        refine g_callV (pc := 41) (mc := mX4_lastNow) (rest := [.int (nI (M.1 a 3 + M.1 a 7))]) lX4_25 iX4_lastNow (kX4_lastNow l E M c hc) ⟨Nat.le_of_ble_eq_true rfl, Nat.le_of_ble_eq_true rfl⟩ hc (by decide) (by decide) rfl rfl rfl rfl (Nat.le_of_ble_eq_true rfl) ⟨Nat.zero_le _, Nat.zero_le _⟩ dX4_meets_41 (g_rI ?_)
        refine g_icmpN_gt (pc := 44) 62 dX4_meets_44 (by decide) (by omega) (by omega) (fun h44 => ?_) (fun h44 => ?_)
        · refine g_iconst (pc := 62) (nI 0) (by decide) dX4_meets_62 ?_
          refine g_topi (pc := 63) (x' := gb false) (by decide) ?_
          exact g_zret (pc := 63) rfl dX4_meets_63 ⟨congrArg (fun z => some (Value.int (gb z))) (bf_of (by intro hh; obtain ⟨q0, q1, q2, q3, q4⟩ := sMt_iff.mp hh; simp only [oV] at q0 q1 q2 q3 q4; omega)), rfl⟩
        · refine g_aload_n (pc := 47) 1 rfl rfl dX4_meets_47 ?_
          refine g_callV (pc := 48) (mc := mX4_firstNow) (rest := []) lX4_21 iX4_firstNow (kX4_firstNow l E M c hc) ⟨Nat.le_of_ble_eq_true rfl, Nat.le_of_ble_eq_true rfl⟩ hc (by decide) (by decide) rfl rfl rfl rfl (Nat.le_of_ble_eq_true rfl) ⟨Nat.zero_le _, Nat.zero_le _⟩ dX4_meets_48 (g_rI ?_)
          refine g_aload_n (pc := 51) 0 rfl rfl dX4_meets_51 ?_
          refine g_callV (pc := 52) (mc := mX4_lastNow) (rest := [.int (nI (M.1 c 3 + M.1 c 7))]) lX4_25 iX4_lastNow (kX4_lastNow l E M a ha) ⟨Nat.le_of_ble_eq_true rfl, Nat.le_of_ble_eq_true rfl⟩ ha (by decide) (by decide) rfl rfl rfl rfl (Nat.le_of_ble_eq_true rfl) ⟨Nat.zero_le _, Nat.zero_le _⟩ dX4_meets_52 (g_rI ?_)
          refine g_icmpN_gt (pc := 55) 62 dX4_meets_55 (by decide) (by omega) (by omega) (fun h55 => ?_) (fun h55 => ?_)
          · refine g_iconst (pc := 62) (nI 0) (by decide) dX4_meets_62 ?_
            refine g_topi (pc := 63) (x' := gb false) (by decide) ?_
            exact g_zret (pc := 63) rfl dX4_meets_63 ⟨congrArg (fun z => some (Value.int (gb z))) (bf_of (by intro hh; obtain ⟨q0, q1, q2, q3, q4⟩ := sMt_iff.mp hh; simp only [oV] at q0 q1 q2 q3 q4; omega)), rfl⟩
          · refine g_iconst (pc := 58) (nI 1) (by decide) dX4_meets_58 ?_
            refine g_goto (pc := 59) 63 dX4_meets_59 (by decide) ?_
            refine g_topi (pc := 63) (x' := gb true) (by decide) ?_
            exact g_zret (pc := 63) rfl dX4_meets_63 ⟨congrArg (fun z => some (Value.int (gb z))) (bt_of (by refine sMt_iff.mpr ⟨?_, ?_, ?_, ?_, ?_⟩ <;> simp only [oV] <;> omega)), rfl⟩
set_option maxRecDepth 100000 in
set_option maxHeartbeats 4000000 in
theorem kX4_clashesWith (l : Launch) (E : gEnv) (M : gMem) (a c : Nat) (ha : gSh E a = 5) (hc : gSh E c = 5) (hu : uOk (oV M a)) (hv : uOk (oV M c)) : gMetI l E mX4_clashesWith 2 [.ref (gAd E a), .ref (gAd E c)] M (gb (sCl (oV M a) (oV M c))) := by
  have hu5 : M.1 a 5 ≤ 1 := hu.2.2.2.2.2.1
  have hv5 : M.1 c 5 ≤ 1 := hv.2.2.2.2.2.1
  refine gMet_of (mm := mX4_clashesWith) (h := 2) (M := M) [(0, .ref (gAd E a)), (1, .ref (gAd E c))] (by decide) (Nat.le_of_ble_eq_true rfl) rfl ?_
  refine g_aload_n (pc := 0) 0 rfl rfl dX4_clashesWith_0 ?_
  refine fX4_69 (pc := 1) rfl ha dX4_clashesWith_1 ?_
  refine g_ifN_ne (pc := 4) 14 dX4_clashesWith_4 (by decide) (by omega) (fun h4 => ?_) (fun h4 => ?_)
  · refine g_aload_n (pc := 14) 0 rfl rfl dX4_clashesWith_14 ?_
    refine g_aload_n (pc := 15) 1 rfl rfl dX4_clashesWith_15 ?_
    refine g_callV (pc := 16) (mc := mX4_meets) (rest := []) lX4_73 iX4_meets (kX4_meets l E M a c ha hc hu hv) ⟨Nat.le_of_ble_eq_true rfl, Nat.le_of_ble_eq_true rfl⟩ ha (by decide) (by decide) rfl rfl rfl rfl (Nat.le_of_ble_eq_true rfl) ⟨Nat.zero_le _, Nat.zero_le _⟩ dX4_clashesWith_16 (g_rI ?_)
    refine g_ifB_eq (pc := 19) 26 dX4_clashesWith_19 (by decide) (fun h19 => ?_) (fun h19 => ?_)
    · refine g_iconst (pc := 26) (nI 0) (by decide) dX4_clashesWith_26 ?_
      refine g_topi (pc := 27) (x' := gb false) (by decide) ?_
      exact g_zret (pc := 27) rfl dX4_clashesWith_27 ⟨congrArg (fun z => some (Value.int (gb z))) (bf_of (by intro hh; rw [((sCl_iff hu hv).mp hh).2] at h19; cases h19)), rfl⟩
    · refine g_iconst (pc := 22) (nI 1) (by decide) dX4_clashesWith_22 ?_
      refine g_goto (pc := 23) 27 dX4_clashesWith_23 (by decide) ?_
      refine g_topi (pc := 27) (x' := gb true) (by decide) ?_
      exact g_zret (pc := 27) rfl dX4_clashesWith_27 ⟨congrArg (fun z => some (Value.int (gb z))) (bt_of (by exact (sCl_iff hu hv).mpr ⟨by simp only [oV]; omega, h19⟩)), rfl⟩
  · refine g_aload_n (pc := 7) 1 rfl rfl dX4_clashesWith_7 ?_
    refine fX4_69 (pc := 8) rfl hc dX4_clashesWith_8 ?_
    refine g_ifN_eq (pc := 11) 26 dX4_clashesWith_11 (by decide) (by omega) (fun h11 => ?_) (fun h11 => ?_)
    · refine g_iconst (pc := 26) (nI 0) (by decide) dX4_clashesWith_26 ?_
      refine g_topi (pc := 27) (x' := gb false) (by decide) ?_
      exact g_zret (pc := 27) rfl dX4_clashesWith_27 ⟨congrArg (fun z => some (Value.int (gb z))) (bf_of (by intro hh; have q := ((sCl_iff hu hv).mp hh).1; simp only [oV] at q; omega)), rfl⟩
    · refine g_aload_n (pc := 14) 0 rfl rfl dX4_clashesWith_14 ?_
      refine g_aload_n (pc := 15) 1 rfl rfl dX4_clashesWith_15 ?_
      refine g_callV (pc := 16) (mc := mX4_meets) (rest := []) lX4_73 iX4_meets (kX4_meets l E M a c ha hc hu hv) ⟨Nat.le_of_ble_eq_true rfl, Nat.le_of_ble_eq_true rfl⟩ ha (by decide) (by decide) rfl rfl rfl rfl (Nat.le_of_ble_eq_true rfl) ⟨Nat.zero_le _, Nat.zero_le _⟩ dX4_clashesWith_16 (g_rI ?_)
      refine g_ifB_eq (pc := 19) 26 dX4_clashesWith_19 (by decide) (fun h19 => ?_) (fun h19 => ?_)
      · refine g_iconst (pc := 26) (nI 0) (by decide) dX4_clashesWith_26 ?_
        refine g_topi (pc := 27) (x' := gb false) (by decide) ?_
        exact g_zret (pc := 27) rfl dX4_clashesWith_27 ⟨congrArg (fun z => some (Value.int (gb z))) (bf_of (by intro hh; rw [((sCl_iff hu hv).mp hh).2] at h19; cases h19)), rfl⟩
      · refine g_iconst (pc := 22) (nI 1) (by decide) dX4_clashesWith_22 ?_
        refine g_goto (pc := 23) 27 dX4_clashesWith_23 (by decide) ?_
        refine g_topi (pc := 27) (x' := gb true) (by decide) ?_
        exact g_zret (pc := 27) rfl dX4_clashesWith_27 ⟨congrArg (fun z => some (Value.int (gb z))) (bt_of (by exact (sCl_iff hu hv).mpr ⟨by simp only [oV]; omega, h19⟩)), rfl⟩
set_option maxRecDepth 100000 in
set_option maxHeartbeats 4000000 in
theorem kX0_isWithinTerm (l : Launch) (E : gEnv) (M : gMem) (b i : Nat) (hB : cBr E M b) (hO : cO M b) (hi : i < M.1 b 1) : gMetI l E mX0_isWithinTerm 1 [.ref (gAd E b), .int (nI i)] M (gb (sIn (cV M b) (M.1 b 4) (M.1 b 5) i)) := by
  obtain ⟨hn, hk, hft, hto, hU, hH⟩ := hO
  have hu := hU i hi
  obtain ⟨u0, u1, u2, u3, u4, u5, u6, u7⟩ := hu
  simp only [cV, oV] at u3 u4
  refine gMet_of (mm := mX0_isWithinTerm) (h := 1) (M := M) [(0, .ref (gAd E b)), (1, .int (nI i))] (by decide) (Nat.le_of_ble_eq_true rfl) rfl ?_
  refine g_aload_n (pc := 0) 0 rfl rfl dX0_isWithinTerm_0 ?_
  refine fX0_11 (pc := 1) (b + 1) rfl hB.1.1 hB.1.2.2.2.2.2.1 (by omega) dX0_isWithinTerm_1 ?_
  refine g_iload_n (pc := 4) 1 rfl rfl dX0_isWithinTerm_4 ?_
  refine g_aaload (pc := 5) (t0 := 2) (r := (b + 3 + i)) hB.1.2.1 (by decide) rfl (by rw [hB.1.2.2.1]; omega) (by rw [hB.1.2.2.1]; omega) (hB.2.1 i (by omega)).2 (by omega) dX0_isWithinTerm_5 ?_
  refine g_callV (pc := 6) (mc := mX4_firstNow) (rest := []) lX0_86 iX4_firstNow (kX4_firstNow l E M ((b + 3 + i)) (hB.2.1 i (by omega)).1) ⟨Nat.le_of_ble_eq_true rfl, Nat.le_of_ble_eq_true rfl⟩ (hB.2.1 i (by omega)).1 (by decide) (by decide) rfl rfl rfl rfl (Nat.le_of_ble_eq_true rfl) ⟨Nat.zero_le _, Nat.zero_le _⟩ dX0_isWithinTerm_6 (g_rI ?_)
  refine g_aload_n (pc := 9) 0 rfl rfl dX0_isWithinTerm_9 ?_
  refine fX0_32 (pc := 10) rfl hB.1.1 dX0_isWithinTerm_10 ?_
  refine g_icmpN_lt (pc := 13) 36 dX0_isWithinTerm_13 (by decide) (by omega) (by omega) (fun h13 => ?_) (fun h13 => ?_)
  · refine g_iconst (pc := 36) (nI 0) (by decide) dX0_isWithinTerm_36 ?_
    refine g_topi (pc := 37) (x' := gb false) (by decide) ?_
    exact g_zret (pc := 37) rfl dX0_isWithinTerm_37 ⟨congrArg (fun z => some (Value.int (gb z))) (bf_of (by intro hh; have q := sIn_iff.mp hh; simp only [cV, oV] at q; omega)), rfl⟩
  · refine g_aload_n (pc := 16) 0 rfl rfl dX0_isWithinTerm_16 ?_
    refine fX0_11 (pc := 17) (b + 1) rfl hB.1.1 hB.1.2.2.2.2.2.1 (by omega) dX0_isWithinTerm_17 ?_
    refine g_iload_n (pc := 20) 1 rfl rfl dX0_isWithinTerm_20 ?_
    refine g_aaload (pc := 21) (t0 := 2) (r := (b + 3 + i)) hB.1.2.1 (by decide) rfl (by rw [hB.1.2.2.1]; omega) (by rw [hB.1.2.2.1]; omega) (hB.2.1 i (by omega)).2 (by omega) dX0_isWithinTerm_21 ?_
    refine g_callV (pc := 22) (mc := mX4_lastNow) (rest := []) lX0_90 iX4_lastNow (kX4_lastNow l E M ((b + 3 + i)) (hB.2.1 i (by omega)).1) ⟨Nat.le_of_ble_eq_true rfl, Nat.le_of_ble_eq_true rfl⟩ (hB.2.1 i (by omega)).1 (by decide) (by decide) rfl rfl rfl rfl (Nat.le_of_ble_eq_true rfl) ⟨Nat.zero_le _, Nat.zero_le _⟩ dX0_isWithinTerm_22 (g_rI ?_)
    refine g_aload_n (pc := 25) 0 rfl rfl dX0_isWithinTerm_25 ?_
    refine fX0_35 (pc := 26) rfl hB.1.1 dX0_isWithinTerm_26 ?_
    refine g_icmpN_gt (pc := 29) 36 dX0_isWithinTerm_29 (by decide) (by omega) (by omega) (fun h29 => ?_) (fun h29 => ?_)
    · refine g_iconst (pc := 36) (nI 0) (by decide) dX0_isWithinTerm_36 ?_
      refine g_topi (pc := 37) (x' := gb false) (by decide) ?_
      exact g_zret (pc := 37) rfl dX0_isWithinTerm_37 ⟨congrArg (fun z => some (Value.int (gb z))) (bf_of (by intro hh; have q := sIn_iff.mp hh; simp only [cV, oV] at q; omega)), rfl⟩
    · refine g_iconst (pc := 32) (nI 1) (by decide) dX0_isWithinTerm_32 ?_
      refine g_goto (pc := 33) 37 dX0_isWithinTerm_33 (by decide) ?_
      refine g_topi (pc := 37) (x' := gb true) (by decide) ?_
      exact g_zret (pc := 37) rfl dX0_isWithinTerm_37 ⟨congrArg (fun z => some (Value.int (gb z))) (bt_of (by refine sIn_iff.mpr ?_; simp only [cV, oV]; omega)), rfl⟩
set_option maxRecDepth 100000 in
set_option maxHeartbeats 4000000 in
theorem kX0_lowestClash (l : Launch) (E : gEnv) (M : gMem) (b i set : Nat) (hB : cBr E M b) (hO : cO M b) (hi : i < M.1 b 1) (hs : set < 2147483648) : gMetI l E mX0_lowestClash 3 [.ref (gAd E b), .int (nI i), .int (nI set)] M (oN (sClashOf (cV M b) (M.1 b 1) i set)) := by
  obtain ⟨hn, hk, hft, hto, hU, hH⟩ := hO
  refine gMet_of (mm := mX0_lowestClash) (h := 3) (M := M) [(0, .ref (gAd E b)), (1, .int (nI i)), (2, .int (nI set))] (by decide) (Nat.le_of_ble_eq_true rfl) rfl ?_
  refine g_iconst (pc := 0) (nI 0) (by decide) dX0_lowestClash_0 ?_
  refine g_istore_n (pc := 1) rfl [(0, .ref (gAd E b)), (1, .int (nI i)), (2, .int (nI set)), (3, .int (nI 0))] dX0_lowestClash_1 (by decide) rfl rfl ?_
  have lp2 : ∀ j, j ≤ M.1 b 1 → (sFr (fun j => j != i && set.testBit j && sCl (cV M b i) (cV M b j)) 0 (M.1 b 1) = sFr (fun j => j != i && set.testBit j && sCl (cV M b i) (cV M b j)) j (M.1 b 1 - j)) → gG l (gV0 3 E (fun v u => v = some (.int (oN (sClashOf (cV M b) (M.1 b 1) i set))) ∧ u = M)) mX0_lowestClash E (0, 0) M 2 [(0, .ref (gAd E b)), (1, .int (nI i)), (2, .int (nI set)), (3, .int (nI j))] [] := by
    refine gloop (fun j hij ihj => ?_)
    intro he
    refine g_iload_n (pc := 2) 3 rfl rfl dX0_lowestClash_2 ?_
    refine g_aload_n (pc := 3) 0 rfl rfl dX0_lowestClash_3 ?_
    refine fX0_25 (pc := 4) rfl hB.1.1 dX0_lowestClash_4 ?_
    refine g_icmpN_ge (pc := 7) 49 dX0_lowestClash_7 (by decide) (by omega) (by omega) (fun h7 => ?_) (fun h7 => ?_)
    · refine g_bipush (pc := 49) ((-4)) (by decide) dX0_lowestClash_49 ?_
      exact g_iret (pc := 51) rfl dX0_lowestClash_51 ⟨congrArg (fun z => some (Value.int z)) (by rw [sClashOf, he, show M.1 b 1 - j = 0 by omega]; rfl), rfl⟩
    · refine g_iload_n (pc := 10) 3 rfl rfl dX0_lowestClash_10 ?_
      refine g_iload_n (pc := 11) 1 rfl rfl dX0_lowestClash_11 ?_
      refine g_icmpN_eq (pc := 12) 43 dX0_lowestClash_12 (by decide) (by omega) (by omega) (fun h12 => ?_) (fun h12 => ?_)
      · refine g_iincN (pc := 43) 1 3 [(0, .ref (gAd E b)), (1, .int (nI i)), (2, .int (nI set)), (3, .int (nI (j + 1)))] rfl dX0_lowestClash_43 (by decide) rfl rfl ?_
        refine g_goto (pc := 46) 2 dX0_lowestClash_46 (by decide) ?_
        exact ihj (by omega) (by rw [he, sFr_step (by omega), if_neg]; simp [h12])
      · refine g_iload_n (pc := 15) 2 rfl rfl dX0_lowestClash_15 ?_
        refine g_iload_n (pc := 16) 3 rfl rfl dX0_lowestClash_16 ?_
        refine g_callSN (pc := 17) (mc := mX6_has) (rest := []) lX0_93 iX6_has (kX6_has l E M set j (by omega) (by omega)) ⟨Nat.le_of_ble_eq_true rfl, Nat.le_of_ble_eq_true rfl⟩ rfl rfl (Nat.le_of_ble_eq_true rfl) ⟨Nat.zero_le _, Nat.zero_le _⟩ dX0_lowestClash_17 (g_rI ?_)
        refine g_ifB_eq (pc := 20) 43 dX0_lowestClash_20 (by decide) (fun h20 => ?_) (fun h20 => ?_)
        · refine g_iincN (pc := 43) 1 3 [(0, .ref (gAd E b)), (1, .int (nI i)), (2, .int (nI set)), (3, .int (nI (j + 1)))] rfl dX0_lowestClash_43 (by decide) rfl rfl ?_
          refine g_goto (pc := 46) 2 dX0_lowestClash_46 (by decide) ?_
          exact ihj (by omega) (by rw [he, sFr_step (by omega), if_neg]; simp [h20])
        · refine g_aload_n (pc := 23) 0 rfl rfl dX0_lowestClash_23 ?_
          refine fX0_11 (pc := 24) (b + 1) rfl hB.1.1 hB.1.2.2.2.2.2.1 (by omega) dX0_lowestClash_24 ?_
          refine g_iload_n (pc := 27) 1 rfl rfl dX0_lowestClash_27 ?_
          refine g_aaload (pc := 28) (t0 := 2) (r := (b + 3 + i)) hB.1.2.1 (by decide) rfl (by rw [hB.1.2.2.1]; omega) (by rw [hB.1.2.2.1]; omega) (hB.2.1 i (by omega)).2 (by omega) dX0_lowestClash_28 ?_
          refine g_aload_n (pc := 29) 0 rfl rfl dX0_lowestClash_29 ?_
          refine fX0_11 (pc := 30) (b + 1) rfl hB.1.1 hB.1.2.2.2.2.2.1 (by omega) dX0_lowestClash_30 ?_
          refine g_iload_n (pc := 33) 3 rfl rfl dX0_lowestClash_33 ?_
          refine g_aaload (pc := 34) (t0 := 2) (r := (b + 3 + j)) hB.1.2.1 (by decide) rfl (by rw [hB.1.2.2.1]; omega) (by rw [hB.1.2.2.1]; omega) (hB.2.1 j (by omega)).2 (by omega) dX0_lowestClash_34 ?_
          refine g_callV (pc := 35) (mc := mX4_clashesWith) (rest := []) lX0_96 iX4_clashesWith (kX4_clashesWith l E M ((b + 3 + i)) ((b + 3 + j)) (hB.2.1 i (by omega)).1 (hB.2.1 j (by omega)).1 (hU i hi) (hU j h7)) ⟨Nat.le_of_ble_eq_true rfl, Nat.le_of_ble_eq_true rfl⟩ (hB.2.1 i (by omega)).1 (by decide) (by decide) rfl rfl rfl rfl (Nat.le_of_ble_eq_true rfl) ⟨Nat.zero_le _, Nat.zero_le _⟩ dX0_lowestClash_35 (g_rI ?_)
          refine g_ifB_eq (pc := 38) 43 dX0_lowestClash_38 (by decide) (fun h38 => ?_) (fun h38 => ?_)
          · refine g_iincN (pc := 43) 1 3 [(0, .ref (gAd E b)), (1, .int (nI i)), (2, .int (nI set)), (3, .int (nI (j + 1)))] rfl dX0_lowestClash_43 (by decide) rfl rfl ?_
            refine g_goto (pc := 46) 2 dX0_lowestClash_46 (by decide) ?_
            exact ihj (by omega) (by rw [he, sFr_step (by omega), if_neg]; simp [show sCl (cV M b i) (cV M b j) = false from h38])
          · refine g_iload_n (pc := 41) 3 rfl rfl dX0_lowestClash_41 ?_
            exact g_iret (pc := 42) rfl dX0_lowestClash_42 ⟨congrArg (fun z => some (Value.int z)) (by rw [sClashOf, he, sFr_step (by omega), if_pos (by simp only [bne_iff_ne, Bool.and_eq_true]; exact ⟨⟨h12, h20⟩, h38⟩)]; rfl), rfl⟩
  exact lp2 0 (by omega) rfl
set_option maxRecDepth 100000 in
set_option maxHeartbeats 4000000 in
theorem kX0_clashingPairs (l : Launch) (E : gEnv) (M : gMem) (b : Nat) (hB : cBr E M b) (hO : cO M b) : gMetI l E mX0_clashingPairs 3 [.ref (gAd E b)] M (nI (sPc (cV M b) (M.1 b 1) (M.1 b 1))) := by
  obtain ⟨hn, hk, hft, hto, hU, hH⟩ := hO
  refine gMet_of (mm := mX0_clashingPairs) (h := 3) (M := M) [(0, .ref (gAd E b))] (by decide) (Nat.le_of_ble_eq_true rfl) rfl ?_
  refine g_iconst (pc := 0) (nI 0) (by decide) dX0_clashingPairs_0 ?_
  refine g_istore_n (pc := 1) rfl [(0, .ref (gAd E b)), (1, .int (nI 0))] dX0_clashingPairs_1 (by decide) rfl rfl ?_
  refine g_iconst (pc := 2) (nI 0) (by decide) dX0_clashingPairs_2 ?_
  refine g_istore_n (pc := 3) rfl [(0, .ref (gAd E b)), (1, .int (nI 0)), (2, .int (nI 0))] dX0_clashingPairs_3 (by decide) rfl rfl ?_
  have lp4 : ∀ i, i ≤ M.1 b 1 → gG l (gV0 3 E (fun v u => v = some (.int (nI (sPc (cV M b) (M.1 b 1) (M.1 b 1)))) ∧ u = M)) mX0_clashingPairs E (0, 0) M 4 [(0, .ref (gAd E b)), (1, .int (nI (sPc (cV M b) (M.1 b 1) i))), (2, .int (nI i))] [] := by
    refine gloop (fun i hii ihi => ?_)
    refine g_iload_n (pc := 4) 2 rfl rfl dX0_clashingPairs_4 ?_
    refine g_aload_n (pc := 5) 0 rfl rfl dX0_clashingPairs_5 ?_
    refine fX0_25 (pc := 6) rfl hB.1.1 dX0_clashingPairs_6 ?_
    refine g_icmpN_ge (pc := 9) 57 dX0_clashingPairs_9 (by decide) (by omega) (by omega) (fun h9 => ?_) (fun h9 => ?_)
    · refine g_iload_n (pc := 57) 1 rfl rfl dX0_clashingPairs_57 ?_
      exact g_iret (pc := 58) rfl dX0_clashingPairs_58 ⟨congrArg (fun z => some (Value.int z)) (by rw [show i = M.1 b 1 by omega]), rfl⟩
    · refine g_iload_n (pc := 12) 2 rfl rfl dX0_clashingPairs_12 ?_
      refine g_iconst (pc := 13) (nI 1) (by decide) dX0_clashingPairs_13 ?_
      refine g_iaddN (pc := 14) dX0_clashingPairs_14 ?_
      refine g_istore_n (pc := 15) rfl [(0, .ref (gAd E b)), (1, .int (nI (sPc (cV M b) (M.1 b 1) i))), (2, .int (nI i)), (3, .int (nI (i + 1)))] dX0_clashingPairs_15 (by decide) rfl rfl ?_
      have lp16 : ∀ t, t ≤ M.1 b 1 - (i + 1) → gG l (gV0 3 E (fun v u => v = some (.int (nI (sPc (cV M b) (M.1 b 1) (M.1 b 1)))) ∧ u = M)) mX0_clashingPairs E (0, 0) M 16 [(0, .ref (gAd E b)), (1, .int (nI (sPc (cV M b) (M.1 b 1) i + sPcI (cV M b) i t))), (2, .int (nI i)), (3, .int (nI (i + 1 + t)))] [] := by
        refine gloop (fun t hit iht => ?_)
        refine g_iload_n (pc := 16) 3 rfl rfl dX0_clashingPairs_16 ?_
        refine g_aload_n (pc := 17) 0 rfl rfl dX0_clashingPairs_17 ?_
        refine fX0_25 (pc := 18) rfl hB.1.1 dX0_clashingPairs_18 ?_
        refine g_icmpN_ge (pc := 21) 51 dX0_clashingPairs_21 (by decide) (by omega) (by omega) (fun h21 => ?_) (fun h21 => ?_)
        · refine g_iincN (pc := 51) 1 2 [(0, .ref (gAd E b)), (1, .int (nI (sPc (cV M b) (M.1 b 1) i + sPcI (cV M b) i t))), (2, .int (nI (i + 1))), (3, .int (nI (i + 1 + t)))] rfl dX0_clashingPairs_51 (by decide) rfl rfl ?_
          refine g_goto (pc := 54) 4 dX0_clashingPairs_54 (by decide) ?_
          refine g_pick (pc := 4) [0, 1, 2] [(0, .ref (gAd E b)), (1, .int (nI (sPc (cV M b) (M.1 b 1) i + sPcI (cV M b) i t))), (2, .int (nI (i + 1)))] rfl ?_
          refine g_lv (pc := 4) (lv' := [(0, .ref (gAd E b)), (1, .int (nI (sPc (cV M b) (M.1 b 1) (i + 1)))), (2, .int (nI (i + 1)))]) (by rw [show sPc (cV M b) (M.1 b 1) (i + 1) = sPc (cV M b) (M.1 b 1) i + sPcI (cV M b) i t from by rw [show t = M.1 b 1 - (i + 1) by omega]; rfl]) ?_
          exact ihi (by omega)
        · refine g_aload_n (pc := 24) 0 rfl rfl dX0_clashingPairs_24 ?_
          refine fX0_11 (pc := 25) (b + 1) rfl hB.1.1 hB.1.2.2.2.2.2.1 (by omega) dX0_clashingPairs_25 ?_
          refine g_iload_n (pc := 28) 2 rfl rfl dX0_clashingPairs_28 ?_
          refine g_aaload (pc := 29) (t0 := 2) (r := (b + 3 + i)) hB.1.2.1 (by decide) rfl (by rw [hB.1.2.2.1]; omega) (by rw [hB.1.2.2.1]; omega) (hB.2.1 i (by omega)).2 (by omega) dX0_clashingPairs_29 ?_
          refine g_aload_n (pc := 30) 0 rfl rfl dX0_clashingPairs_30 ?_
          refine fX0_11 (pc := 31) (b + 1) rfl hB.1.1 hB.1.2.2.2.2.2.1 (by omega) dX0_clashingPairs_31 ?_
          refine g_iload_n (pc := 34) 3 rfl rfl dX0_clashingPairs_34 ?_
          refine g_aaload (pc := 35) (t0 := 2) (r := (b + 3 + (i + 1 + t))) hB.1.2.1 (by decide) rfl (by rw [hB.1.2.2.1]; omega) (by rw [hB.1.2.2.1]; omega) (hB.2.1 (i + 1 + t) (by omega)).2 (by omega) dX0_clashingPairs_35 ?_
          refine g_callV (pc := 36) (mc := mX4_clashesWith) (rest := []) lX0_96 iX4_clashesWith (kX4_clashesWith l E M ((b + 3 + i)) ((b + 3 + (i + 1 + t))) (hB.2.1 i (by omega)).1 (hB.2.1 (i + 1 + t) (by omega)).1 (hU i (by omega)) (hU (i + 1 + t) h21)) ⟨Nat.le_of_ble_eq_true rfl, Nat.le_of_ble_eq_true rfl⟩ (hB.2.1 i (by omega)).1 (by decide) (by decide) rfl rfl rfl rfl (Nat.le_of_ble_eq_true rfl) ⟨Nat.zero_le _, Nat.zero_le _⟩ dX0_clashingPairs_36 (g_rI ?_)
          refine g_ifB_eq (pc := 39) 45 dX0_clashingPairs_39 (by decide) (fun h39 => ?_) (fun h39 => ?_)
          · refine g_iincN (pc := 45) 1 3 [(0, .ref (gAd E b)), (1, .int (nI (sPc (cV M b) (M.1 b 1) i + sPcI (cV M b) i t))), (2, .int (nI i)), (3, .int (nI (i + 1 + t + 1)))] rfl dX0_clashingPairs_45 (by decide) rfl rfl ?_
            refine g_goto (pc := 48) 16 dX0_clashingPairs_48 (by decide) ?_
            refine g_lv (pc := 16) (lv' := [(0, .ref (gAd E b)), (1, .int (nI (sPc (cV M b) (M.1 b 1) i + sPcI (cV M b) i (t + 1)))), (2, .int (nI i)), (3, .int (nI (i + 1 + (t + 1))))]) (by rw [show sPcI (cV M b) i (t + 1) = sPcI (cV M b) i t + (if sCl (cV M b i) (cV M b (i + 1 + t)) then 1 else 0) from rfl, show sCl (cV M b i) (cV M b (i + 1 + t)) = _ from h39]; rfl) ?_
            exact iht (by omega)
          · refine g_iincN (pc := 42) 1 1 [(0, .ref (gAd E b)), (1, .int (nI (sPc (cV M b) (M.1 b 1) i + sPcI (cV M b) i t + 1))), (2, .int (nI i)), (3, .int (nI (i + 1 + t)))] rfl dX0_clashingPairs_42 (by decide) rfl rfl ?_
            refine g_iincN (pc := 45) 1 3 [(0, .ref (gAd E b)), (1, .int (nI (sPc (cV M b) (M.1 b 1) i + sPcI (cV M b) i t + 1))), (2, .int (nI i)), (3, .int (nI (i + 1 + t + 1)))] rfl dX0_clashingPairs_45 (by decide) rfl rfl ?_
            refine g_goto (pc := 48) 16 dX0_clashingPairs_48 (by decide) ?_
            refine g_lv (pc := 16) (lv' := [(0, .ref (gAd E b)), (1, .int (nI (sPc (cV M b) (M.1 b 1) i + sPcI (cV M b) i (t + 1)))), (2, .int (nI i)), (3, .int (nI (i + 1 + (t + 1))))]) (by rw [show sPcI (cV M b) i (t + 1) = sPcI (cV M b) i t + (if sCl (cV M b i) (cV M b (i + 1 + t)) then 1 else 0) from rfl, show sCl (cV M b i) (cV M b (i + 1 + t)) = _ from h39]; rfl) ?_
            exact iht (by omega)
      refine g_lv (pc := 16) (lv' := [(0, .ref (gAd E b)), (1, .int (nI (sPc (cV M b) (M.1 b 1) i + sPcI (cV M b) i 0))), (2, .int (nI i)), (3, .int (nI (i + 1 + 0)))]) rfl ?_
      exact lp16 0 (by omega)
  refine g_lv (pc := 4) (lv' := [(0, .ref (gAd E b)), (1, .int (nI (sPc (cV M b) (M.1 b 1) 0))), (2, .int (nI 0))]) rfl ?_
  exact lp4 0 (by omega)
set_option maxRecDepth 100000 in
set_option maxHeartbeats 4000000 in
theorem kX0_beginOf (l : Launch) (E : gEnv) (M : gMem) (b set land means : Nat) (hB : cBr E M b) (hO : cO M b) (hs : set < 2147483648) (hl : land < 6) (hm : means < 4) : gMetI l E mX0_beginOf 1 [.ref (gAd E b), .int (nI set), .int (nI land), .int (nI means)] M (oN (sBg (cV M b) set land means (M.1 b 1))) := by
  obtain ⟨hn, hk, hft, hto, hU, hH⟩ := hO
  refine gMet_of (mm := mX0_beginOf) (h := 1) (M := M) [(0, .ref (gAd E b)), (1, .int (nI set)), (2, .int (nI land)), (3, .int (nI means))] (by decide) (Nat.le_of_ble_eq_true rfl) rfl ?_
  refine g_bipush (pc := 0) ((-4)) (by decide) dX0_beginOf_0 ?_
  refine g_istore (pc := 2) [(0, .ref (gAd E b)), (1, .int (nI set)), (2, .int (nI land)), (3, .int (nI means)), (4, .int ((-4)))] dX0_beginOf_2 (by decide) rfl rfl ?_
  refine g_iconst (pc := 4) (nI 0) (by decide) dX0_beginOf_4 ?_
  refine g_istore (pc := 5) [(0, .ref (gAd E b)), (1, .int (nI set)), (2, .int (nI land)), (3, .int (nI means)), (4, .int ((-4))), (5, .int (nI 0))] dX0_beginOf_5 (by decide) rfl rfl ?_
  have lp7 : ∀ i, i ≤ M.1 b 1 → gG l (gV0 1 E (fun v u => v = some (.int (oN (sBg (cV M b) set land means (M.1 b 1)))) ∧ u = M)) mX0_beginOf E (0, 0) M 7 [(0, .ref (gAd E b)), (1, .int (nI set)), (2, .int (nI land)), (3, .int (nI means)), (4, .int (oN (sBg (cV M b) set land means i))), (5, .int (nI i))] [] := by
    refine gloop (fun i hii ihi => ?_)
    refine g_iload (pc := 7) 5 rfl dX0_beginOf_7 ?_
    refine g_aload_n (pc := 9) 0 rfl rfl dX0_beginOf_9 ?_
    refine fX0_25 (pc := 10) rfl hB.1.1 dX0_beginOf_10 ?_
    refine g_icmpN_ge (pc := 13) 88 dX0_beginOf_13 (by decide) (by omega) (by omega) (fun h13 => ?_) (fun h13 => ?_)
    · refine g_iload (pc := 88) 4 rfl dX0_beginOf_88 ?_
      exact g_iret (pc := 90) rfl dX0_beginOf_90 ⟨congrArg (fun z => some (Value.int z)) (by rw [show i = M.1 b 1 by omega]), rfl⟩
    · have hu := hU i h13
      obtain ⟨u0, u1, u2, u3, u4, u5, u6, u7⟩ := hu
      simp only [cV, oV] at u0 u1 u2 u3 u4
      refine g_aload_n (pc := 16) 0 rfl rfl dX0_beginOf_16 ?_
      refine fX0_11 (pc := 17) (b + 1) rfl hB.1.1 hB.1.2.2.2.2.2.1 (by omega) dX0_beginOf_17 ?_
      refine g_iload (pc := 20) 5 rfl dX0_beginOf_20 ?_
      refine g_aaload (pc := 22) (t0 := 2) (r := (b + 3 + i)) hB.1.2.1 (by decide) rfl (by rw [hB.1.2.2.1]; omega) (by rw [hB.1.2.2.1]; omega) (hB.2.1 i (by omega)).2 (by omega) dX0_beginOf_22 ?_
      refine g_astore (pc := 23) [(0, .ref (gAd E b)), (1, .int (nI set)), (2, .int (nI land)), (3, .int (nI means)), (4, .int (oN (sBg (cV M b) set land means i))), (5, .int (nI i)), (6, .ref (gAd E ((b + 3 + i))))] dX0_beginOf_23 (by decide) rfl rfl ?_
      refine g_iload_n (pc := 25) 1 rfl rfl dX0_beginOf_25 ?_
      refine g_iload (pc := 26) 5 rfl dX0_beginOf_26 ?_
      refine g_callSN (pc := 28) (mc := mX6_has) (rest := []) lX0_93 iX6_has (kX6_has l E M set i (by omega) (by omega)) ⟨Nat.le_of_ble_eq_true rfl, Nat.le_of_ble_eq_true rfl⟩ rfl rfl (Nat.le_of_ble_eq_true rfl) ⟨Nat.zero_le _, Nat.zero_le _⟩ dX0_beginOf_28 (g_rI ?_)
      refine g_ifB_eq (pc := 31) 82 dX0_beginOf_31 (by decide) (fun h31 => ?_) (fun h31 => ?_)
      · refine g_iincN (pc := 82) 1 5 [(0, .ref (gAd E b)), (1, .int (nI set)), (2, .int (nI land)), (3, .int (nI means)), (4, .int (oN (sBg (cV M b) set land means i))), (5, .int (nI (i + 1))), (6, .ref (gAd E ((b + 3 + i))))] rfl dX0_beginOf_82 (by decide) rfl rfl ?_
        refine g_goto (pc := 85) 7 dX0_beginOf_85 (by decide) ?_
        refine g_pick (pc := 7) [0, 1, 2, 3, 4, 5] [(0, .ref (gAd E b)), (1, .int (nI set)), (2, .int (nI land)), (3, .int (nI means)), (4, .int (oN (sBg (cV M b) set land means i))), (5, .int (nI (i + 1)))] rfl ?_
        refine g_lv (pc := 7) (lv' := [(0, .ref (gAd E b)), (1, .int (nI set)), (2, .int (nI land)), (3, .int (nI means)), (4, .int (oN (sBg (cV M b) set land means (i + 1)))), (5, .int (nI (i + 1)))]) (by rw [show sBg (cV M b) set land means (i + 1) = sBg (cV M b) set land means i from by simp only [sBg, sHas, h31]; rfl]) ?_
        exact ihi (by omega)
      · refine g_aload (pc := 34) 6 rfl dX0_beginOf_34 ?_
        refine fX0_46 (pc := 36) rfl (hB.2.1 i (by omega)).1 dX0_beginOf_36 ?_
        refine g_iload_n (pc := 39) 2 rfl rfl dX0_beginOf_39 ?_
        refine g_callSN (pc := 40) (mc := mX6_has) (rest := []) lX0_93 iX6_has (kX6_has l E M (M.1 ((b + 3 + i)) 0) land (by omega) (by omega)) ⟨Nat.le_of_ble_eq_true rfl, Nat.le_of_ble_eq_true rfl⟩ rfl rfl (Nat.le_of_ble_eq_true rfl) ⟨Nat.zero_le _, Nat.zero_le _⟩ dX0_beginOf_40 (g_rI ?_)
        refine g_ifB_eq (pc := 43) 82 dX0_beginOf_43 (by decide) (fun h43 => ?_) (fun h43 => ?_)
        · refine g_iincN (pc := 82) 1 5 [(0, .ref (gAd E b)), (1, .int (nI set)), (2, .int (nI land)), (3, .int (nI means)), (4, .int (oN (sBg (cV M b) set land means i))), (5, .int (nI (i + 1))), (6, .ref (gAd E ((b + 3 + i))))] rfl dX0_beginOf_82 (by decide) rfl rfl ?_
          refine g_goto (pc := 85) 7 dX0_beginOf_85 (by decide) ?_
          refine g_pick (pc := 7) [0, 1, 2, 3, 4, 5] [(0, .ref (gAd E b)), (1, .int (nI set)), (2, .int (nI land)), (3, .int (nI means)), (4, .int (oN (sBg (cV M b) set land means i))), (5, .int (nI (i + 1)))] rfl ?_
          refine g_lv (pc := 7) (lv' := [(0, .ref (gAd E b)), (1, .int (nI set)), (2, .int (nI land)), (3, .int (nI means)), (4, .int (oN (sBg (cV M b) set land means (i + 1)))), (5, .int (nI (i + 1)))]) (by rw [show sBg (cV M b) set land means (i + 1) = sBg (cV M b) set land means i from by simp only [sBg, sHas, cV, oV, h43, Bool.and_false]; rfl]) ?_
          exact ihi (by omega)
        · refine g_aload (pc := 46) 6 rfl dX0_beginOf_46 ?_
          refine fX0_52 (pc := 48) rfl (hB.2.1 i (by omega)).1 dX0_beginOf_48 ?_
          refine g_iload_n (pc := 51) 3 rfl rfl dX0_beginOf_51 ?_
          refine g_callSN (pc := 52) (mc := mX6_has) (rest := []) lX0_93 iX6_has (kX6_has l E M (M.1 ((b + 3 + i)) 2) means (by omega) (by omega)) ⟨Nat.le_of_ble_eq_true rfl, Nat.le_of_ble_eq_true rfl⟩ rfl rfl (Nat.le_of_ble_eq_true rfl) ⟨Nat.zero_le _, Nat.zero_le _⟩ dX0_beginOf_52 (g_rI ?_)
          refine g_ifB_eq (pc := 55) 82 dX0_beginOf_55 (by decide) (fun h55 => ?_) (fun h55 => ?_)
          · refine g_iincN (pc := 82) 1 5 [(0, .ref (gAd E b)), (1, .int (nI set)), (2, .int (nI land)), (3, .int (nI means)), (4, .int (oN (sBg (cV M b) set land means i))), (5, .int (nI (i + 1))), (6, .ref (gAd E ((b + 3 + i))))] rfl dX0_beginOf_82 (by decide) rfl rfl ?_
            refine g_goto (pc := 85) 7 dX0_beginOf_85 (by decide) ?_
            refine g_pick (pc := 7) [0, 1, 2, 3, 4, 5] [(0, .ref (gAd E b)), (1, .int (nI set)), (2, .int (nI land)), (3, .int (nI means)), (4, .int (oN (sBg (cV M b) set land means i))), (5, .int (nI (i + 1)))] rfl ?_
            refine g_lv (pc := 7) (lv' := [(0, .ref (gAd E b)), (1, .int (nI set)), (2, .int (nI land)), (3, .int (nI means)), (4, .int (oN (sBg (cV M b) set land means (i + 1)))), (5, .int (nI (i + 1)))]) (by rw [show sBg (cV M b) set land means (i + 1) = sBg (cV M b) set land means i from by simp only [sBg, sHas, cV, oV, h55, Bool.and_false]; rfl]) ?_
            exact ihi (by omega)
          · have hHas : sHas (cV M b) set land means i = true := by simp only [sHas, h31, Bool.true_and]; rw [show (cV M b i 0).testBit land = true from h43, show (cV M b i 2).testBit means = true from h55]; rfl
            cases hq : sBg (cV M b) set land means i with
            | none =>
              have hnx : sBg (cV M b) set land means (i + 1) = some (cV M b i 3) := by simp only [sBg, hHas, hq, sLess]; rfl
              refine g_iload (pc := 58) 4 rfl dX0_beginOf_58 ?_
              refine g_bipush (pc := 60) ((-4)) (by decide) dX0_beginOf_60 ?_
              refine g_icmp_eq (pc := 62) 75 dX0_beginOf_62 (by decide) (fun h62 => ?_) (fun h62 => absurd h62 (fun q => q rfl))
              refine g_aload (pc := 75) 6 rfl dX0_beginOf_75 ?_
              refine g_callV (pc := 77) (mc := mX4_firstNow) (rest := []) lX0_86 iX4_firstNow (kX4_firstNow l E M ((b + 3 + i)) (hB.2.1 i (by omega)).1) ⟨Nat.le_of_ble_eq_true rfl, Nat.le_of_ble_eq_true rfl⟩ (hB.2.1 i (by omega)).1 (by decide) (by decide) rfl rfl rfl rfl (Nat.le_of_ble_eq_true rfl) ⟨Nat.zero_le _, Nat.zero_le _⟩ dX0_beginOf_77 (g_rI ?_)
              refine g_istore (pc := 80) [(0, .ref (gAd E b)), (1, .int (nI set)), (2, .int (nI land)), (3, .int (nI means)), (4, .int (nI (M.1 ((b + 3 + i)) 3 + M.1 ((b + 3 + i)) 7))), (5, .int (nI i)), (6, .ref (gAd E ((b + 3 + i))))] dX0_beginOf_80 (by decide) rfl rfl ?_
              refine g_iincN (pc := 82) 1 5 [(0, .ref (gAd E b)), (1, .int (nI set)), (2, .int (nI land)), (3, .int (nI means)), (4, .int (nI (M.1 ((b + 3 + i)) 3 + M.1 ((b + 3 + i)) 7))), (5, .int (nI (i + 1))), (6, .ref (gAd E ((b + 3 + i))))] rfl dX0_beginOf_82 (by decide) rfl rfl ?_
              refine g_goto (pc := 85) 7 dX0_beginOf_85 (by decide) ?_
              refine g_pick (pc := 7) [0, 1, 2, 3, 4, 5] [(0, .ref (gAd E b)), (1, .int (nI set)), (2, .int (nI land)), (3, .int (nI means)), (4, .int (nI (M.1 ((b + 3 + i)) 3 + M.1 ((b + 3 + i)) 7))), (5, .int (nI (i + 1)))] rfl ?_
              refine g_lv (pc := 7) (lv' := [(0, .ref (gAd E b)), (1, .int (nI set)), (2, .int (nI land)), (3, .int (nI means)), (4, .int (oN (sBg (cV M b) set land means (i + 1)))), (5, .int (nI (i + 1)))]) (by rw [hnx]; rfl) ?_
              exact ihi (by omega)
            | some x =>
              have hx := sBg_le (V := cV M b) i x (fun j hj => (by have := hU j (by omega); exact Nat.le_trans this.2.2.2.1 this.2.2.2.2.1)) hq
              refine g_iload (pc := 58) 4 rfl dX0_beginOf_58 ?_
              refine g_bipush (pc := 60) ((-4)) (by decide) dX0_beginOf_60 ?_
              refine g_icmp_eq (pc := 62) 75 dX0_beginOf_62 (by decide) (fun h62 => absurd h62 (oN_ne (x := x) (by omega))) (fun h62 => ?_)
              refine g_aload (pc := 65) 6 rfl dX0_beginOf_65 ?_
              refine g_callV (pc := 67) (mc := mX4_firstNow) (rest := []) lX0_86 iX4_firstNow (kX4_firstNow l E M ((b + 3 + i)) (hB.2.1 i (by omega)).1) ⟨Nat.le_of_ble_eq_true rfl, Nat.le_of_ble_eq_true rfl⟩ (hB.2.1 i (by omega)).1 (by decide) (by decide) rfl rfl rfl rfl (Nat.le_of_ble_eq_true rfl) ⟨Nat.zero_le _, Nat.zero_le _⟩ dX0_beginOf_67 (g_rI ?_)
              refine g_iload (pc := 70) 4 rfl dX0_beginOf_70 ?_
              refine g_icmpN_ge (pc := 72) 82 dX0_beginOf_72 (by decide) (by omega) (by omega) (fun h72 => ?_) (fun h72 => ?_)
              · refine g_iincN (pc := 82) 1 5 [(0, .ref (gAd E b)), (1, .int (nI set)), (2, .int (nI land)), (3, .int (nI means)), (4, .int (nI x)), (5, .int (nI (i + 1))), (6, .ref (gAd E ((b + 3 + i))))] rfl dX0_beginOf_82 (by decide) rfl rfl ?_
                refine g_goto (pc := 85) 7 dX0_beginOf_85 (by decide) ?_
                refine g_pick (pc := 7) [0, 1, 2, 3, 4, 5] [(0, .ref (gAd E b)), (1, .int (nI set)), (2, .int (nI land)), (3, .int (nI means)), (4, .int (nI x)), (5, .int (nI (i + 1)))] rfl ?_
                refine g_lv (pc := 7) (lv' := [(0, .ref (gAd E b)), (1, .int (nI set)), (2, .int (nI land)), (3, .int (nI means)), (4, .int (oN (sBg (cV M b) set land means (i + 1)))), (5, .int (nI (i + 1)))]) (by rw [show sBg (cV M b) set land means (i + 1) = some x from by (simp only [sBg, hHas, hq, sLess, Bool.true_and]; exact if_neg (by simp only [decide_eq_true_eq]; show ¬ (M.1 (b + 3 + i) 3 + M.1 (b + 3 + i) 7 < x); omega))]; rfl) ?_
                exact ihi (by omega)
              · refine g_aload (pc := 75) 6 rfl dX0_beginOf_75 ?_
                refine g_callV (pc := 77) (mc := mX4_firstNow) (rest := []) lX0_86 iX4_firstNow (kX4_firstNow l E M ((b + 3 + i)) (hB.2.1 i (by omega)).1) ⟨Nat.le_of_ble_eq_true rfl, Nat.le_of_ble_eq_true rfl⟩ (hB.2.1 i (by omega)).1 (by decide) (by decide) rfl rfl rfl rfl (Nat.le_of_ble_eq_true rfl) ⟨Nat.zero_le _, Nat.zero_le _⟩ dX0_beginOf_77 (g_rI ?_)
                refine g_istore (pc := 80) [(0, .ref (gAd E b)), (1, .int (nI set)), (2, .int (nI land)), (3, .int (nI means)), (4, .int (nI (M.1 ((b + 3 + i)) 3 + M.1 ((b + 3 + i)) 7))), (5, .int (nI i)), (6, .ref (gAd E ((b + 3 + i))))] dX0_beginOf_80 (by decide) rfl rfl ?_
                refine g_iincN (pc := 82) 1 5 [(0, .ref (gAd E b)), (1, .int (nI set)), (2, .int (nI land)), (3, .int (nI means)), (4, .int (nI (M.1 ((b + 3 + i)) 3 + M.1 ((b + 3 + i)) 7))), (5, .int (nI (i + 1))), (6, .ref (gAd E ((b + 3 + i))))] rfl dX0_beginOf_82 (by decide) rfl rfl ?_
                refine g_goto (pc := 85) 7 dX0_beginOf_85 (by decide) ?_
                refine g_pick (pc := 7) [0, 1, 2, 3, 4, 5] [(0, .ref (gAd E b)), (1, .int (nI set)), (2, .int (nI land)), (3, .int (nI means)), (4, .int (nI (M.1 ((b + 3 + i)) 3 + M.1 ((b + 3 + i)) 7))), (5, .int (nI (i + 1)))] rfl ?_
                refine g_lv (pc := 7) (lv' := [(0, .ref (gAd E b)), (1, .int (nI set)), (2, .int (nI land)), (3, .int (nI means)), (4, .int (oN (sBg (cV M b) set land means (i + 1)))), (5, .int (nI (i + 1)))]) (by rw [show sBg (cV M b) set land means (i + 1) = some (cV M b i 3) from by (simp only [sBg, hHas, hq, sLess, Bool.true_and]; exact if_pos (by simp only [decide_eq_true_eq]; show M.1 (b + 3 + i) 3 + M.1 (b + 3 + i) 7 < x; omega))]; rfl) ?_
                exact ihi (by omega)
  refine g_lv (pc := 7) (lv' := [(0, .ref (gAd E b)), (1, .int (nI set)), (2, .int (nI land)), (3, .int (nI means)), (4, .int (oN (sBg (cV M b) set land means 0))), (5, .int (nI 0))]) rfl ?_
  exact lp7 0 (by omega)
