set_option maxRecDepth 100000 in
set_option maxHeartbeats 4000000 in
theorem kX6_howManyHave (l : Launch) (E : gEnv) (M : gMem) (b b' : Nat) (hS : cS E M b b') (hO : cO M b) (hsg : M.1 1 5 < 1024) (row wk : Nat) (hr : row < 96) (hw : wk ≤ 51) : gMetI l E mX6_howManyHave 2 [.ref (gAd E 1), .int (nI row), .int (nI wk)] M (nI (sSold (cV M b) (M.1 b 1) (M.1 1 5) row wk)) := by
  have hB := hS.B
  have hO' := hO
  obtain ⟨hn, hk, hft, hto, hU, hH⟩ := hO
  have hO := hO'
  refine gMet_of (mm := mX6_howManyHave) (h := 2) (M := M) [(0, .ref (gAd E 1)), (1, .int (nI row)), (2, .int (nI wk))] (by decide) (Nat.le_of_ble_eq_true rfl) rfl ?_
  refine g_iconst (pc := 0) (nI 0) (by decide) dX6_howManyHave_0 ?_
  refine g_istore_n (pc := 1) rfl [(0, .ref (gAd E 1)), (1, .int (nI row)), (2, .int (nI wk)), (3, .int (nI 0))] dX6_howManyHave_1 (by decide) rfl rfl ?_
  refine g_iconst (pc := 2) (nI 0) (by decide) dX6_howManyHave_2 ?_
  refine g_istore (pc := 3) [(0, .ref (gAd E 1)), (1, .int (nI row)), (2, .int (nI wk)), (3, .int (nI 0)), (4, .int (nI 0))] dX6_howManyHave_3 (by decide) rfl rfl ?_
  have lp5 : ∀ i, i ≤ M.1 b 1 → gG l (gV0 2 E (fun v u => v = some (.int (nI (sSold (cV M b) (M.1 b 1) (M.1 1 5) row wk))) ∧ u = M)) mX6_howManyHave E (0, 0) M 5 [(0, .ref (gAd E 1)), (1, .int (nI row)), (2, .int (nI wk)), (3, .int (nI (sSold (cV M b) i (M.1 1 5) row wk))), (4, .int (nI i))] [] := by
    refine gloop (fun i hii ihi => ?_)
    refine g_iload (pc := 5) 4 rfl dX6_howManyHave_5 ?_
    refine g_aload_n (pc := 7) 0 rfl rfl dX6_howManyHave_7 ?_
    refine fX6_23 (pc := 8) b rfl hS.s1 hS.rb hS.b0 dX6_howManyHave_8 ?_
    refine fX6_60 (pc := 11) rfl hB.1.1 dX6_howManyHave_11 ?_
    refine g_icmpN_ge (pc := 14) 68 dX6_howManyHave_14 (by decide) (by omega) (by omega) (fun h14 => ?_) (fun h14 => ?_)
    · refine g_iload_n (pc := 68) 3 rfl rfl dX6_howManyHave_68 ?_
      exact g_iret (pc := 69) rfl dX6_howManyHave_69 ⟨congrArg (fun z => some (Value.int z)) (by rw [show i = M.1 b 1 by omega]), rfl⟩
    · refine g_aload_n (pc := 17) 0 rfl rfl dX6_howManyHave_17 ?_
      refine fX6_23 (pc := 18) b rfl hS.s1 hS.rb hS.b0 dX6_howManyHave_18 ?_
      refine fX6_93 (pc := 21) (b + 1) rfl hB.1.1 hB.1.2.2.2.2.2.1 (by omega) dX6_howManyHave_21 ?_
      refine g_iload (pc := 24) 4 rfl dX6_howManyHave_24 ?_
      refine g_aaload (pc := 26) (t0 := 2) (r := (b + 3 + i)) hB.1.2.1 (by decide) rfl (by rw [hB.1.2.2.1]; omega) (by rw [hB.1.2.2.1]; omega) (hB.2.1 i (by omega)).2 (by omega) dX6_howManyHave_26 ?_
      refine g_astore (pc := 27) [(0, .ref (gAd E 1)), (1, .int (nI row)), (2, .int (nI wk)), (3, .int (nI (sSold (cV M b) i (M.1 1 5) row wk))), (4, .int (nI i)), (5, .ref (gAd E ((b + 3 + i))))] dX6_howManyHave_27 (by decide) rfl rfl ?_
      refine g_aload_n (pc := 29) 0 rfl rfl dX6_howManyHave_29 ?_
      refine g_iload (pc := 30) 4 rfl dX6_howManyHave_30 ?_
      refine g_callV (pc := 32) (mc := mX6_isSigned) (rest := []) lX6_90 iX6_isSigned (kX6_isSigned l E M b b' hS hO hsg i (by omega)) ⟨Nat.le_of_ble_eq_true rfl, Nat.le_of_ble_eq_true rfl⟩ hS.s1 (by decide) (by decide) rfl rfl rfl rfl (Nat.le_of_ble_eq_true rfl) ⟨Nat.zero_le _, Nat.zero_le _⟩ dX6_howManyHave_32 (g_rI ?_)
      refine g_ifB_eq (pc := 35) 62 dX6_howManyHave_35 (by decide) (fun h35 => ?_) (fun h35 => ?_)
      · refine g_iincN (pc := 62) 1 4 [(0, .ref (gAd E 1)), (1, .int (nI row)), (2, .int (nI wk)), (3, .int (nI (sSold (cV M b) i (M.1 1 5) row wk))), (4, .int (nI (i + 1))), (5, .ref (gAd E ((b + 3 + i))))] rfl dX6_howManyHave_62 (by decide) rfl rfl ?_
        refine g_goto (pc := 65) 5 dX6_howManyHave_65 (by decide) ?_
        refine g_pick (pc := 5) [0, 1, 2, 3, 4] [(0, .ref (gAd E 1)), (1, .int (nI row)), (2, .int (nI wk)), (3, .int (nI (sSold (cV M b) i (M.1 1 5) row wk))), (4, .int (nI (i + 1)))] rfl ?_
        refine g_lv (pc := 5) (lv' := [(0, .ref (gAd E 1)), (1, .int (nI row)), (2, .int (nI wk)), (3, .int (nI (sSold (cV M b) (i + 1) (M.1 1 5) row wk))), (4, .int (nI (i + 1)))]) (by rw [show sSold (cV M b) (i + 1) (M.1 1 5) row wk = sSold (cV M b) i (M.1 1 5) row wk + (if ((M.1 1 5).testBit i && sPt (cV M b) i row wk) then 1 else 0) from rfl, show ((M.1 1 5).testBit i && sPt (cV M b) i row wk) = false from by rw [h35]; rfl]; rfl) ?_
        exact ihi (by omega)
      · refine g_aload (pc := 38) 5 rfl dX6_howManyHave_38 ?_
        refine g_iload_n (pc := 40) 1 rfl rfl dX6_howManyHave_40 ?_
        refine g_callV (pc := 41) (mc := mX4_hasCell) (rest := []) lX6_229 iX4_hasCell (kX4_hasCell l E M ((b + 3 + i)) row (hB.2.1 i (by omega)).1 (hU i h14) (by omega)) ⟨Nat.le_of_ble_eq_true rfl, Nat.le_of_ble_eq_true rfl⟩ (hB.2.1 i (by omega)).1 (by decide) (by decide) rfl rfl rfl rfl (Nat.le_of_ble_eq_true rfl) ⟨Nat.zero_le _, Nat.zero_le _⟩ dX6_howManyHave_41 (g_rI ?_)
        refine g_ifB_eq (pc := 44) 62 dX6_howManyHave_44 (by decide) (fun h44 => ?_) (fun h44 => ?_)
        · refine g_iincN (pc := 62) 1 4 [(0, .ref (gAd E 1)), (1, .int (nI row)), (2, .int (nI wk)), (3, .int (nI (sSold (cV M b) i (M.1 1 5) row wk))), (4, .int (nI (i + 1))), (5, .ref (gAd E ((b + 3 + i))))] rfl dX6_howManyHave_62 (by decide) rfl rfl ?_
          refine g_goto (pc := 65) 5 dX6_howManyHave_65 (by decide) ?_
          refine g_pick (pc := 5) [0, 1, 2, 3, 4] [(0, .ref (gAd E 1)), (1, .int (nI row)), (2, .int (nI wk)), (3, .int (nI (sSold (cV M b) i (M.1 1 5) row wk))), (4, .int (nI (i + 1)))] rfl ?_
          refine g_lv (pc := 5) (lv' := [(0, .ref (gAd E 1)), (1, .int (nI row)), (2, .int (nI wk)), (3, .int (nI (sSold (cV M b) (i + 1) (M.1 1 5) row wk))), (4, .int (nI (i + 1)))]) (by rw [show sSold (cV M b) (i + 1) (M.1 1 5) row wk = sSold (cV M b) i (M.1 1 5) row wk + (if ((M.1 1 5).testBit i && sPt (cV M b) i row wk) then 1 else 0) from rfl, show ((M.1 1 5).testBit i && sPt (cV M b) i row wk) = false from by rw [sPt_eq (V := cV M b) (i := i) (row := row) (wk := wk) (hU i h14).2.2.2.1, show hCell (cV M b i) row = false from h44]; simp]; rfl) ?_
          exact ihi (by omega)
        · refine g_aload (pc := 47) 5 rfl dX6_howManyHave_47 ?_
          refine g_callV (pc := 49) (mc := mX4_weeksNow) (rest := []) lX6_232 iX4_weeksNow (kX4_weeksNow l E M ((b + 3 + i)) (hB.2.1 i (by omega)).1 (hU i h14)) ⟨Nat.le_of_ble_eq_true rfl, Nat.le_of_ble_eq_true rfl⟩ (hB.2.1 i (by omega)).1 (by decide) (by decide) rfl rfl rfl rfl (Nat.le_of_ble_eq_true rfl) ⟨Nat.zero_le _, Nat.zero_le _⟩ dX6_howManyHave_49 (g_rL ?_)
          refine g_iload_n (pc := 52) 2 rfl rfl dX6_howManyHave_52 ?_
          refine g_callS (pc := 53) (mc := mX6_hasWeek) (rest := []) lX6_197 iX6_hasWeek (kX6_hasWeek l E M (sMask (oV M ((b + 3 + i)) 3) (oV M ((b + 3 + i)) 4)) wk (Nat.lt_trans (sMask_lt (hU i h14).2.2.2.2.1) (by decide)) (by omega)) ⟨Nat.le_of_ble_eq_true rfl, Nat.le_of_ble_eq_true rfl⟩ rfl rfl (Nat.le_of_ble_eq_true rfl) ⟨Nat.zero_le _, Nat.zero_le _⟩ dX6_howManyHave_53 (g_rI ?_)
          refine g_ifB_eq (pc := 56) 62 dX6_howManyHave_56 (by decide) (fun h56 => ?_) (fun h56 => ?_)
          · refine g_iincN (pc := 62) 1 4 [(0, .ref (gAd E 1)), (1, .int (nI row)), (2, .int (nI wk)), (3, .int (nI (sSold (cV M b) i (M.1 1 5) row wk))), (4, .int (nI (i + 1))), (5, .ref (gAd E ((b + 3 + i))))] rfl dX6_howManyHave_62 (by decide) rfl rfl ?_
            refine g_goto (pc := 65) 5 dX6_howManyHave_65 (by decide) ?_
            refine g_pick (pc := 5) [0, 1, 2, 3, 4] [(0, .ref (gAd E 1)), (1, .int (nI row)), (2, .int (nI wk)), (3, .int (nI (sSold (cV M b) i (M.1 1 5) row wk))), (4, .int (nI (i + 1)))] rfl ?_
            refine g_lv (pc := 5) (lv' := [(0, .ref (gAd E 1)), (1, .int (nI row)), (2, .int (nI wk)), (3, .int (nI (sSold (cV M b) (i + 1) (M.1 1 5) row wk))), (4, .int (nI (i + 1)))]) (by rw [show sSold (cV M b) (i + 1) (M.1 1 5) row wk = sSold (cV M b) i (M.1 1 5) row wk + (if ((M.1 1 5).testBit i && sPt (cV M b) i row wk) then 1 else 0) from rfl, show ((M.1 1 5).testBit i && sPt (cV M b) i row wk) = false from by rw [sPt_eq (V := cV M b) (i := i) (row := row) (wk := wk) (hU i h14).2.2.2.1, show hCell (cV M b i) row = true from h44, show (sMask (cV M b i 3) (cV M b i 4)).testBit wk = false from h56, h35]; rfl]; rfl) ?_
            exact ihi (by omega)
          · refine g_iincN (pc := 59) 1 3 [(0, .ref (gAd E 1)), (1, .int (nI row)), (2, .int (nI wk)), (3, .int (nI (sSold (cV M b) i (M.1 1 5) row wk + 1))), (4, .int (nI i)), (5, .ref (gAd E ((b + 3 + i))))] rfl dX6_howManyHave_59 (by decide) rfl rfl ?_
            refine g_iincN (pc := 62) 1 4 [(0, .ref (gAd E 1)), (1, .int (nI row)), (2, .int (nI wk)), (3, .int (nI (sSold (cV M b) i (M.1 1 5) row wk + 1))), (4, .int (nI (i + 1))), (5, .ref (gAd E ((b + 3 + i))))] rfl dX6_howManyHave_62 (by decide) rfl rfl ?_
            refine g_goto (pc := 65) 5 dX6_howManyHave_65 (by decide) ?_
            refine g_pick (pc := 5) [0, 1, 2, 3, 4] [(0, .ref (gAd E 1)), (1, .int (nI row)), (2, .int (nI wk)), (3, .int (nI (sSold (cV M b) i (M.1 1 5) row wk + 1))), (4, .int (nI (i + 1)))] rfl ?_
            refine g_lv (pc := 5) (lv' := [(0, .ref (gAd E 1)), (1, .int (nI row)), (2, .int (nI wk)), (3, .int (nI (sSold (cV M b) (i + 1) (M.1 1 5) row wk))), (4, .int (nI (i + 1)))]) (by rw [show sSold (cV M b) (i + 1) (M.1 1 5) row wk = sSold (cV M b) i (M.1 1 5) row wk + (if ((M.1 1 5).testBit i && sPt (cV M b) i row wk) then 1 else 0) from rfl, show ((M.1 1 5).testBit i && sPt (cV M b) i row wk) = true from by rw [sPt_eq (V := cV M b) (i := i) (row := row) (wk := wk) (hU i h14).2.2.2.1, show hCell (cV M b i) row = true from h44, show (sMask (cV M b i 3) (cV M b i 4)).testBit wk = true from h56, h35]; rfl]; rfl) ?_
            exact ihi (by omega)
  refine g_lv (pc := 5) (lv' := [(0, .ref (gAd E 1)), (1, .int (nI row)), (2, .int (nI wk)), (3, .int (nI (sSold (cV M b) 0 (M.1 1 5) row wk))), (4, .int (nI 0))]) rfl ?_
  exact lp5 0 (by omega)
set_option maxRecDepth 100000 in
set_option maxHeartbeats 4000000 in
theorem kX6_weeksOf (l : Launch) (E : gEnv) (M : gMem) (b b' : Nat) (hS : cS E M b b') (hO : cO M b) (hsg : M.1 1 5 < 1024) (row q : Nat) (hr : row < 96) (hq : q ≤ 4) : gMetL l E mX6_weeksOf 2 [.ref (gAd E 1), .int (nI row), .int (nI q)] M (lN (sWeeks (cV M b) (M.1 b 1) (M.1 1 5) (M.1 b 4) (M.1 b 5) row q)) := by
  have hB := hS.B
  have hO' := hO
  obtain ⟨hn, hk, hft, hto, hU, hH⟩ := hO
  have hO := hO'
  refine gMet_of (mm := mX6_weeksOf) (h := 2) (M := M) [(0, .ref (gAd E 1)), (1, .int (nI row)), (2, .int (nI q))] (by decide) (Nat.le_of_ble_eq_true rfl) rfl ?_
  refine g_lconst (pc := 0) (lN 0) (by decide) dX6_weeksOf_0 ?_
  refine g_lstore_n (pc := 1) rfl [(0, .ref (gAd E 1)), (1, .int (nI row)), (2, .int (nI q)), (3, .long (lN 0))] dX6_weeksOf_1 (by decide) rfl rfl ?_
  refine g_lconst (pc := 2) (lN 0) (by decide) dX6_weeksOf_2 ?_
  refine g_lstore (pc := 3) [(0, .ref (gAd E 1)), (1, .int (nI row)), (2, .int (nI q)), (3, .long (lN 0)), (5, .long (lN 0))] dX6_weeksOf_3 (by decide) rfl rfl ?_
  refine g_lconst (pc := 5) (lN 0) (by decide) dX6_weeksOf_5 ?_
  refine g_lstore (pc := 6) [(0, .ref (gAd E 1)), (1, .int (nI row)), (2, .int (nI q)), (3, .long (lN 0)), (5, .long (lN 0)), (7, .long (lN 0))] dX6_weeksOf_6 (by decide) rfl rfl ?_
  refine g_iconst (pc := 8) (nI 0) (by decide) dX6_weeksOf_8 ?_
  refine g_istore (pc := 9) [(0, .ref (gAd E 1)), (1, .int (nI row)), (2, .int (nI q)), (3, .long (lN 0)), (5, .long (lN 0)), (7, .long (lN 0)), (9, .int (nI 0))] dX6_weeksOf_9 (by decide) rfl rfl ?_
  have lp11 : ∀ i, i ≤ M.1 b 1 → gG l (gV0 2 E (fun v u => v = some (.long (lN (sWeeks (cV M b) (M.1 b 1) (M.1 1 5) (M.1 b 4) (M.1 b 5) row q))) ∧ u = M)) mX6_weeksOf E (0, 0) M 11 [(0, .ref (gAd E 1)), (1, .int (nI row)), (2, .int (nI q)), (3, .long (lN (mS (cV M b) (M.1 1 5) row i))), (5, .long (lN (mT (cV M b) (M.1 1 5) row i))), (7, .long (lN (mA (cV M b) (M.1 1 5) row i))), (9, .int (nI i))] [] := by
    refine gloop (fun i hii ihi => ?_)
    refine g_iload (pc := 11) 6 rfl dX6_weeksOf_11 ?_
    refine g_aload_n (pc := 13) 0 rfl rfl dX6_weeksOf_13 ?_
    refine fX6_23 (pc := 14) b rfl hS.s1 hS.rb hS.b0 dX6_weeksOf_14 ?_
    refine fX6_60 (pc := 17) rfl hB.1.1 dX6_weeksOf_17 ?_
    refine g_icmpN_ge (pc := 20) 95 dX6_weeksOf_20 (by decide) (by omega) (by omega) (fun h20 => ?_) (fun h20 => ?_)
    · refine g_aload_n (pc := 95) 0 rfl rfl dX6_weeksOf_95 ?_
      refine fX6_23 (pc := 96) b rfl hS.s1 hS.rb hS.b0 dX6_weeksOf_96 ?_
      refine fX6_181 (pc := 99) rfl hB.1.1 dX6_weeksOf_99 ?_
      refine g_aload_n (pc := 102) 0 rfl rfl dX6_weeksOf_102 ?_
      refine fX6_23 (pc := 103) b rfl hS.s1 hS.rb hS.b0 dX6_weeksOf_103 ?_
      refine fX6_184 (pc := 106) rfl hB.1.1 dX6_weeksOf_106 ?_
      refine g_callS (pc := 109) (mc := mX6_weeksFromTo) (rest := []) lX6_236 iX6_weeksFromTo (kX6_weeksFromTo l E M (M.1 b 4) (M.1 b 5) (by omega) (by omega)) ⟨Nat.le_of_ble_eq_true rfl, Nat.le_of_ble_eq_true rfl⟩ rfl rfl (Nat.le_of_ble_eq_true rfl) ⟨Nat.zero_le _, Nat.zero_le _⟩ dX6_weeksOf_109 (g_rL ?_)
      refine g_lstore (pc := 112) [(0, .ref (gAd E 1)), (1, .int (nI row)), (2, .int (nI q)), (3, .long (lN (mS (cV M b) (M.1 1 5) row i))), (5, .long (lN (mT (cV M b) (M.1 1 5) row i))), (7, .long (lN (mA (cV M b) (M.1 1 5) row i))), (9, .long (lN (sMask (M.1 b 4) (M.1 b 5))))] dX6_weeksOf_112 (by decide) rfl rfl ?_
      have hie : i = M.1 b 1 := by omega
      have hS1 := mS_lt (V := cV M b) (sg := M.1 1 5) (row := row) i (fun i hi => (hU i (by omega)).2.2.2.2.1)
      have hT1 := mT_lt (V := cV M b) (sg := M.1 1 5) (row := row) i (fun i hi => (hU i (by omega)).2.2.2.2.1)
      have hA1 := mA_lt (V := cV M b) (sg := M.1 1 5) (row := row) i (fun i hi => (hU i (by omega)).2.2.2.2.1)
      have hmk := sMask_lt (f := M.1 b 4) hto
      rcases (show q = 0 ∨ q = 1 ∨ q = 2 ∨ q = 3 ∨ q = 4 by omega) with rfl | rfl | rfl | rfl | rfl
      · refine g_iload_n (pc := 114) 2 rfl rfl dX6_weeksOf_114 ?_
        refine g_tableOut (pc := 115) 170 dX6_weeksOf_115 (by decide) (by decide) ?_
        refine g_lload (pc := 170) 6 rfl dX6_weeksOf_170 ?_
        exact g_lret (pc := 172) rfl dX6_weeksOf_172 ⟨congrArg (fun z => some (Value.long z)) (by rfl), rfl⟩
      · refine g_iload_n (pc := 114) 2 rfl rfl dX6_weeksOf_114 ?_
        refine g_tableIn (pc := 115) (off := 29) 144 dX6_weeksOf_115 (by decide) (by decide) (by decide) (by decide) ?_
        refine g_lload (pc := 144) 6 rfl dX6_weeksOf_144 ?_
        refine g_lload_n (pc := 146) 3 rfl rfl dX6_weeksOf_146 ?_
        refine g_land (pc := 147) dX6_weeksOf_147 ?_
        exact g_lret (pc := 148) rfl dX6_weeksOf_148 ⟨congrArg (fun z => some (Value.long z)) (by rw [wb_and' hmk (by omega), hie]; rfl), rfl⟩
      · refine g_iload_n (pc := 114) 2 rfl rfl dX6_weeksOf_114 ?_
        refine g_tableIn (pc := 115) (off := 34) 149 dX6_weeksOf_115 (by decide) (by decide) (by decide) (by decide) ?_
        refine g_lload (pc := 149) 6 rfl dX6_weeksOf_149 ?_
        refine g_lload (pc := 151) 4 rfl dX6_weeksOf_151 ?_
        refine g_land (pc := 153) dX6_weeksOf_153 ?_
        exact g_lret (pc := 154) rfl dX6_weeksOf_154 ⟨congrArg (fun z => some (Value.long z)) (by rw [wb_and' hmk (by omega), hie]; rfl), rfl⟩
      · refine g_iload_n (pc := 114) 2 rfl rfl dX6_weeksOf_114 ?_
        refine g_tableIn (pc := 115) (off := 40) 155 dX6_weeksOf_115 (by decide) (by decide) (by decide) (by decide) ?_
        refine g_lload (pc := 155) 6 rfl dX6_weeksOf_155 ?_
        refine g_lload (pc := 157) 5 rfl dX6_weeksOf_157 ?_
        refine g_land (pc := 159) dX6_weeksOf_159 ?_
        exact g_lret (pc := 160) rfl dX6_weeksOf_160 ⟨congrArg (fun z => some (Value.long z)) (by rw [wb_and' hmk (by omega), hie]; rfl), rfl⟩
      · refine g_iload_n (pc := 114) 2 rfl rfl dX6_weeksOf_114 ?_
        refine g_tableIn (pc := 115) (off := 46) 161 dX6_weeksOf_115 (by decide) (by decide) (by decide) (by decide) ?_
        refine g_lload (pc := 161) 6 rfl dX6_weeksOf_161 ?_
        refine g_lload_n (pc := 163) 3 rfl rfl dX6_weeksOf_163 ?_
        refine g_ldc2 (pc := 164) (-1) cX6_239 dX6_weeksOf_164 ?_
        refine g_lxor (pc := 167) dX6_weeksOf_167 ?_
        refine g_topl (pc := 168) (x' := lN (18446744073709551616 - (mS (cV M b) (M.1 1 5) row i + 1))) (wl_not (by omega)) ?_
        refine g_land (pc := 168) dX6_weeksOf_168 ?_
        exact g_lret (pc := 169) rfl dX6_weeksOf_169 ⟨congrArg (fun z => some (Value.long z)) (by rw [wb_and' hmk (by omega), hie]; rfl), rfl⟩
    · have hS1 := mS_lt (V := cV M b) (sg := M.1 1 5) (row := row) i (fun i hi => (hU i (by omega)).2.2.2.2.1)
      have hT1 := mT_lt (V := cV M b) (sg := M.1 1 5) (row := row) i (fun i hi => (hU i (by omega)).2.2.2.2.1)
      have hA1 := mA_lt (V := cV M b) (sg := M.1 1 5) (row := row) i (fun i hi => (hU i (by omega)).2.2.2.2.1)
      have hm1 := sMask_lt (f := cV M b i 3) (hU i h20).2.2.2.2.1
      have h5 : M.1 (b + 3 + i) 5 ≤ 1 := (hU i h20).2.2.2.2.2.1
      refine g_aload_n (pc := 23) 0 rfl rfl dX6_weeksOf_23 ?_
      refine fX6_23 (pc := 24) b rfl hS.s1 hS.rb hS.b0 dX6_weeksOf_24 ?_
      refine fX6_93 (pc := 27) (b + 1) rfl hB.1.1 hB.1.2.2.2.2.2.1 (by omega) dX6_weeksOf_27 ?_
      refine g_iload (pc := 30) 6 rfl dX6_weeksOf_30 ?_
      refine g_aaload (pc := 32) (t0 := 2) (r := (b + 3 + i)) hB.1.2.1 (by decide) rfl (by rw [hB.1.2.2.1]; omega) (by rw [hB.1.2.2.1]; omega) (hB.2.1 i (by omega)).2 (by omega) dX6_weeksOf_32 ?_
      refine g_astore (pc := 33) [(0, .ref (gAd E 1)), (1, .int (nI row)), (2, .int (nI q)), (3, .long (lN (mS (cV M b) (M.1 1 5) row i))), (5, .long (lN (mT (cV M b) (M.1 1 5) row i))), (7, .long (lN (mA (cV M b) (M.1 1 5) row i))), (9, .int (nI i)), (10, .ref (gAd E ((b + 3 + i))))] dX6_weeksOf_33 (by decide) rfl rfl ?_
      refine g_aload_n (pc := 35) 0 rfl rfl dX6_weeksOf_35 ?_
      refine g_iload (pc := 36) 6 rfl dX6_weeksOf_36 ?_
      refine g_callV (pc := 38) (mc := mX6_isSigned) (rest := []) lX6_90 iX6_isSigned (kX6_isSigned l E M b b' hS hO hsg i (by omega)) ⟨Nat.le_of_ble_eq_true rfl, Nat.le_of_ble_eq_true rfl⟩ hS.s1 (by decide) (by decide) rfl rfl rfl rfl (Nat.le_of_ble_eq_true rfl) ⟨Nat.zero_le _, Nat.zero_le _⟩ dX6_weeksOf_38 (g_rI ?_)
      refine g_ifB_eq (pc := 41) 89 dX6_weeksOf_41 (by decide) (fun h41 => ?_) (fun h41 => ?_)
      · refine g_iincN (pc := 89) 1 6 [(0, .ref (gAd E 1)), (1, .int (nI row)), (2, .int (nI q)), (3, .long (lN (mS (cV M b) (M.1 1 5) row i))), (5, .long (lN (mT (cV M b) (M.1 1 5) row i))), (7, .long (lN (mA (cV M b) (M.1 1 5) row i))), (9, .int (nI (i + 1))), (10, .ref (gAd E ((b + 3 + i))))] rfl dX6_weeksOf_89 (by decide) rfl rfl ?_
        refine g_goto (pc := 92) 11 dX6_weeksOf_92 (by decide) ?_
        refine g_pick (pc := 11) [0, 1, 2, 3, 4, 5, 6] [(0, .ref (gAd E 1)), (1, .int (nI row)), (2, .int (nI q)), (3, .long (lN (mS (cV M b) (M.1 1 5) row i))), (5, .long (lN (mT (cV M b) (M.1 1 5) row i))), (7, .long (lN (mA (cV M b) (M.1 1 5) row i))), (9, .int (nI (i + 1)))] rfl ?_
        refine g_lv (pc := 11) (lv' := [(0, .ref (gAd E 1)), (1, .int (nI row)), (2, .int (nI q)), (3, .long (lN (mS (cV M b) (M.1 1 5) row (i + 1)))), (5, .long (lN (mT (cV M b) (M.1 1 5) row (i + 1)))), (7, .long (lN (mA (cV M b) (M.1 1 5) row (i + 1)))), (9, .int (nI (i + 1)))]) (by simp only [mS, mT, mA, show mC (cV M b) (M.1 1 5) row i = false from by simp only [mC, h41]; rfl]; rfl) ?_
        exact ihi (by omega)
      · refine g_aload (pc := 44) 7 rfl dX6_weeksOf_44 ?_
        refine g_iload_n (pc := 46) 1 rfl rfl dX6_weeksOf_46 ?_
        refine g_callV (pc := 47) (mc := mX4_hasCell) (rest := []) lX6_229 iX4_hasCell (kX4_hasCell l E M ((b + 3 + i)) row (hB.2.1 i (by omega)).1 (hU i h20) (by omega)) ⟨Nat.le_of_ble_eq_true rfl, Nat.le_of_ble_eq_true rfl⟩ (hB.2.1 i (by omega)).1 (by decide) (by decide) rfl rfl rfl rfl (Nat.le_of_ble_eq_true rfl) ⟨Nat.zero_le _, Nat.zero_le _⟩ dX6_weeksOf_47 (g_rI ?_)
        refine g_ifB_eq (pc := 50) 89 dX6_weeksOf_50 (by decide) (fun h50 => ?_) (fun h50 => ?_)
        · refine g_iincN (pc := 89) 1 6 [(0, .ref (gAd E 1)), (1, .int (nI row)), (2, .int (nI q)), (3, .long (lN (mS (cV M b) (M.1 1 5) row i))), (5, .long (lN (mT (cV M b) (M.1 1 5) row i))), (7, .long (lN (mA (cV M b) (M.1 1 5) row i))), (9, .int (nI (i + 1))), (10, .ref (gAd E ((b + 3 + i))))] rfl dX6_weeksOf_89 (by decide) rfl rfl ?_
          refine g_goto (pc := 92) 11 dX6_weeksOf_92 (by decide) ?_
          refine g_pick (pc := 11) [0, 1, 2, 3, 4, 5, 6] [(0, .ref (gAd E 1)), (1, .int (nI row)), (2, .int (nI q)), (3, .long (lN (mS (cV M b) (M.1 1 5) row i))), (5, .long (lN (mT (cV M b) (M.1 1 5) row i))), (7, .long (lN (mA (cV M b) (M.1 1 5) row i))), (9, .int (nI (i + 1)))] rfl ?_
          refine g_lv (pc := 11) (lv' := [(0, .ref (gAd E 1)), (1, .int (nI row)), (2, .int (nI q)), (3, .long (lN (mS (cV M b) (M.1 1 5) row (i + 1)))), (5, .long (lN (mT (cV M b) (M.1 1 5) row (i + 1)))), (7, .long (lN (mA (cV M b) (M.1 1 5) row (i + 1)))), (9, .int (nI (i + 1)))]) (by simp only [mS, mT, mA, show mC (cV M b) (M.1 1 5) row i = false from by simp only [mC]; rw [show hCell (cV M b i) row = false from h50]; simp]; rfl) ?_
          exact ihi (by omega)
        · refine g_aload (pc := 53) 7 rfl dX6_weeksOf_53 ?_
          refine g_callV (pc := 55) (mc := mX4_weeksNow) (rest := []) lX6_232 iX4_weeksNow (kX4_weeksNow l E M ((b + 3 + i)) (hB.2.1 i (by omega)).1 (hU i h20)) ⟨Nat.le_of_ble_eq_true rfl, Nat.le_of_ble_eq_true rfl⟩ (hB.2.1 i (by omega)).1 (by decide) (by decide) rfl rfl rfl rfl (Nat.le_of_ble_eq_true rfl) ⟨Nat.zero_le _, Nat.zero_le _⟩ dX6_weeksOf_55 (g_rL ?_)
          refine g_lstore (pc := 58) [(0, .ref (gAd E 1)), (1, .int (nI row)), (2, .int (nI q)), (3, .long (lN (mS (cV M b) (M.1 1 5) row i))), (5, .long (lN (mT (cV M b) (M.1 1 5) row i))), (7, .long (lN (mA (cV M b) (M.1 1 5) row i))), (9, .int (nI i)), (10, .ref (gAd E ((b + 3 + i)))), (11, .long (lN (sMask (oV M ((b + 3 + i)) 3) (oV M ((b + 3 + i)) 4))))] dX6_weeksOf_58 (by decide) rfl rfl ?_
          refine g_lload (pc := 60) 4 rfl dX6_weeksOf_60 ?_
          refine g_lload_n (pc := 62) 3 rfl rfl dX6_weeksOf_62 ?_
          refine g_lload (pc := 63) 8 rfl dX6_weeksOf_63 ?_
          refine g_land (pc := 65) dX6_weeksOf_65 ?_
          refine g_topl (pc := 66) (x' := lN (mS (cV M b) (M.1 1 5) row i &&& sMask (oV M (b + 3 + i) 3) (oV M (b + 3 + i) 4))) (wb_and' hS1 (Nat.lt_trans hm1 (by decide))) ?_
          refine g_lor (pc := 66) dX6_weeksOf_66 ?_
          refine g_topl (pc := 67) (x' := lN (mT (cV M b) (M.1 1 5) row i ||| (mS (cV M b) (M.1 1 5) row i &&& sMask (oV M (b + 3 + i) 3) (oV M (b + 3 + i) 4)))) (wb_or' hT1 (and_lt52 hS1)) ?_
          refine g_lstore (pc := 67) [(0, .ref (gAd E 1)), (1, .int (nI row)), (2, .int (nI q)), (3, .long (lN (mS (cV M b) (M.1 1 5) row i))), (5, .long (lN (mT (cV M b) (M.1 1 5) row i ||| (mS (cV M b) (M.1 1 5) row i &&& sMask (oV M (b + 3 + i) 3) (oV M (b + 3 + i) 4))))), (7, .long (lN (mA (cV M b) (M.1 1 5) row i))), (9, .int (nI i)), (10, .ref (gAd E ((b + 3 + i)))), (11, .long (lN (sMask (oV M ((b + 3 + i)) 3) (oV M ((b + 3 + i)) 4))))] dX6_weeksOf_67 (by decide) rfl rfl ?_
          refine g_lload_n (pc := 69) 3 rfl rfl dX6_weeksOf_69 ?_
          refine g_lload (pc := 70) 8 rfl dX6_weeksOf_70 ?_
          refine g_lor (pc := 72) dX6_weeksOf_72 ?_
          refine g_topl (pc := 73) (x' := lN (mS (cV M b) (M.1 1 5) row i ||| sMask (oV M (b + 3 + i) 3) (oV M (b + 3 + i) 4))) (wb_or' hS1 hm1) ?_
          refine g_lstore_n (pc := 73) rfl [(0, .ref (gAd E 1)), (1, .int (nI row)), (2, .int (nI q)), (3, .long (lN (mS (cV M b) (M.1 1 5) row i ||| sMask (oV M (b + 3 + i) 3) (oV M (b + 3 + i) 4)))), (5, .long (lN (mT (cV M b) (M.1 1 5) row i ||| (mS (cV M b) (M.1 1 5) row i &&& sMask (oV M (b + 3 + i) 3) (oV M (b + 3 + i) 4))))), (7, .long (lN (mA (cV M b) (M.1 1 5) row i))), (9, .int (nI i)), (10, .ref (gAd E ((b + 3 + i)))), (11, .long (lN (sMask (oV M ((b + 3 + i)) 3) (oV M ((b + 3 + i)) 4))))] dX6_weeksOf_73 (by decide) rfl rfl ?_
          refine g_aload (pc := 74) 7 rfl dX6_weeksOf_74 ?_
          refine fX6_148 (pc := 76) rfl (hB.2.1 i (by omega)).1 dX6_weeksOf_76 ?_
          refine g_ifN_eq (pc := 79) 89 dX6_weeksOf_79 (by decide) (by omega) (fun h79 => ?_) (fun h79 => ?_)
          · refine g_iincN (pc := 89) 1 6 [(0, .ref (gAd E 1)), (1, .int (nI row)), (2, .int (nI q)), (3, .long (lN (mS (cV M b) (M.1 1 5) row i ||| sMask (oV M (b + 3 + i) 3) (oV M (b + 3 + i) 4)))), (5, .long (lN (mT (cV M b) (M.1 1 5) row i ||| (mS (cV M b) (M.1 1 5) row i &&& sMask (oV M (b + 3 + i) 3) (oV M (b + 3 + i) 4))))), (7, .long (lN (mA (cV M b) (M.1 1 5) row i))), (9, .int (nI (i + 1))), (10, .ref (gAd E ((b + 3 + i)))), (11, .long (lN (sMask (oV M ((b + 3 + i)) 3) (oV M ((b + 3 + i)) 4))))] rfl dX6_weeksOf_89 (by decide) rfl rfl ?_
            refine g_goto (pc := 92) 11 dX6_weeksOf_92 (by decide) ?_
            refine g_pick (pc := 11) [0, 1, 2, 3, 4, 5, 6] [(0, .ref (gAd E 1)), (1, .int (nI row)), (2, .int (nI q)), (3, .long (lN (mS (cV M b) (M.1 1 5) row i ||| sMask (oV M (b + 3 + i) 3) (oV M (b + 3 + i) 4)))), (5, .long (lN (mT (cV M b) (M.1 1 5) row i ||| (mS (cV M b) (M.1 1 5) row i &&& sMask (oV M (b + 3 + i) 3) (oV M (b + 3 + i) 4))))), (7, .long (lN (mA (cV M b) (M.1 1 5) row i))), (9, .int (nI (i + 1)))] rfl ?_
            refine g_lv (pc := 11) (lv' := [(0, .ref (gAd E 1)), (1, .int (nI row)), (2, .int (nI q)), (3, .long (lN (mS (cV M b) (M.1 1 5) row (i + 1)))), (5, .long (lN (mT (cV M b) (M.1 1 5) row (i + 1)))), (7, .long (lN (mA (cV M b) (M.1 1 5) row (i + 1)))), (9, .int (nI (i + 1)))]) (by simp only [mS, mT, mA, show mC (cV M b) (M.1 1 5) row i = true from by simp only [mC]; rw [show hCell (cV M b i) row = true from h50, h41]; rfl, show (cV M b i 5 == 1) = false from by rw [beq_eq_false_iff_ne]; show M.1 (b + 3 + i) 5 ≠ 1; omega]; rfl) ?_
            exact ihi (by omega)
          · refine g_lload (pc := 82) 5 rfl dX6_weeksOf_82 ?_
            refine g_lload (pc := 84) 8 rfl dX6_weeksOf_84 ?_
            refine g_lor (pc := 86) dX6_weeksOf_86 ?_
            refine g_topl (pc := 87) (x' := lN (mA (cV M b) (M.1 1 5) row i ||| sMask (oV M (b + 3 + i) 3) (oV M (b + 3 + i) 4))) (wb_or' hA1 hm1) ?_
            refine g_lstore (pc := 87) [(0, .ref (gAd E 1)), (1, .int (nI row)), (2, .int (nI q)), (3, .long (lN (mS (cV M b) (M.1 1 5) row i ||| sMask (oV M (b + 3 + i) 3) (oV M (b + 3 + i) 4)))), (5, .long (lN (mT (cV M b) (M.1 1 5) row i ||| (mS (cV M b) (M.1 1 5) row i &&& sMask (oV M (b + 3 + i) 3) (oV M (b + 3 + i) 4))))), (7, .long (lN (mA (cV M b) (M.1 1 5) row i ||| sMask (oV M (b + 3 + i) 3) (oV M (b + 3 + i) 4)))), (9, .int (nI i)), (10, .ref (gAd E ((b + 3 + i)))), (11, .long (lN (sMask (oV M ((b + 3 + i)) 3) (oV M ((b + 3 + i)) 4))))] dX6_weeksOf_87 (by decide) rfl rfl ?_
            refine g_iincN (pc := 89) 1 6 [(0, .ref (gAd E 1)), (1, .int (nI row)), (2, .int (nI q)), (3, .long (lN (mS (cV M b) (M.1 1 5) row i ||| sMask (oV M (b + 3 + i) 3) (oV M (b + 3 + i) 4)))), (5, .long (lN (mT (cV M b) (M.1 1 5) row i ||| (mS (cV M b) (M.1 1 5) row i &&& sMask (oV M (b + 3 + i) 3) (oV M (b + 3 + i) 4))))), (7, .long (lN (mA (cV M b) (M.1 1 5) row i ||| sMask (oV M (b + 3 + i) 3) (oV M (b + 3 + i) 4)))), (9, .int (nI (i + 1))), (10, .ref (gAd E ((b + 3 + i)))), (11, .long (lN (sMask (oV M ((b + 3 + i)) 3) (oV M ((b + 3 + i)) 4))))] rfl dX6_weeksOf_89 (by decide) rfl rfl ?_
            refine g_goto (pc := 92) 11 dX6_weeksOf_92 (by decide) ?_
            refine g_pick (pc := 11) [0, 1, 2, 3, 4, 5, 6] [(0, .ref (gAd E 1)), (1, .int (nI row)), (2, .int (nI q)), (3, .long (lN (mS (cV M b) (M.1 1 5) row i ||| sMask (oV M (b + 3 + i) 3) (oV M (b + 3 + i) 4)))), (5, .long (lN (mT (cV M b) (M.1 1 5) row i ||| (mS (cV M b) (M.1 1 5) row i &&& sMask (oV M (b + 3 + i) 3) (oV M (b + 3 + i) 4))))), (7, .long (lN (mA (cV M b) (M.1 1 5) row i ||| sMask (oV M (b + 3 + i) 3) (oV M (b + 3 + i) 4)))), (9, .int (nI (i + 1)))] rfl ?_
            refine g_lv (pc := 11) (lv' := [(0, .ref (gAd E 1)), (1, .int (nI row)), (2, .int (nI q)), (3, .long (lN (mS (cV M b) (M.1 1 5) row (i + 1)))), (5, .long (lN (mT (cV M b) (M.1 1 5) row (i + 1)))), (7, .long (lN (mA (cV M b) (M.1 1 5) row (i + 1)))), (9, .int (nI (i + 1)))]) (by simp only [mS, mT, mA, show mC (cV M b) (M.1 1 5) row i = true from by simp only [mC]; rw [show hCell (cV M b i) row = true from h50, h41]; rfl, show (cV M b i 5 == 1) = true from by rw [beq_iff_eq]; show M.1 (b + 3 + i) 5 = 1; omega]; rfl) ?_
            exact ihi (by omega)
  refine g_lv (pc := 11) (lv' := [(0, .ref (gAd E 1)), (1, .int (nI row)), (2, .int (nI q)), (3, .long (lN (mS (cV M b) (M.1 1 5) row 0))), (5, .long (lN (mT (cV M b) (M.1 1 5) row 0))), (7, .long (lN (mA (cV M b) (M.1 1 5) row 0))), (9, .int (nI 0))]) rfl ?_
  exact lp11 0 (by omega)
set_option maxRecDepth 100000 in
set_option maxHeartbeats 4000000 in
theorem kX6_points (l : Launch) (E : gEnv) (M : gMem) (b b' : Nat) (hS : cS E M b b') (hO : cO M b) (hsg : M.1 1 5 < 1024) (x : Int32) : gMetI l E mX6_points 3 [.ref (gAd E 1), .int x] M (fSel 5 x (fun q => nI (sSum (fun z => sPop (sWeeks (cV M b) (M.1 b 1) (M.1 1 5) (M.1 b 4) (M.1 b 5) z q)) 96)) (-1)) := by
  have hB := hS.B
  have hO' := hO
  obtain ⟨hn, hk, hft, hto, hU, hH⟩ := hO
  have hO := hO'
  refine gMet_of (mm := mX6_points) (h := 3) (M := M) [(0, .ref (gAd E 1)), (1, .int x)] (by decide) (Nat.le_of_ble_eq_true rfl) rfl ?_
  refine g_iload_n (pc := 0) 1 rfl rfl dX6_points_0 ?_
  refine g_if_lt (pc := 1) 9 dX6_points_1 (by decide) (fun h1 => ?_) (fun h1 => ?_)
  · refine g_iconst (pc := 9) ((-1)) (by decide) dX6_points_9 ?_
    exact g_iret (pc := 10) rfl dX6_points_10 ⟨congrArg (fun z => some (Value.int z)) (by rw [fSel_out (inR_f (by left; exact i32_ltn (n := 0) (by omega) h1))]), rfl⟩
  · refine g_iload_n (pc := 4) 1 rfl rfl dX6_points_4 ?_
    refine g_iconst (pc := 5) (nI 4) (by decide) dX6_points_5 ?_
    refine g_icmp_le (pc := 6) 11 dX6_points_6 (by decide) (fun h6 => ?_) (fun h6 => ?_)
    · obtain ⟨q, hq, rfl⟩ := inR_of (inR_t (n := 5) (i32_nn h1) (by have := i32_le (by omega) h6; omega))
      refine g_iconst (pc := 11) (nI 0) (by decide) dX6_points_11 ?_
      refine g_istore_n (pc := 12) rfl [(0, .ref (gAd E 1)), (1, .int (nI q)), (2, .int (nI 0))] dX6_points_12 (by decide) rfl rfl ?_
      refine g_iconst (pc := 13) (nI 0) (by decide) dX6_points_13 ?_
      refine g_istore_n (pc := 14) rfl [(0, .ref (gAd E 1)), (1, .int (nI q)), (2, .int (nI 0)), (3, .int (nI 0))] dX6_points_14 (by decide) rfl rfl ?_
      have lp15 : ∀ c, c ≤ 96 → gG l (gV0 3 E (fun v u => v = some (.int (fSel 5 (nI q) (fun q => nI (sSum (fun z => sPop (sWeeks (cV M b) (M.1 b 1) (M.1 1 5) (M.1 b 4) (M.1 b 5) z q)) 96)) (-1))) ∧ u = M)) mX6_points E (0, 0) M 15 [(0, .ref (gAd E 1)), (1, .int (nI q)), (2, .int (nI (sSum (fun z => sPop (sWeeks (cV M b) (M.1 b 1) (M.1 1 5) (M.1 b 4) (M.1 b 5) z q)) c))), (3, .int (nI c))] [] := by
        refine gloop (fun c hic ihc => ?_)
        refine g_iload_n (pc := 15) 3 rfl rfl dX6_points_15 ?_
        refine g_bipush (pc := 16) (nI 96) (by decide) dX6_points_16 ?_
        refine g_icmpN_ge (pc := 18) 39 dX6_points_18 (by decide) (by omega) (by omega) (fun h18 => ?_) (fun h18 => ?_)
        · refine g_iload_n (pc := 39) 2 rfl rfl dX6_points_39 ?_
          exact g_iret (pc := 40) rfl dX6_points_40 ⟨congrArg (fun z => some (Value.int z)) (by rw [fSel_in hq (by omega), show c = 96 by omega]), rfl⟩
        · refine g_iload_n (pc := 21) 2 rfl rfl dX6_points_21 ?_
          refine g_aload_n (pc := 22) 0 rfl rfl dX6_points_22 ?_
          refine g_iload_n (pc := 23) 3 rfl rfl dX6_points_23 ?_
          refine g_iload_n (pc := 24) 1 rfl rfl dX6_points_24 ?_
          refine g_callV (pc := 25) (mc := mX6_weeksOf) (rest := [.int (nI (sSum (fun z => sPop (sWeeks (cV M b) (M.1 b 1) (M.1 1 5) (M.1 b 4) (M.1 b 5) z q)) c))]) lX6_193 iX6_weeksOf (kX6_weeksOf l E M b b' hS hO hsg c q (by omega) (by omega)) ⟨Nat.le_of_ble_eq_true rfl, Nat.le_of_ble_eq_true rfl⟩ hS.s1 (by decide) (by decide) rfl rfl rfl rfl (Nat.le_of_ble_eq_true rfl) ⟨Nat.zero_le _, Nat.zero_le _⟩ dX6_points_25 (g_rL ?_)
          refine g_callS (pc := 28) (mc := mJ13_bitCount_95d88) (rest := [.int (nI (sSum (fun z => sPop (sWeeks (cV M b) (M.1 b 1) (M.1 1 5) (M.1 b 4) (M.1 b 5) z q)) c))]) lX6_201 iJ13_bitCount_95d88 (kJ13_bitCount l E M (sWeeks (cV M b) (M.1 b 1) (M.1 1 5) (M.1 b 4) (M.1 b 5) c q) (sWeeks_lt hto)) ⟨Nat.le_of_ble_eq_true rfl, Nat.le_of_ble_eq_true rfl⟩ rfl rfl (Nat.le_of_ble_eq_true rfl) ⟨Nat.zero_le _, Nat.zero_le _⟩ dX6_points_28 (g_rI ?_)
          refine g_iaddN (pc := 31) dX6_points_31 ?_
          refine g_istore_n (pc := 32) rfl [(0, .ref (gAd E 1)), (1, .int (nI q)), (2, .int (nI ((sSum (fun z => sPop (sWeeks (cV M b) (M.1 b 1) (M.1 1 5) (M.1 b 4) (M.1 b 5) z q)) c) + (sPop (sWeeks (cV M b) (M.1 b 1) (M.1 1 5) (M.1 b 4) (M.1 b 5) c q))))), (3, .int (nI c))] dX6_points_32 (by decide) rfl rfl ?_
          refine g_iincN (pc := 33) 1 3 [(0, .ref (gAd E 1)), (1, .int (nI q)), (2, .int (nI ((sSum (fun z => sPop (sWeeks (cV M b) (M.1 b 1) (M.1 1 5) (M.1 b 4) (M.1 b 5) z q)) c) + (sPop (sWeeks (cV M b) (M.1 b 1) (M.1 1 5) (M.1 b 4) (M.1 b 5) c q))))), (3, .int (nI (c + 1)))] rfl dX6_points_33 (by decide) rfl rfl ?_
          refine g_goto (pc := 36) 15 dX6_points_36 (by decide) ?_
          refine g_lv (pc := 15) (lv' := [(0, .ref (gAd E 1)), (1, .int (nI q)), (2, .int (nI (sSum (fun z => sPop (sWeeks (cV M b) (M.1 b 1) (M.1 1 5) (M.1 b 4) (M.1 b 5) z q)) (c + 1)))), (3, .int (nI (c + 1)))]) rfl ?_
          exact ihc (by omega)
      refine g_lv (pc := 15) (lv' := [(0, .ref (gAd E 1)), (1, .int (nI q)), (2, .int (nI (sSum (fun z => sPop (sWeeks (cV M b) (M.1 b 1) (M.1 1 5) (M.1 b 4) (M.1 b 5) z q)) 0))), (3, .int (nI 0))]) rfl ?_
      exact lp15 0 (by omega)
    · refine g_iconst (pc := 9) ((-1)) (by decide) dX6_points_9 ?_
      exact g_iret (pc := 10) rfl dX6_points_10 ⟨congrArg (fun z => some (Value.int z)) (by rw [fSel_out (inR_f (by right; have := i32_gt (by omega) h6; omega))]), rfl⟩
set_option maxRecDepth 100000 in
set_option maxHeartbeats 4000000 in
theorem kX6_point (l : Launch) (E : gEnv) (M : gMem) (b b' : Nat) (hS : cS E M b b') (hO : cO M b) (hsg : M.1 1 5 < 1024) (x y z wk q : Int32) : gMetI l E mX6_point 3 [.ref (gAd E 1), .int x, .int y, .int z, .int wk, .int q] M (fCell x y z (fun i j k => fRng (M.1 b 4) (M.1 b 5) wk (fun m => fTwo q (nI (sSold (cV M b) (M.1 b 1) (M.1 1 5) (16 * i + 4 * j + k) m)) (gb ((sWeeks (cV M b) (M.1 b 1) (M.1 1 5) (M.1 b 4) (M.1 b 5) (16 * i + 4 * j + k) 3).testBit m)) (-1)) (-1)) (-1)) := by
  have hB := hS.B
  have hO' := hO
  obtain ⟨hn, hk, hft, hto, hU, hH⟩ := hO
  have hO := hO'
  refine gMet_of (mm := mX6_point) (h := 3) (M := M) [(0, .ref (gAd E 1)), (1, .int x), (2, .int y), (3, .int z), (4, .int wk), (5, .int q)] (by decide) (Nat.le_of_ble_eq_true rfl) rfl ?_
  refine g_iload_n (pc := 0) 1 rfl rfl dX6_point_0 ?_
  refine g_iload_n (pc := 1) 2 rfl rfl dX6_point_1 ?_
  refine g_iload_n (pc := 2) 3 rfl rfl dX6_point_2 ?_
  refine g_callS (pc := 3) (mc := mX6_isCell) (rest := []) lX6_177 iX6_isCell (kX6_isCell l E M (x) (y) (z)) ⟨Nat.le_of_ble_eq_true rfl, Nat.le_of_ble_eq_true rfl⟩ rfl rfl (Nat.le_of_ble_eq_true rfl) ⟨Nat.zero_le _, Nat.zero_le _⟩ dX6_point_3 (g_rI ?_)
  refine g_ifB_eq (pc := 6) 33 dX6_point_6 (by decide) (fun h6 => ?_) (fun h6 => ?_)
  · refine g_iconst (pc := 33) ((-1)) (by decide) dX6_point_33 ?_
    exact g_iret (pc := 34) rfl dX6_point_34 ⟨congrArg (fun z => some (Value.int z)) (by rw [fCell_out h6]), rfl⟩
  · simp only [Bool.and_eq_true] at h6
    obtain ⟨⟨hx, hy⟩, hz⟩ := h6
    obtain ⟨i, hi, rfl⟩ := inR_of hx
    obtain ⟨j, hj, rfl⟩ := inR_of hy
    obtain ⟨k, hk0, rfl⟩ := inR_of hz
    refine g_iload (pc := 9) 4 rfl dX6_point_9 ?_
    refine g_aload_n (pc := 11) 0 rfl rfl dX6_point_11 ?_
    refine fX6_23 (pc := 12) b rfl hS.s1 hS.rb hS.b0 dX6_point_12 ?_
    refine fX6_181 (pc := 15) rfl hB.1.1 dX6_point_15 ?_
    refine g_icmp_lt (pc := 18) 33 dX6_point_18 (by decide) (fun h18 => ?_) (fun h18 => ?_)
    · refine g_iconst (pc := 33) ((-1)) (by decide) dX6_point_33 ?_
      exact g_iret (pc := 34) rfl dX6_point_34 ⟨congrArg (fun z => some (Value.int z)) (by rw [fCell_in hi hj hk0, fRng_out (inG_f (Or.inl (i32_ltn (by omega) h18)))]), rfl⟩
    · refine g_iload (pc := 21) 4 rfl dX6_point_21 ?_
      refine g_aload_n (pc := 23) 0 rfl rfl dX6_point_23 ?_
      refine fX6_23 (pc := 24) b rfl hS.s1 hS.rb hS.b0 dX6_point_24 ?_
      refine fX6_184 (pc := 27) rfl hB.1.1 dX6_point_27 ?_
      refine g_icmp_le (pc := 30) 35 dX6_point_30 (by decide) (fun h30 => ?_) (fun h30 => ?_)
      · obtain ⟨m, hm1, hm2, rfl⟩ := inG_of (inG_t (i32_ge (by omega) h18) (i32_le (by omega) h30))
        refine g_iload (pc := 35) 5 rfl dX6_point_35 ?_
        refine g_if_eq (pc := 37) 48 dX6_point_37 (by decide) (fun h37 => ?_) (fun h37 => ?_)
        · obtain rfl : q = nI 0 := h37
          refine g_iload_n (pc := 48) 1 rfl rfl dX6_point_48 ?_
          refine g_iload_n (pc := 49) 2 rfl rfl dX6_point_49 ?_
          refine g_iload_n (pc := 50) 3 rfl rfl dX6_point_50 ?_
          refine g_callS (pc := 51) (mc := mX6_cellOf) (rest := []) lX6_187 iX6_cellOf (kX6_cellOf l E M i j k) ⟨Nat.le_of_ble_eq_true rfl, Nat.le_of_ble_eq_true rfl⟩ rfl rfl (Nat.le_of_ble_eq_true rfl) ⟨Nat.zero_le _, Nat.zero_le _⟩ dX6_point_51 (g_rI ?_)
          refine g_istore (pc := 54) [(0, .ref (gAd E 1)), (1, .int (nI i)), (2, .int (nI j)), (3, .int (nI k)), (4, .int (nI m)), (5, .int (nI 0)), (6, .int (nI (16 * i + 4 * j + k)))] dX6_point_54 (by decide) rfl rfl ?_
          refine g_iload (pc := 56) 5 rfl dX6_point_56 ?_
          refine g_ifN_ne (pc := 58) 70 dX6_point_58 (by decide) (by omega) (fun h58 => absurd h58 (by omega)) (fun h58 => ?_)
          refine g_aload_n (pc := 61) 0 rfl rfl dX6_point_61 ?_
          refine g_iload (pc := 62) 6 rfl dX6_point_62 ?_
          refine g_iload (pc := 64) 4 rfl dX6_point_64 ?_
          refine g_callV (pc := 66) (mc := mX6_howManyHave) (rest := []) lX6_190 iX6_howManyHave (kX6_howManyHave l E M b b' hS hO hsg (16 * i + 4 * j + k) m (by omega) (by omega)) ⟨Nat.le_of_ble_eq_true rfl, Nat.le_of_ble_eq_true rfl⟩ hS.s1 (by decide) (by decide) rfl rfl rfl rfl (Nat.le_of_ble_eq_true rfl) ⟨Nat.zero_le _, Nat.zero_le _⟩ dX6_point_66 (g_rI ?_)
          exact g_iret (pc := 69) rfl dX6_point_69 ⟨congrArg (fun z => some (Value.int z)) (by rw [fCell_in hi hj hk0, fRng_in hm1 hm2 (by omega), fTwo_0]), rfl⟩
        · refine g_iload (pc := 40) 5 rfl dX6_point_40 ?_
          refine g_iconst (pc := 42) (nI 1) (by decide) dX6_point_42 ?_
          refine g_icmp_eq (pc := 43) 48 dX6_point_43 (by decide) (fun h43 => ?_) (fun h43 => ?_)
          · obtain rfl : q = nI 1 := h43
            refine g_iload_n (pc := 48) 1 rfl rfl dX6_point_48 ?_
            refine g_iload_n (pc := 49) 2 rfl rfl dX6_point_49 ?_
            refine g_iload_n (pc := 50) 3 rfl rfl dX6_point_50 ?_
            refine g_callS (pc := 51) (mc := mX6_cellOf) (rest := []) lX6_187 iX6_cellOf (kX6_cellOf l E M i j k) ⟨Nat.le_of_ble_eq_true rfl, Nat.le_of_ble_eq_true rfl⟩ rfl rfl (Nat.le_of_ble_eq_true rfl) ⟨Nat.zero_le _, Nat.zero_le _⟩ dX6_point_51 (g_rI ?_)
            refine g_istore (pc := 54) [(0, .ref (gAd E 1)), (1, .int (nI i)), (2, .int (nI j)), (3, .int (nI k)), (4, .int (nI m)), (5, .int (nI 1)), (6, .int (nI (16 * i + 4 * j + k)))] dX6_point_54 (by decide) rfl rfl ?_
            refine g_iload (pc := 56) 5 rfl dX6_point_56 ?_
            refine g_ifN_ne (pc := 58) 70 dX6_point_58 (by decide) (by omega) (fun h58 => ?_) (fun h58 => absurd h58 (by omega))
            refine g_aload_n (pc := 70) 0 rfl rfl dX6_point_70 ?_
            refine g_iload (pc := 71) 6 rfl dX6_point_71 ?_
            refine g_iconst (pc := 73) (nI 3) (by decide) dX6_point_73 ?_
            refine g_callV (pc := 74) (mc := mX6_weeksOf) (rest := []) lX6_193 iX6_weeksOf (kX6_weeksOf l E M b b' hS hO hsg (16 * i + 4 * j + k) 3 (by omega) (by omega)) ⟨Nat.le_of_ble_eq_true rfl, Nat.le_of_ble_eq_true rfl⟩ hS.s1 (by decide) (by decide) rfl rfl rfl rfl (Nat.le_of_ble_eq_true rfl) ⟨Nat.zero_le _, Nat.zero_le _⟩ dX6_point_74 (g_rL ?_)
            refine g_iload (pc := 77) 4 rfl dX6_point_77 ?_
            refine g_callS (pc := 79) (mc := mX6_hasWeek) (rest := []) lX6_197 iX6_hasWeek (kX6_hasWeek l E M (sWeeks (cV M b) (M.1 b 1) (M.1 1 5) (M.1 b 4) (M.1 b 5) (16 * i + 4 * j + k) 3) m (Nat.lt_trans (sWeeks_lt hto) (by decide)) (by omega)) ⟨Nat.le_of_ble_eq_true rfl, Nat.le_of_ble_eq_true rfl⟩ rfl rfl (Nat.le_of_ble_eq_true rfl) ⟨Nat.zero_le _, Nat.zero_le _⟩ dX6_point_79 (g_rI ?_)
            refine g_ifB_eq (pc := 82) 89 dX6_point_82 (by decide) (fun h82 => ?_) (fun h82 => ?_)
            · refine g_iconst (pc := 89) (nI 0) (by decide) dX6_point_89 ?_
              exact g_iret (pc := 90) rfl dX6_point_90 ⟨congrArg (fun z => some (Value.int z)) (by rw [fCell_in hi hj hk0, fRng_in hm1 hm2 (by omega), fTwo_1, h82]; rfl), rfl⟩
            · refine g_iconst (pc := 85) (nI 1) (by decide) dX6_point_85 ?_
              refine g_goto (pc := 86) 90 dX6_point_86 (by decide) ?_
              exact g_iret (pc := 90) rfl dX6_point_90 ⟨congrArg (fun z => some (Value.int z)) (by rw [fCell_in hi hj hk0, fRng_in hm1 hm2 (by omega), fTwo_1, h82]; rfl), rfl⟩
          · refine g_iconst (pc := 46) ((-1)) (by decide) dX6_point_46 ?_
            exact g_iret (pc := 47) rfl dX6_point_47 ⟨congrArg (fun z => some (Value.int z)) (by rw [fCell_in hi hj hk0, fRng_in hm1 hm2 (by omega), fTwo_n h37 h43]), rfl⟩
      · refine g_iconst (pc := 33) ((-1)) (by decide) dX6_point_33 ?_
        exact g_iret (pc := 34) rfl dX6_point_34 ⟨congrArg (fun z => some (Value.int z)) (by rw [fCell_in hi hj hk0, fRng_out (inG_f (Or.inr (i32_gt (by omega) h30)))]), rfl⟩
set_option maxRecDepth 100000 in
set_option maxHeartbeats 4000000 in
theorem kX6_window (l : Launch) (E : gEnv) (M : gMem) (b b' : Nat) (hS : cS E M b b') (hO : cO M b) (hsg : M.1 1 5 < 1024) (x y z kk q : Int32) : gMetI l E mX6_window 3 [.ref (gAd E 1), .int x, .int y, .int z, .int kk, .int q] M (fCell x y z (fun i j k => if -1 ≤ kk then fTwo q (fWd (sWeeks (cV M b) (M.1 b 1) (M.1 1 5) (M.1 b 4) (M.1 b 5) (16 * i + 4 * j + k) 4) kk (nI 0)) (fWd (sWeeks (cV M b) (M.1 b 1) (M.1 1 5) (M.1 b 4) (M.1 b 5) (16 * i + 4 * j + k) 4) kk (nI 1)) (-1) else -1) (-1)) := by
  have hB := hS.B
  have hO' := hO
  obtain ⟨hn, hk, hft, hto, hU, hH⟩ := hO
  have hO := hO'
  refine gMet_of (mm := mX6_window) (h := 3) (M := M) [(0, .ref (gAd E 1)), (1, .int x), (2, .int y), (3, .int z), (4, .int kk), (5, .int q)] (by decide) (Nat.le_of_ble_eq_true rfl) rfl ?_
  refine g_iload_n (pc := 0) 1 rfl rfl dX6_window_0 ?_
  refine g_iload_n (pc := 1) 2 rfl rfl dX6_window_1 ?_
  refine g_iload_n (pc := 2) 3 rfl rfl dX6_window_2 ?_
  refine g_callS (pc := 3) (mc := mX6_isCell) (rest := []) lX6_177 iX6_isCell (kX6_isCell l E M (x) (y) (z)) ⟨Nat.le_of_ble_eq_true rfl, Nat.le_of_ble_eq_true rfl⟩ rfl rfl (Nat.le_of_ble_eq_true rfl) ⟨Nat.zero_le _, Nat.zero_le _⟩ dX6_window_3 (g_rI ?_)
  refine g_ifB_eq (pc := 6) 15 dX6_window_6 (by decide) (fun h6 => ?_) (fun h6 => ?_)
  · refine g_iconst (pc := 15) ((-1)) (by decide) dX6_window_15 ?_
    exact g_iret (pc := 16) rfl dX6_window_16 ⟨congrArg (fun z => some (Value.int z)) (by rw [fCell_out h6]), rfl⟩
  · simp only [Bool.and_eq_true] at h6
    obtain ⟨⟨hx, hy⟩, hz⟩ := h6
    obtain ⟨i, hi, rfl⟩ := inR_of hx
    obtain ⟨j, hj, rfl⟩ := inR_of hy
    obtain ⟨k, hk0, rfl⟩ := inR_of hz
    refine g_iload (pc := 9) 4 rfl dX6_window_9 ?_
    refine g_iconst (pc := 11) ((-1)) (by decide) dX6_window_11 ?_
    refine g_icmp_ge (pc := 12) 17 dX6_window_12 (by decide) (fun h12 => ?_) (fun h12 => ?_)
    · refine g_iload (pc := 17) 5 rfl dX6_window_17 ?_
      refine g_if_eq (pc := 19) 30 dX6_window_19 (by decide) (fun h19 => ?_) (fun h19 => ?_)
      · obtain rfl : q = nI 0 := h19
        refine g_aload_n (pc := 30) 0 rfl rfl dX6_window_30 ?_
        refine g_iload_n (pc := 31) 1 rfl rfl dX6_window_31 ?_
        refine g_iload_n (pc := 32) 2 rfl rfl dX6_window_32 ?_
        refine g_iload_n (pc := 33) 3 rfl rfl dX6_window_33 ?_
        refine g_callS (pc := 34) (mc := mX6_cellOf) (rest := [.ref (gAd E 1)]) lX6_187 iX6_cellOf (kX6_cellOf l E M i j k) ⟨Nat.le_of_ble_eq_true rfl, Nat.le_of_ble_eq_true rfl⟩ rfl rfl (Nat.le_of_ble_eq_true rfl) ⟨Nat.zero_le _, Nat.zero_le _⟩ dX6_window_34 (g_rI ?_)
        refine g_iconst (pc := 37) (nI 4) (by decide) dX6_window_37 ?_
        refine g_callV (pc := 38) (mc := mX6_weeksOf) (rest := []) lX6_193 iX6_weeksOf (kX6_weeksOf l E M b b' hS hO hsg (16 * i + 4 * j + k) 4 (by omega) (by omega)) ⟨Nat.le_of_ble_eq_true rfl, Nat.le_of_ble_eq_true rfl⟩ hS.s1 (by decide) (by decide) rfl rfl rfl rfl (Nat.le_of_ble_eq_true rfl) ⟨Nat.zero_le _, Nat.zero_le _⟩ dX6_window_38 (g_rL ?_)
        refine g_lstore (pc := 41) [(0, .ref (gAd E 1)), (1, .int (nI i)), (2, .int (nI j)), (3, .int (nI k)), (4, .int kk), (5, .int (nI 0)), (6, .long (lN (sWeeks (cV M b) (M.1 b 1) (M.1 1 5) (M.1 b 4) (M.1 b 5) (16 * i + 4 * j + k) 4)))] dX6_window_41 (by decide) rfl rfl ?_
        have hlt := sWeeks_lt (V := cV M b) (n := M.1 b 1) (sg := M.1 1 5) (fr := M.1 b 4) (row := 16 * i + 4 * j + k) (q := 4) hto
        refine g_iload (pc := 43) 4 rfl dX6_window_43 ?_
        refine g_iconst (pc := 45) ((-1)) (by decide) dX6_window_45 ?_
        refine g_icmp_ne (pc := 46) 58 dX6_window_46 (by decide) (fun h46 => ?_) (fun h46 => ?_)
        · obtain ⟨t, ht, rfl⟩ := nn_of h12 h46
          refine g_lload (pc := 58) 6 rfl dX6_window_58 ?_
          refine g_callS (pc := 60) (mc := mX6_windowStarts) (rest := []) lX6_206 iX6_windowStarts (kX6_windowStarts l E M (sWeeks (cV M b) (M.1 b 1) (M.1 1 5) (M.1 b 4) (M.1 b 5) (16 * i + 4 * j + k) 4) (by omega)) ⟨Nat.le_of_ble_eq_true rfl, Nat.le_of_ble_eq_true rfl⟩ rfl rfl (Nat.le_of_ble_eq_true rfl) ⟨Nat.zero_le _, Nat.zero_le _⟩ dX6_window_60 (g_rL ?_)
          refine g_iload (pc := 63) 4 rfl dX6_window_63 ?_
          refine g_callS (pc := 65) (mc := mX6_kthWeek) (rest := []) lX6_210 iX6_kthWeek (kX6_kthWeek l E M (sWs (sWeeks (cV M b) (M.1 b 1) (M.1 1 5) (M.1 b 4) (M.1 b 5) (16 * i + 4 * j + k) 4)) t (Nat.lt_trans (and_lt52 hlt) (by decide)) (by omega)) ⟨Nat.le_of_ble_eq_true rfl, Nat.le_of_ble_eq_true rfl⟩ rfl rfl (Nat.le_of_ble_eq_true rfl) ⟨Nat.zero_le _, Nat.zero_le _⟩ dX6_window_65 (g_rI ?_)
          cases hkt : sKth (sWs (sWeeks (cV M b) (M.1 b 1) (M.1 1 5) (M.1 b 4) (M.1 b 5) (16 * i + 4 * j + k) 4)) t with
          | none =>
            refine g_istore (pc := 68) [(0, .ref (gAd E 1)), (1, .int (nI i)), (2, .int (nI j)), (3, .int (nI k)), (4, .int (nI t)), (5, .int (nI 0)), (6, .long (lN (sWeeks (cV M b) (M.1 b 1) (M.1 1 5) (M.1 b 4) (M.1 b 5) (16 * i + 4 * j + k) 4))), (8, .int (oN none))] dX6_window_68 (by decide) rfl rfl ?_
            refine g_iload (pc := 70) 7 rfl dX6_window_70 ?_
            refine g_bipush (pc := 72) ((-4)) (by decide) dX6_window_72 ?_
            refine g_icmp_eq (pc := 74) 82 dX6_window_74 (by decide) (fun h74 => ?_) (fun h74 => absurd h74 (fun q => q rfl))
            refine g_iload (pc := 82) 7 rfl dX6_window_82 ?_
            exact g_iret (pc := 84) rfl dX6_window_84 ⟨congrArg (fun z => some (Value.int z)) (by rw [fCell_in hi hj hk0, if_pos h12, fTwo_0, fWd, if_neg h46, nI_toInt (by omega), show ((t : Nat) : Int).toNat = t from rfl, hkt]; rfl), rfl⟩
          | some f =>
            have hf := (sFr_lt _ _ _ hkt).2.1
            refine g_istore (pc := 68) [(0, .ref (gAd E 1)), (1, .int (nI i)), (2, .int (nI j)), (3, .int (nI k)), (4, .int (nI t)), (5, .int (nI 0)), (6, .long (lN (sWeeks (cV M b) (M.1 b 1) (M.1 1 5) (M.1 b 4) (M.1 b 5) (16 * i + 4 * j + k) 4))), (8, .int (nI f))] dX6_window_68 (by decide) rfl rfl ?_
            refine g_iload (pc := 70) 7 rfl dX6_window_70 ?_
            refine g_bipush (pc := 72) ((-4)) (by decide) dX6_window_72 ?_
            refine g_icmp_eq (pc := 74) 82 dX6_window_74 (by decide) (fun h74 => absurd h74 (oN_ne (x := f) (by omega))) (fun h74 => ?_)
            refine g_iload (pc := 77) 5 rfl dX6_window_77 ?_
            refine g_ifN_ne (pc := 79) 85 dX6_window_79 (by decide) (by omega) (fun h79 => absurd h79 (by omega)) (fun h79 => ?_)
            refine g_iload (pc := 82) 7 rfl dX6_window_82 ?_
            exact g_iret (pc := 84) rfl dX6_window_84 ⟨congrArg (fun z => some (Value.int z)) (by rw [fCell_in hi hj hk0, if_pos h12, fTwo_0, fWd, if_neg h46, nI_toInt (by omega), show ((t : Nat) : Int).toNat = t from rfl, hkt]; rfl), rfl⟩
        · refine g_lload (pc := 49) 6 rfl dX6_window_49 ?_
          refine g_callS (pc := 51) (mc := mX6_windowStarts) (rest := []) lX6_206 iX6_windowStarts (kX6_windowStarts l E M (sWeeks (cV M b) (M.1 b 1) (M.1 1 5) (M.1 b 4) (M.1 b 5) (16 * i + 4 * j + k) 4) (by omega)) ⟨Nat.le_of_ble_eq_true rfl, Nat.le_of_ble_eq_true rfl⟩ rfl rfl (Nat.le_of_ble_eq_true rfl) ⟨Nat.zero_le _, Nat.zero_le _⟩ dX6_window_51 (g_rL ?_)
          refine g_callS (pc := 54) (mc := mJ13_bitCount_95d88) (rest := []) lX6_201 iJ13_bitCount_95d88 (kJ13_bitCount l E M (sWs (sWeeks (cV M b) (M.1 b 1) (M.1 1 5) (M.1 b 4) (M.1 b 5) (16 * i + 4 * j + k) 4)) (and_lt52 hlt)) ⟨Nat.le_of_ble_eq_true rfl, Nat.le_of_ble_eq_true rfl⟩ rfl rfl (Nat.le_of_ble_eq_true rfl) ⟨Nat.zero_le _, Nat.zero_le _⟩ dX6_window_54 (g_rI ?_)
          exact g_iret (pc := 57) rfl dX6_window_57 ⟨congrArg (fun z => some (Value.int z)) (by rw [fCell_in hi hj hk0, if_pos h12, fTwo_0, fWd, if_pos h46]), rfl⟩
      · refine g_iload (pc := 22) 5 rfl dX6_window_22 ?_
        refine g_iconst (pc := 24) (nI 1) (by decide) dX6_window_24 ?_
        refine g_icmp_eq (pc := 25) 30 dX6_window_25 (by decide) (fun h25 => ?_) (fun h25 => ?_)
        · obtain rfl : q = nI 1 := h25
          refine g_aload_n (pc := 30) 0 rfl rfl dX6_window_30 ?_
          refine g_iload_n (pc := 31) 1 rfl rfl dX6_window_31 ?_
          refine g_iload_n (pc := 32) 2 rfl rfl dX6_window_32 ?_
          refine g_iload_n (pc := 33) 3 rfl rfl dX6_window_33 ?_
          refine g_callS (pc := 34) (mc := mX6_cellOf) (rest := [.ref (gAd E 1)]) lX6_187 iX6_cellOf (kX6_cellOf l E M i j k) ⟨Nat.le_of_ble_eq_true rfl, Nat.le_of_ble_eq_true rfl⟩ rfl rfl (Nat.le_of_ble_eq_true rfl) ⟨Nat.zero_le _, Nat.zero_le _⟩ dX6_window_34 (g_rI ?_)
          refine g_iconst (pc := 37) (nI 4) (by decide) dX6_window_37 ?_
          refine g_callV (pc := 38) (mc := mX6_weeksOf) (rest := []) lX6_193 iX6_weeksOf (kX6_weeksOf l E M b b' hS hO hsg (16 * i + 4 * j + k) 4 (by omega) (by omega)) ⟨Nat.le_of_ble_eq_true rfl, Nat.le_of_ble_eq_true rfl⟩ hS.s1 (by decide) (by decide) rfl rfl rfl rfl (Nat.le_of_ble_eq_true rfl) ⟨Nat.zero_le _, Nat.zero_le _⟩ dX6_window_38 (g_rL ?_)
          refine g_lstore (pc := 41) [(0, .ref (gAd E 1)), (1, .int (nI i)), (2, .int (nI j)), (3, .int (nI k)), (4, .int kk), (5, .int (nI 1)), (6, .long (lN (sWeeks (cV M b) (M.1 b 1) (M.1 1 5) (M.1 b 4) (M.1 b 5) (16 * i + 4 * j + k) 4)))] dX6_window_41 (by decide) rfl rfl ?_
          have hlt := sWeeks_lt (V := cV M b) (n := M.1 b 1) (sg := M.1 1 5) (fr := M.1 b 4) (row := 16 * i + 4 * j + k) (q := 4) hto
          refine g_iload (pc := 43) 4 rfl dX6_window_43 ?_
          refine g_iconst (pc := 45) ((-1)) (by decide) dX6_window_45 ?_
          refine g_icmp_ne (pc := 46) 58 dX6_window_46 (by decide) (fun h46 => ?_) (fun h46 => ?_)
          · obtain ⟨t, ht, rfl⟩ := nn_of h12 h46
            refine g_lload (pc := 58) 6 rfl dX6_window_58 ?_
            refine g_callS (pc := 60) (mc := mX6_windowStarts) (rest := []) lX6_206 iX6_windowStarts (kX6_windowStarts l E M (sWeeks (cV M b) (M.1 b 1) (M.1 1 5) (M.1 b 4) (M.1 b 5) (16 * i + 4 * j + k) 4) (by omega)) ⟨Nat.le_of_ble_eq_true rfl, Nat.le_of_ble_eq_true rfl⟩ rfl rfl (Nat.le_of_ble_eq_true rfl) ⟨Nat.zero_le _, Nat.zero_le _⟩ dX6_window_60 (g_rL ?_)
            refine g_iload (pc := 63) 4 rfl dX6_window_63 ?_
            refine g_callS (pc := 65) (mc := mX6_kthWeek) (rest := []) lX6_210 iX6_kthWeek (kX6_kthWeek l E M (sWs (sWeeks (cV M b) (M.1 b 1) (M.1 1 5) (M.1 b 4) (M.1 b 5) (16 * i + 4 * j + k) 4)) t (Nat.lt_trans (and_lt52 hlt) (by decide)) (by omega)) ⟨Nat.le_of_ble_eq_true rfl, Nat.le_of_ble_eq_true rfl⟩ rfl rfl (Nat.le_of_ble_eq_true rfl) ⟨Nat.zero_le _, Nat.zero_le _⟩ dX6_window_65 (g_rI ?_)
            cases hkt : sKth (sWs (sWeeks (cV M b) (M.1 b 1) (M.1 1 5) (M.1 b 4) (M.1 b 5) (16 * i + 4 * j + k) 4)) t with
            | none =>
              refine g_istore (pc := 68) [(0, .ref (gAd E 1)), (1, .int (nI i)), (2, .int (nI j)), (3, .int (nI k)), (4, .int (nI t)), (5, .int (nI 1)), (6, .long (lN (sWeeks (cV M b) (M.1 b 1) (M.1 1 5) (M.1 b 4) (M.1 b 5) (16 * i + 4 * j + k) 4))), (8, .int (oN none))] dX6_window_68 (by decide) rfl rfl ?_
              refine g_iload (pc := 70) 7 rfl dX6_window_70 ?_
              refine g_bipush (pc := 72) ((-4)) (by decide) dX6_window_72 ?_
              refine g_icmp_eq (pc := 74) 82 dX6_window_74 (by decide) (fun h74 => ?_) (fun h74 => absurd h74 (fun q => q rfl))
              refine g_iload (pc := 82) 7 rfl dX6_window_82 ?_
              exact g_iret (pc := 84) rfl dX6_window_84 ⟨congrArg (fun z => some (Value.int z)) (by rw [fCell_in hi hj hk0, if_pos h12, fTwo_1, fWd, if_neg h46, nI_toInt (by omega), show ((t : Nat) : Int).toNat = t from rfl, hkt]; rfl), rfl⟩
            | some f =>
              have hf := (sFr_lt _ _ _ hkt).2.1
              refine g_istore (pc := 68) [(0, .ref (gAd E 1)), (1, .int (nI i)), (2, .int (nI j)), (3, .int (nI k)), (4, .int (nI t)), (5, .int (nI 1)), (6, .long (lN (sWeeks (cV M b) (M.1 b 1) (M.1 1 5) (M.1 b 4) (M.1 b 5) (16 * i + 4 * j + k) 4))), (8, .int (nI f))] dX6_window_68 (by decide) rfl rfl ?_
              refine g_iload (pc := 70) 7 rfl dX6_window_70 ?_
              refine g_bipush (pc := 72) ((-4)) (by decide) dX6_window_72 ?_
              refine g_icmp_eq (pc := 74) 82 dX6_window_74 (by decide) (fun h74 => absurd h74 (oN_ne (x := f) (by omega))) (fun h74 => ?_)
              refine g_iload (pc := 77) 5 rfl dX6_window_77 ?_
              refine g_ifN_ne (pc := 79) 85 dX6_window_79 (by decide) (by omega) (fun h79 => ?_) (fun h79 => absurd h79 (by omega))
              refine g_iload (pc := 85) 7 rfl dX6_window_85 ?_
              refine g_lload (pc := 87) 6 rfl dX6_window_87 ?_
              refine g_iload (pc := 89) 7 rfl dX6_window_89 ?_
              refine g_callS (pc := 91) (mc := mX6_windowLength) (rest := [.int (nI f)]) lX6_214 iX6_windowLength (kX6_windowLength l E M (sWeeks (cV M b) (M.1 b 1) (M.1 1 5) (M.1 b 4) (M.1 b 5) (16 * i + 4 * j + k) 4) f (Nat.lt_trans hlt (by decide)) (by omega)) ⟨Nat.le_of_ble_eq_true rfl, Nat.le_of_ble_eq_true rfl⟩ rfl rfl (Nat.le_of_ble_eq_true rfl) ⟨Nat.zero_le _, Nat.zero_le _⟩ dX6_window_91 (g_rI ?_)
              refine g_iaddN (pc := 94) dX6_window_94 ?_
              refine g_iconst (pc := 95) (nI 1) (by decide) dX6_window_95 ?_
              refine g_isubN (pc := 96) (by have hb := (sFr_lt _ _ _ hkt).2.2; simp only [Bool.and_eq_true] at hb; have hb1 := hb.1; rw [sWs, Nat.testBit_and, Bool.and_eq_true] at hb1; rw [sRn_step (by omega), if_pos hb1.1]; omega) dX6_window_96 ?_
              exact g_iret (pc := 97) rfl dX6_window_97 ⟨congrArg (fun z => some (Value.int z)) (by rw [fCell_in hi hj hk0, if_pos h12, fTwo_1, fWd, if_neg h46, nI_toInt (by omega), show ((t : Nat) : Int).toNat = t from rfl, hkt]; rfl), rfl⟩
          · refine g_lload (pc := 49) 6 rfl dX6_window_49 ?_
            refine g_callS (pc := 51) (mc := mX6_windowStarts) (rest := []) lX6_206 iX6_windowStarts (kX6_windowStarts l E M (sWeeks (cV M b) (M.1 b 1) (M.1 1 5) (M.1 b 4) (M.1 b 5) (16 * i + 4 * j + k) 4) (by omega)) ⟨Nat.le_of_ble_eq_true rfl, Nat.le_of_ble_eq_true rfl⟩ rfl rfl (Nat.le_of_ble_eq_true rfl) ⟨Nat.zero_le _, Nat.zero_le _⟩ dX6_window_51 (g_rL ?_)
            refine g_callS (pc := 54) (mc := mJ13_bitCount_95d88) (rest := []) lX6_201 iJ13_bitCount_95d88 (kJ13_bitCount l E M (sWs (sWeeks (cV M b) (M.1 b 1) (M.1 1 5) (M.1 b 4) (M.1 b 5) (16 * i + 4 * j + k) 4)) (and_lt52 hlt)) ⟨Nat.le_of_ble_eq_true rfl, Nat.le_of_ble_eq_true rfl⟩ rfl rfl (Nat.le_of_ble_eq_true rfl) ⟨Nat.zero_le _, Nat.zero_le _⟩ dX6_window_54 (g_rI ?_)
            exact g_iret (pc := 57) rfl dX6_window_57 ⟨congrArg (fun z => some (Value.int z)) (by rw [fCell_in hi hj hk0, if_pos h12, fTwo_1, fWd, if_pos h46]), rfl⟩
        · refine g_iconst (pc := 28) ((-1)) (by decide) dX6_window_28 ?_
          exact g_iret (pc := 29) rfl dX6_window_29 ⟨congrArg (fun z => some (Value.int z)) (by rw [fCell_in hi hj hk0, if_pos h12, fTwo_n h19 h25]), rfl⟩
    · refine g_iconst (pc := 15) ((-1)) (by decide) dX6_window_15 ?_
      exact g_iret (pc := 16) rfl dX6_window_16 ⟨congrArg (fun z => some (Value.int z)) (by rw [fCell_in hi hj hk0, if_neg h12]), rfl⟩
set_option maxRecDepth 100000 in
set_option maxHeartbeats 4000000 in
theorem kX6_longest (l : Launch) (E : gEnv) (M : gMem) (b b' : Nat) (hS : cS E M b b') (hO : cO M b) (hsg : M.1 1 5 < 1024) (x : Int32) : gMetI l E mX6_longest 3 [.ref (gAd E 1), .int x] M (fSel 5 x (fun q => fLg (sLg (fun z => sWeeks (cV M b) (M.1 b 1) (M.1 1 5) (M.1 b 4) (M.1 b 5) z 4) 96) q) (-1)) := by
  have hB := hS.B
  have hO' := hO
  obtain ⟨hn, hk, hft, hto, hU, hH⟩ := hO
  have hO := hO'
  refine gMet_of (mm := mX6_longest) (h := 3) (M := M) [(0, .ref (gAd E 1)), (1, .int x)] (by decide) (Nat.le_of_ble_eq_true rfl) rfl ?_
  refine g_iload_n (pc := 0) 1 rfl rfl dX6_longest_0 ?_
  refine g_if_lt (pc := 1) 9 dX6_longest_1 (by decide) (fun h1 => ?_) (fun h1 => ?_)
  · refine g_iconst (pc := 9) ((-1)) (by decide) dX6_longest_9 ?_
    exact g_iret (pc := 10) rfl dX6_longest_10 ⟨congrArg (fun z => some (Value.int z)) (by rw [fSel_out (inR_f (by left; exact i32_ltn (n := 0) (by omega) h1))]), rfl⟩
  · refine g_iload_n (pc := 4) 1 rfl rfl dX6_longest_4 ?_
    refine g_iconst (pc := 5) (nI 4) (by decide) dX6_longest_5 ?_
    refine g_icmp_le (pc := 6) 11 dX6_longest_6 (by decide) (fun h6 => ?_) (fun h6 => ?_)
    · obtain ⟨q, hq, rfl⟩ := inR_of (inR_t (n := 5) (i32_nn h1) (by have := i32_le (by omega) h6; omega))
      refine g_iconst (pc := 11) (nI 0) (by decide) dX6_longest_11 ?_
      refine g_istore_n (pc := 12) rfl [(0, .ref (gAd E 1)), (1, .int (nI q)), (2, .int (nI 0))] dX6_longest_12 (by decide) rfl rfl ?_
      refine g_iconst (pc := 13) (nI 0) (by decide) dX6_longest_13 ?_
      refine g_istore_n (pc := 14) rfl [(0, .ref (gAd E 1)), (1, .int (nI q)), (2, .int (nI 0)), (3, .int (nI 0))] dX6_longest_14 (by decide) rfl rfl ?_
      refine g_iconst (pc := 15) (nI 0) (by decide) dX6_longest_15 ?_
      refine g_istore (pc := 16) [(0, .ref (gAd E 1)), (1, .int (nI q)), (2, .int (nI 0)), (3, .int (nI 0)), (4, .int (nI 0))] dX6_longest_16 (by decide) rfl rfl ?_
      refine g_iconst (pc := 18) (nI 0) (by decide) dX6_longest_18 ?_
      refine g_istore (pc := 19) [(0, .ref (gAd E 1)), (1, .int (nI q)), (2, .int (nI 0)), (3, .int (nI 0)), (4, .int (nI 0)), (5, .int (nI 0))] dX6_longest_19 (by decide) rfl rfl ?_
      have lp21 : ∀ c, c ≤ 96 → gG l (gV0 3 E (fun v u => v = some (.int (fSel 5 (nI q) (fun q => fLg (sLg (fun z => sWeeks (cV M b) (M.1 b 1) (M.1 1 5) (M.1 b 4) (M.1 b 5) z 4) 96) q) (-1))) ∧ u = M)) mX6_longest E (0, 0) M 21 [(0, .ref (gAd E 1)), (1, .int (nI q)), (2, .int (nI ((sLg (fun z => sWeeks (cV M b) (M.1 b 1) (M.1 1 5) (M.1 b 4) (M.1 b 5) z 4) c).1))), (3, .int (nI ((sLg (fun z => sWeeks (cV M b) (M.1 b 1) (M.1 1 5) (M.1 b 4) (M.1 b 5) z 4) c).2.1))), (4, .int (nI ((sLg (fun z => sWeeks (cV M b) (M.1 b 1) (M.1 1 5) (M.1 b 4) (M.1 b 5) z 4) c).2.2))), (5, .int (nI c))] [] := by
        refine gloop (fun c hic ihc => ?_)
        refine g_iload (pc := 21) 5 rfl dX6_longest_21 ?_
        refine g_bipush (pc := 23) (nI 96) (by decide) dX6_longest_23 ?_
        refine g_icmpN_ge (pc := 25) 75 dX6_longest_25 (by decide) (by omega) (by omega) (fun h25 => ?_) (fun h25 => ?_)
        · have hlg := sLg_le (fun z => sWeeks (cV M b) (M.1 b 1) (M.1 1 5) (M.1 b 4) (M.1 b 5) z 4) c
          have hce : c = 96 := by omega
          refine g_iload_n (pc := 75) 2 rfl rfl dX6_longest_75 ?_
          refine g_ifN_ne (pc := 76) 82 dX6_longest_76 (by decide) (by omega) (fun h76 => ?_) (fun h76 => ?_)
          · rcases (show q = 0 ∨ q = 1 ∨ q = 2 ∨ q = 3 ∨ q = 4 by omega) with rfl | rfl | rfl | rfl | rfl
            · refine g_iload_n (pc := 82) 1 rfl rfl dX6_longest_82 ?_
              refine g_tableIn (pc := 83) (off := 29) 112 dX6_longest_83 (by decide) (by decide) (by decide) (by decide) ?_
              refine g_iload_n (pc := 112) 2 rfl rfl dX6_longest_112 ?_
              exact g_iret (pc := 113) rfl dX6_longest_113 ⟨congrArg (fun z => some (Value.int z)) (by rw [fSel_in hq (by omega)]; unfold fLg; rw [if_neg (by rw [← hce]; omega), hce]; rfl), rfl⟩
            · refine g_iload_n (pc := 82) 1 rfl rfl dX6_longest_82 ?_
              refine g_tableIn (pc := 83) (off := 31) 114 dX6_longest_83 (by decide) (by decide) (by decide) (by decide) ?_
              refine g_iload_n (pc := 114) 3 rfl rfl dX6_longest_114 ?_
              refine g_callS (pc := 115) (mc := mX6_landOf) (rest := []) lX6_220 iX6_landOf (kX6_landOf l E M ((sLg (fun z => sWeeks (cV M b) (M.1 b 1) (M.1 1 5) (M.1 b 4) (M.1 b 5) z 4) c).2.1) (by omega)) ⟨Nat.le_of_ble_eq_true rfl, Nat.le_of_ble_eq_true rfl⟩ rfl rfl (Nat.le_of_ble_eq_true rfl) ⟨Nat.zero_le _, Nat.zero_le _⟩ dX6_longest_115 (g_rI ?_)
              exact g_iret (pc := 118) rfl dX6_longest_118 ⟨congrArg (fun z => some (Value.int z)) (by rw [fSel_in hq (by omega)]; unfold fLg; rw [if_neg (by rw [← hce]; omega), hce]; rfl), rfl⟩
            · refine g_iload_n (pc := 82) 1 rfl rfl dX6_longest_82 ?_
              refine g_tableIn (pc := 83) (off := 36) 119 dX6_longest_83 (by decide) (by decide) (by decide) (by decide) ?_
              refine g_iload_n (pc := 119) 3 rfl rfl dX6_longest_119 ?_
              refine g_callS (pc := 120) (mc := mX6_tongueOf) (rest := []) lX6_223 iX6_tongueOf (kX6_tongueOf l E M ((sLg (fun z => sWeeks (cV M b) (M.1 b 1) (M.1 1 5) (M.1 b 4) (M.1 b 5) z 4) c).2.1) (by omega)) ⟨Nat.le_of_ble_eq_true rfl, Nat.le_of_ble_eq_true rfl⟩ rfl rfl (Nat.le_of_ble_eq_true rfl) ⟨Nat.zero_le _, Nat.zero_le _⟩ dX6_longest_120 (g_rI ?_)
              exact g_iret (pc := 123) rfl dX6_longest_123 ⟨congrArg (fun z => some (Value.int z)) (by rw [fSel_in hq (by omega)]; unfold fLg; rw [if_neg (by rw [← hce]; omega), hce]; rfl), rfl⟩
            · refine g_iload_n (pc := 82) 1 rfl rfl dX6_longest_82 ?_
              refine g_tableIn (pc := 83) (off := 41) 124 dX6_longest_83 (by decide) (by decide) (by decide) (by decide) ?_
              refine g_iload_n (pc := 124) 3 rfl rfl dX6_longest_124 ?_
              refine g_callS (pc := 125) (mc := mX6_meansOf) (rest := []) lX6_226 iX6_meansOf (kX6_meansOf l E M ((sLg (fun z => sWeeks (cV M b) (M.1 b 1) (M.1 1 5) (M.1 b 4) (M.1 b 5) z 4) c).2.1) (by omega)) ⟨Nat.le_of_ble_eq_true rfl, Nat.le_of_ble_eq_true rfl⟩ rfl rfl (Nat.le_of_ble_eq_true rfl) ⟨Nat.zero_le _, Nat.zero_le _⟩ dX6_longest_125 (g_rI ?_)
              exact g_iret (pc := 128) rfl dX6_longest_128 ⟨congrArg (fun z => some (Value.int z)) (by rw [fSel_in hq (by omega)]; unfold fLg; rw [if_neg (by rw [← hce]; omega), hce]; rfl), rfl⟩
            · refine g_iload_n (pc := 82) 1 rfl rfl dX6_longest_82 ?_
              refine g_tableOut (pc := 83) 129 dX6_longest_83 (by decide) (by decide) ?_
              refine g_iload (pc := 129) 4 rfl dX6_longest_129 ?_
              exact g_iret (pc := 131) rfl dX6_longest_131 ⟨congrArg (fun z => some (Value.int z)) (by rw [fSel_in hq (by omega)]; unfold fLg; rw [if_neg (by rw [← hce]; omega), hce]; rfl), rfl⟩
          · refine g_bipush (pc := 79) ((-4)) (by decide) dX6_longest_79 ?_
            exact g_iret (pc := 81) rfl dX6_longest_81 ⟨congrArg (fun z => some (Value.int z)) (by rw [fSel_in hq (by omega)]; unfold fLg; rw [if_pos (by rw [← hce]; exact h76)]), rfl⟩
        · have hlg := sLg_le (fun z => sWeeks (cV M b) (M.1 b 1) (M.1 1 5) (M.1 b 4) (M.1 b 5) z 4) c
          have hlt := sWeeks_lt (V := cV M b) (n := M.1 b 1) (sg := M.1 1 5) (fr := M.1 b 4) (row := c) (q := 4) hto
          have hls := sLs_le (sWeeks (cV M b) (M.1 b 1) (M.1 1 5) (M.1 b 4) (M.1 b 5) c 4) 52
          have hrn := sRn_le (sWeeks (cV M b) (M.1 b 1) (M.1 1 5) (M.1 b 4) (M.1 b 5) c 4) (52 - (sLs (sWeeks (cV M b) (M.1 b 1) (M.1 1 5) (M.1 b 4) (M.1 b 5) c 4) 52).2.1) (sLs (sWeeks (cV M b) (M.1 b 1) (M.1 1 5) (M.1 b 4) (M.1 b 5) c 4) 52).2.1
          refine g_aload_n (pc := 28) 0 rfl rfl dX6_longest_28 ?_
          refine g_iload (pc := 29) 5 rfl dX6_longest_29 ?_
          refine g_iconst (pc := 31) (nI 4) (by decide) dX6_longest_31 ?_
          refine g_callV (pc := 32) (mc := mX6_weeksOf) (rest := []) lX6_193 iX6_weeksOf (kX6_weeksOf l E M b b' hS hO hsg c 4 (by omega) (by omega)) ⟨Nat.le_of_ble_eq_true rfl, Nat.le_of_ble_eq_true rfl⟩ hS.s1 (by decide) (by decide) rfl rfl rfl rfl (Nat.le_of_ble_eq_true rfl) ⟨Nat.zero_le _, Nat.zero_le _⟩ dX6_longest_32 (g_rL ?_)
          refine g_lstore (pc := 35) [(0, .ref (gAd E 1)), (1, .int (nI q)), (2, .int (nI ((sLg (fun z => sWeeks (cV M b) (M.1 b 1) (M.1 1 5) (M.1 b 4) (M.1 b 5) z 4) c).1))), (3, .int (nI ((sLg (fun z => sWeeks (cV M b) (M.1 b 1) (M.1 1 5) (M.1 b 4) (M.1 b 5) z 4) c).2.1))), (4, .int (nI ((sLg (fun z => sWeeks (cV M b) (M.1 b 1) (M.1 1 5) (M.1 b 4) (M.1 b 5) z 4) c).2.2))), (5, .int (nI c)), (6, .long (lN (sWeeks (cV M b) (M.1 b 1) (M.1 1 5) (M.1 b 4) (M.1 b 5) c 4)))] dX6_longest_35 (by decide) rfl rfl ?_
          refine g_lload (pc := 37) 6 rfl dX6_longest_37 ?_
          refine g_callS (pc := 39) (mc := mX6_longestStart) (rest := []) lX6_217 iX6_longestStart (kX6_longestStart l E M (sWeeks (cV M b) (M.1 b 1) (M.1 1 5) (M.1 b 4) (M.1 b 5) c 4) (Nat.lt_trans hlt (by decide))) ⟨Nat.le_of_ble_eq_true rfl, Nat.le_of_ble_eq_true rfl⟩ rfl rfl (Nat.le_of_ble_eq_true rfl) ⟨Nat.zero_le _, Nat.zero_le _⟩ dX6_longest_39 (g_rI ?_)
          refine g_istore (pc := 42) [(0, .ref (gAd E 1)), (1, .int (nI q)), (2, .int (nI ((sLg (fun z => sWeeks (cV M b) (M.1 b 1) (M.1 1 5) (M.1 b 4) (M.1 b 5) z 4) c).1))), (3, .int (nI ((sLg (fun z => sWeeks (cV M b) (M.1 b 1) (M.1 1 5) (M.1 b 4) (M.1 b 5) z 4) c).2.1))), (4, .int (nI ((sLg (fun z => sWeeks (cV M b) (M.1 b 1) (M.1 1 5) (M.1 b 4) (M.1 b 5) z 4) c).2.2))), (5, .int (nI c)), (6, .long (lN (sWeeks (cV M b) (M.1 b 1) (M.1 1 5) (M.1 b 4) (M.1 b 5) c 4))), (8, .int (nI ((sLs (sWeeks (cV M b) (M.1 b 1) (M.1 1 5) (M.1 b 4) (M.1 b 5) c 4) 52).2.1)))] dX6_longest_42 (by decide) rfl rfl ?_
          refine g_lload (pc := 44) 6 rfl dX6_longest_44 ?_
          refine g_iload (pc := 46) 7 rfl dX6_longest_46 ?_
          refine g_callS (pc := 48) (mc := mX6_windowLength) (rest := []) lX6_214 iX6_windowLength (kX6_windowLength l E M (sWeeks (cV M b) (M.1 b 1) (M.1 1 5) (M.1 b 4) (M.1 b 5) c 4) ((sLs (sWeeks (cV M b) (M.1 b 1) (M.1 1 5) (M.1 b 4) (M.1 b 5) c 4) 52).2.1) (Nat.lt_trans hlt (by decide)) (by omega)) ⟨Nat.le_of_ble_eq_true rfl, Nat.le_of_ble_eq_true rfl⟩ rfl rfl (Nat.le_of_ble_eq_true rfl) ⟨Nat.zero_le _, Nat.zero_le _⟩ dX6_longest_48 (g_rI ?_)
          refine g_istore (pc := 51) [(0, .ref (gAd E 1)), (1, .int (nI q)), (2, .int (nI ((sLg (fun z => sWeeks (cV M b) (M.1 b 1) (M.1 1 5) (M.1 b 4) (M.1 b 5) z 4) c).1))), (3, .int (nI ((sLg (fun z => sWeeks (cV M b) (M.1 b 1) (M.1 1 5) (M.1 b 4) (M.1 b 5) z 4) c).2.1))), (4, .int (nI ((sLg (fun z => sWeeks (cV M b) (M.1 b 1) (M.1 1 5) (M.1 b 4) (M.1 b 5) z 4) c).2.2))), (5, .int (nI c)), (6, .long (lN (sWeeks (cV M b) (M.1 b 1) (M.1 1 5) (M.1 b 4) (M.1 b 5) c 4))), (8, .int (nI ((sLs (sWeeks (cV M b) (M.1 b 1) (M.1 1 5) (M.1 b 4) (M.1 b 5) c 4) 52).2.1))), (9, .int (nI (sRn (sWeeks (cV M b) (M.1 b 1) (M.1 1 5) (M.1 b 4) (M.1 b 5) c 4) ((sLs (sWeeks (cV M b) (M.1 b 1) (M.1 1 5) (M.1 b 4) (M.1 b 5) c 4) 52).2.1) (52 - ((sLs (sWeeks (cV M b) (M.1 b 1) (M.1 1 5) (M.1 b 4) (M.1 b 5) c 4) 52).2.1)))))] dX6_longest_51 (by decide) rfl rfl ?_
          refine g_iload (pc := 53) 8 rfl dX6_longest_53 ?_
          refine g_iload_n (pc := 55) 2 rfl rfl dX6_longest_55 ?_
          refine g_icmpN_le (pc := 56) 69 dX6_longest_56 (by decide) (by omega) (by omega) (fun h56 => ?_) (fun h56 => ?_)
          · refine g_iincN (pc := 69) 1 5 [(0, .ref (gAd E 1)), (1, .int (nI q)), (2, .int (nI ((sLg (fun z => sWeeks (cV M b) (M.1 b 1) (M.1 1 5) (M.1 b 4) (M.1 b 5) z 4) c).1))), (3, .int (nI ((sLg (fun z => sWeeks (cV M b) (M.1 b 1) (M.1 1 5) (M.1 b 4) (M.1 b 5) z 4) c).2.1))), (4, .int (nI ((sLg (fun z => sWeeks (cV M b) (M.1 b 1) (M.1 1 5) (M.1 b 4) (M.1 b 5) z 4) c).2.2))), (5, .int (nI (c + 1))), (6, .long (lN (sWeeks (cV M b) (M.1 b 1) (M.1 1 5) (M.1 b 4) (M.1 b 5) c 4))), (8, .int (nI ((sLs (sWeeks (cV M b) (M.1 b 1) (M.1 1 5) (M.1 b 4) (M.1 b 5) c 4) 52).2.1))), (9, .int (nI (sRn (sWeeks (cV M b) (M.1 b 1) (M.1 1 5) (M.1 b 4) (M.1 b 5) c 4) ((sLs (sWeeks (cV M b) (M.1 b 1) (M.1 1 5) (M.1 b 4) (M.1 b 5) c 4) 52).2.1) (52 - ((sLs (sWeeks (cV M b) (M.1 b 1) (M.1 1 5) (M.1 b 4) (M.1 b 5) c 4) 52).2.1)))))] rfl dX6_longest_69 (by decide) rfl rfl ?_
            refine g_goto (pc := 72) 21 dX6_longest_72 (by decide) ?_
            refine g_pick (pc := 21) [0, 1, 2, 3, 4, 5] [(0, .ref (gAd E 1)), (1, .int (nI q)), (2, .int (nI ((sLg (fun z => sWeeks (cV M b) (M.1 b 1) (M.1 1 5) (M.1 b 4) (M.1 b 5) z 4) c).1))), (3, .int (nI ((sLg (fun z => sWeeks (cV M b) (M.1 b 1) (M.1 1 5) (M.1 b 4) (M.1 b 5) z 4) c).2.1))), (4, .int (nI ((sLg (fun z => sWeeks (cV M b) (M.1 b 1) (M.1 1 5) (M.1 b 4) (M.1 b 5) z 4) c).2.2))), (5, .int (nI (c + 1)))] rfl ?_
            refine g_lv (pc := 21) (lv' := [(0, .ref (gAd E 1)), (1, .int (nI q)), (2, .int (nI ((sLg (fun z => sWeeks (cV M b) (M.1 b 1) (M.1 1 5) (M.1 b 4) (M.1 b 5) z 4) (c + 1)).1))), (3, .int (nI ((sLg (fun z => sWeeks (cV M b) (M.1 b 1) (M.1 1 5) (M.1 b 4) (M.1 b 5) z 4) (c + 1)).2.1))), (4, .int (nI ((sLg (fun z => sWeeks (cV M b) (M.1 b 1) (M.1 1 5) (M.1 b 4) (M.1 b 5) z 4) (c + 1)).2.2))), (5, .int (nI (c + 1)))]) (by rw [sLg_n (x := (fun z => sWeeks (cV M b) (M.1 b 1) (M.1 1 5) (M.1 b 4) (M.1 b 5) z 4)) h56]) ?_
            exact ihc (by omega)
          · refine g_iload (pc := 59) 8 rfl dX6_longest_59 ?_
            refine g_istore_n (pc := 61) rfl [(0, .ref (gAd E 1)), (1, .int (nI q)), (2, .int (nI (sRn (sWeeks (cV M b) (M.1 b 1) (M.1 1 5) (M.1 b 4) (M.1 b 5) c 4) ((sLs (sWeeks (cV M b) (M.1 b 1) (M.1 1 5) (M.1 b 4) (M.1 b 5) c 4) 52).2.1) (52 - ((sLs (sWeeks (cV M b) (M.1 b 1) (M.1 1 5) (M.1 b 4) (M.1 b 5) c 4) 52).2.1))))), (3, .int (nI ((sLg (fun z => sWeeks (cV M b) (M.1 b 1) (M.1 1 5) (M.1 b 4) (M.1 b 5) z 4) c).2.1))), (4, .int (nI ((sLg (fun z => sWeeks (cV M b) (M.1 b 1) (M.1 1 5) (M.1 b 4) (M.1 b 5) z 4) c).2.2))), (5, .int (nI c)), (6, .long (lN (sWeeks (cV M b) (M.1 b 1) (M.1 1 5) (M.1 b 4) (M.1 b 5) c 4))), (8, .int (nI ((sLs (sWeeks (cV M b) (M.1 b 1) (M.1 1 5) (M.1 b 4) (M.1 b 5) c 4) 52).2.1))), (9, .int (nI (sRn (sWeeks (cV M b) (M.1 b 1) (M.1 1 5) (M.1 b 4) (M.1 b 5) c 4) ((sLs (sWeeks (cV M b) (M.1 b 1) (M.1 1 5) (M.1 b 4) (M.1 b 5) c 4) 52).2.1) (52 - ((sLs (sWeeks (cV M b) (M.1 b 1) (M.1 1 5) (M.1 b 4) (M.1 b 5) c 4) 52).2.1)))))] dX6_longest_61 (by decide) rfl rfl ?_
            refine g_iload (pc := 62) 5 rfl dX6_longest_62 ?_
            refine g_istore_n (pc := 64) rfl [(0, .ref (gAd E 1)), (1, .int (nI q)), (2, .int (nI (sRn (sWeeks (cV M b) (M.1 b 1) (M.1 1 5) (M.1 b 4) (M.1 b 5) c 4) ((sLs (sWeeks (cV M b) (M.1 b 1) (M.1 1 5) (M.1 b 4) (M.1 b 5) c 4) 52).2.1) (52 - ((sLs (sWeeks (cV M b) (M.1 b 1) (M.1 1 5) (M.1 b 4) (M.1 b 5) c 4) 52).2.1))))), (3, .int (nI c)), (4, .int (nI ((sLg (fun z => sWeeks (cV M b) (M.1 b 1) (M.1 1 5) (M.1 b 4) (M.1 b 5) z 4) c).2.2))), (5, .int (nI c)), (6, .long (lN (sWeeks (cV M b) (M.1 b 1) (M.1 1 5) (M.1 b 4) (M.1 b 5) c 4))), (8, .int (nI ((sLs (sWeeks (cV M b) (M.1 b 1) (M.1 1 5) (M.1 b 4) (M.1 b 5) c 4) 52).2.1))), (9, .int (nI (sRn (sWeeks (cV M b) (M.1 b 1) (M.1 1 5) (M.1 b 4) (M.1 b 5) c 4) ((sLs (sWeeks (cV M b) (M.1 b 1) (M.1 1 5) (M.1 b 4) (M.1 b 5) c 4) 52).2.1) (52 - ((sLs (sWeeks (cV M b) (M.1 b 1) (M.1 1 5) (M.1 b 4) (M.1 b 5) c 4) 52).2.1)))))] dX6_longest_64 (by decide) rfl rfl ?_
            refine g_iload (pc := 65) 7 rfl dX6_longest_65 ?_
            refine g_istore (pc := 67) [(0, .ref (gAd E 1)), (1, .int (nI q)), (2, .int (nI (sRn (sWeeks (cV M b) (M.1 b 1) (M.1 1 5) (M.1 b 4) (M.1 b 5) c 4) ((sLs (sWeeks (cV M b) (M.1 b 1) (M.1 1 5) (M.1 b 4) (M.1 b 5) c 4) 52).2.1) (52 - ((sLs (sWeeks (cV M b) (M.1 b 1) (M.1 1 5) (M.1 b 4) (M.1 b 5) c 4) 52).2.1))))), (3, .int (nI c)), (4, .int (nI ((sLs (sWeeks (cV M b) (M.1 b 1) (M.1 1 5) (M.1 b 4) (M.1 b 5) c 4) 52).2.1))), (5, .int (nI c)), (6, .long (lN (sWeeks (cV M b) (M.1 b 1) (M.1 1 5) (M.1 b 4) (M.1 b 5) c 4))), (8, .int (nI ((sLs (sWeeks (cV M b) (M.1 b 1) (M.1 1 5) (M.1 b 4) (M.1 b 5) c 4) 52).2.1))), (9, .int (nI (sRn (sWeeks (cV M b) (M.1 b 1) (M.1 1 5) (M.1 b 4) (M.1 b 5) c 4) ((sLs (sWeeks (cV M b) (M.1 b 1) (M.1 1 5) (M.1 b 4) (M.1 b 5) c 4) 52).2.1) (52 - ((sLs (sWeeks (cV M b) (M.1 b 1) (M.1 1 5) (M.1 b 4) (M.1 b 5) c 4) 52).2.1)))))] dX6_longest_67 (by decide) rfl rfl ?_
            refine g_iincN (pc := 69) 1 5 [(0, .ref (gAd E 1)), (1, .int (nI q)), (2, .int (nI (sRn (sWeeks (cV M b) (M.1 b 1) (M.1 1 5) (M.1 b 4) (M.1 b 5) c 4) ((sLs (sWeeks (cV M b) (M.1 b 1) (M.1 1 5) (M.1 b 4) (M.1 b 5) c 4) 52).2.1) (52 - ((sLs (sWeeks (cV M b) (M.1 b 1) (M.1 1 5) (M.1 b 4) (M.1 b 5) c 4) 52).2.1))))), (3, .int (nI c)), (4, .int (nI ((sLs (sWeeks (cV M b) (M.1 b 1) (M.1 1 5) (M.1 b 4) (M.1 b 5) c 4) 52).2.1))), (5, .int (nI (c + 1))), (6, .long (lN (sWeeks (cV M b) (M.1 b 1) (M.1 1 5) (M.1 b 4) (M.1 b 5) c 4))), (8, .int (nI ((sLs (sWeeks (cV M b) (M.1 b 1) (M.1 1 5) (M.1 b 4) (M.1 b 5) c 4) 52).2.1))), (9, .int (nI (sRn (sWeeks (cV M b) (M.1 b 1) (M.1 1 5) (M.1 b 4) (M.1 b 5) c 4) ((sLs (sWeeks (cV M b) (M.1 b 1) (M.1 1 5) (M.1 b 4) (M.1 b 5) c 4) 52).2.1) (52 - ((sLs (sWeeks (cV M b) (M.1 b 1) (M.1 1 5) (M.1 b 4) (M.1 b 5) c 4) 52).2.1)))))] rfl dX6_longest_69 (by decide) rfl rfl ?_
            refine g_goto (pc := 72) 21 dX6_longest_72 (by decide) ?_
            refine g_pick (pc := 21) [0, 1, 2, 3, 4, 5] [(0, .ref (gAd E 1)), (1, .int (nI q)), (2, .int (nI (sRn (sWeeks (cV M b) (M.1 b 1) (M.1 1 5) (M.1 b 4) (M.1 b 5) c 4) ((sLs (sWeeks (cV M b) (M.1 b 1) (M.1 1 5) (M.1 b 4) (M.1 b 5) c 4) 52).2.1) (52 - ((sLs (sWeeks (cV M b) (M.1 b 1) (M.1 1 5) (M.1 b 4) (M.1 b 5) c 4) 52).2.1))))), (3, .int (nI c)), (4, .int (nI ((sLs (sWeeks (cV M b) (M.1 b 1) (M.1 1 5) (M.1 b 4) (M.1 b 5) c 4) 52).2.1))), (5, .int (nI (c + 1)))] rfl ?_
            refine g_lv (pc := 21) (lv' := [(0, .ref (gAd E 1)), (1, .int (nI q)), (2, .int (nI ((sLg (fun z => sWeeks (cV M b) (M.1 b 1) (M.1 1 5) (M.1 b 4) (M.1 b 5) z 4) (c + 1)).1))), (3, .int (nI ((sLg (fun z => sWeeks (cV M b) (M.1 b 1) (M.1 1 5) (M.1 b 4) (M.1 b 5) z 4) (c + 1)).2.1))), (4, .int (nI ((sLg (fun z => sWeeks (cV M b) (M.1 b 1) (M.1 1 5) (M.1 b 4) (M.1 b 5) z 4) (c + 1)).2.2))), (5, .int (nI (c + 1)))]) (by rw [sLg_p (x := (fun z => sWeeks (cV M b) (M.1 b 1) (M.1 1 5) (M.1 b 4) (M.1 b 5) z 4)) h56]) ?_
            exact ihc (by omega)
      refine g_lv (pc := 21) (lv' := [(0, .ref (gAd E 1)), (1, .int (nI q)), (2, .int (nI ((sLg (fun z => sWeeks (cV M b) (M.1 b 1) (M.1 1 5) (M.1 b 4) (M.1 b 5) z 4) 0).1))), (3, .int (nI ((sLg (fun z => sWeeks (cV M b) (M.1 b 1) (M.1 1 5) (M.1 b 4) (M.1 b 5) z 4) 0).2.1))), (4, .int (nI ((sLg (fun z => sWeeks (cV M b) (M.1 b 1) (M.1 1 5) (M.1 b 4) (M.1 b 5) z 4) 0).2.2))), (5, .int (nI 0))]) rfl ?_
      exact lp21 0 (by omega)
    · refine g_iconst (pc := 9) ((-1)) (by decide) dX6_longest_9 ?_
      exact g_iret (pc := 10) rfl dX6_longest_10 ⟨congrArg (fun z => some (Value.int z)) (by rw [fSel_out (inR_f (by right; have := i32_gt (by omega) h6; omega))]), rfl⟩
set_option maxRecDepth 100000 in
set_option maxHeartbeats 4000000 in
theorem kX6_best (l : Launch) (E : gEnv) (M : gMem) (b b' : Nat) (hS : cS E M b b') (hO : cO M b) (hsg : M.1 1 5 < 1024) (q : Int32) : gMetI l E mX6_best 6 [.ref (gAd E 1), .int q] M (fTwo q (nI (sPrice (cV M b) (M.1 b 1) (sBest (cV M b) (M.1 b 1) (goodC (cV M b) (M.1 b 1) (cH M b) (M.1 b 3) (M.1 b 4) (M.1 b 5)) (2 ^ M.1 b 1)))) (nI (sBest (cV M b) (M.1 b 1) (goodC (cV M b) (M.1 b 1) (cH M b) (M.1 b 3) (M.1 b 4) (M.1 b 5)) (2 ^ M.1 b 1))) (-1)) := by
  have hB := hS.B
  have hO' := hO
  obtain ⟨hn, hk, hft, hto, hU, hH⟩ := hO
  have hO := hO'
  have hp : 2 ^ M.1 b 1 ≤ 1024 := Nat.pow_le_pow_right (n := 2) (by decide) hn
  refine gMet_of (mm := mX6_best) (h := 6) (M := M) [(0, .ref (gAd E 1)), (1, .int q)] (by decide) (Nat.le_of_ble_eq_true rfl) rfl ?_
  refine g_iload_n (pc := 0) 1 rfl rfl dX6_best_0 ?_
  refine g_if_eq (pc := 1) 11 dX6_best_1 (by decide) (fun h1 => ?_) (fun h1 => ?_)
  · obtain rfl : q = nI 0 := h1
    refine g_aload_n (pc := 11) 0 rfl rfl dX6_best_11 ?_
    refine fX6_23 (pc := 12) b rfl hS.s1 hS.rb hS.b0 dX6_best_12 ?_
    refine g_callV (pc := 15) (mc := mX0_bestSet) (rest := []) lX6_241 iX0_bestSet (kX0_bestSet l E M b hB hO) ⟨Nat.le_of_ble_eq_true rfl, Nat.le_of_ble_eq_true rfl⟩ hB.1.1 (by decide) (by decide) rfl rfl rfl rfl (Nat.le_of_ble_eq_true rfl) ⟨Nat.zero_le _, Nat.zero_le _⟩ dX6_best_15 (g_rI ?_)
    refine g_istore_n (pc := 18) rfl [(0, .ref (gAd E 1)), (1, .int (nI 0)), (2, .int (nI (sBest (cV M b) (M.1 b 1) (goodC (cV M b) (M.1 b 1) (cH M b) (M.1 b 3) (M.1 b 4) (M.1 b 5)) (2 ^ M.1 b 1))))] dX6_best_18 (by decide) rfl rfl ?_
    refine g_iload_n (pc := 19) 1 rfl rfl dX6_best_19 ?_
    refine g_ifN_ne (pc := 20) 34 dX6_best_20 (by decide) (by omega) (fun h20 => absurd h20 (by omega)) (fun h20 => ?_)
    refine g_aload_n (pc := 23) 0 rfl rfl dX6_best_23 ?_
    refine fX6_23 (pc := 24) b rfl hS.s1 hS.rb hS.b0 dX6_best_24 ?_
    refine g_iload_n (pc := 27) 2 rfl rfl dX6_best_27 ?_
    refine g_callV (pc := 28) (mc := mX0_priceOf) (rest := []) lX6_244 iX0_priceOf (kX0_priceOf l E M b (sBest (cV M b) (M.1 b 1) (goodC (cV M b) (M.1 b 1) (cH M b) (M.1 b 3) (M.1 b 4) (M.1 b 5)) (2 ^ M.1 b 1)) hB (by have := sBest_le (V := cV M b) (n := M.1 b 1) (good := (goodC (cV M b) (M.1 b 1) (cH M b) (M.1 b 3) (M.1 b 4) (M.1 b 5))) (2 ^ M.1 b 1); omega) (by omega)) ⟨Nat.le_of_ble_eq_true rfl, Nat.le_of_ble_eq_true rfl⟩ hB.1.1 (by decide) (by decide) rfl rfl rfl rfl (Nat.le_of_ble_eq_true rfl) ⟨Nat.zero_le _, Nat.zero_le _⟩ dX6_best_28 (g_rI ?_)
    refine g_goto (pc := 31) 35 dX6_best_31 (by decide) ?_
    exact g_iret (pc := 35) rfl dX6_best_35 ⟨congrArg (fun z => some (Value.int z)) (by rw [fTwo_0]), rfl⟩
  · refine g_iload_n (pc := 4) 1 rfl rfl dX6_best_4 ?_
    refine g_iconst (pc := 5) (nI 1) (by decide) dX6_best_5 ?_
    refine g_icmp_eq (pc := 6) 11 dX6_best_6 (by decide) (fun h6 => ?_) (fun h6 => ?_)
    · obtain rfl : q = nI 1 := h6
      refine g_aload_n (pc := 11) 0 rfl rfl dX6_best_11 ?_
      refine fX6_23 (pc := 12) b rfl hS.s1 hS.rb hS.b0 dX6_best_12 ?_
      refine g_callV (pc := 15) (mc := mX0_bestSet) (rest := []) lX6_241 iX0_bestSet (kX0_bestSet l E M b hB hO) ⟨Nat.le_of_ble_eq_true rfl, Nat.le_of_ble_eq_true rfl⟩ hB.1.1 (by decide) (by decide) rfl rfl rfl rfl (Nat.le_of_ble_eq_true rfl) ⟨Nat.zero_le _, Nat.zero_le _⟩ dX6_best_15 (g_rI ?_)
      refine g_istore_n (pc := 18) rfl [(0, .ref (gAd E 1)), (1, .int (nI 1)), (2, .int (nI (sBest (cV M b) (M.1 b 1) (goodC (cV M b) (M.1 b 1) (cH M b) (M.1 b 3) (M.1 b 4) (M.1 b 5)) (2 ^ M.1 b 1))))] dX6_best_18 (by decide) rfl rfl ?_
      refine g_iload_n (pc := 19) 1 rfl rfl dX6_best_19 ?_
      refine g_ifN_ne (pc := 20) 34 dX6_best_20 (by decide) (by omega) (fun h20 => ?_) (fun h20 => absurd h20 (by omega))
      refine g_iload_n (pc := 34) 2 rfl rfl dX6_best_34 ?_
      exact g_iret (pc := 35) rfl dX6_best_35 ⟨congrArg (fun z => some (Value.int z)) (by rw [fTwo_1]), rfl⟩
    · refine g_iconst (pc := 9) ((-1)) (by decide) dX6_best_9 ?_
      exact g_iret (pc := 10) rfl dX6_best_10 ⟨congrArg (fun z => some (Value.int z)) (by rw [fTwo_n h1 h6]), rfl⟩
set_option maxRecDepth 100000 in
set_option maxHeartbeats 4000000 in
theorem kX6_offer (l : Launch) (E : gEnv) (M : gMem) (b b' : Nat) (hS : cS E M b b') (hO : cO M b) (hsg : M.1 1 5 < 1024) (x y : Int32) : gMetI l E mX6_offer 3 [.ref (gAd E 1), .int x, .int y] M (fSel (M.1 b 1) x (fun i => fSel 9 y (fun w => nI (sOffer (cV M b) (M.1 1 5) i w)) (-1)) (-1)) := by
  have hB := hS.B
  have hO' := hO
  obtain ⟨hn, hk, hft, hto, hU, hH⟩ := hO
  have hO := hO'
  refine gMet_of (mm := mX6_offer) (h := 3) (M := M) [(0, .ref (gAd E 1)), (1, .int x), (2, .int y)] (by decide) (Nat.le_of_ble_eq_true rfl) rfl ?_
  refine g_aload_n (pc := 0) 0 rfl rfl dX6_offer_0 ?_
  refine g_iload_n (pc := 1) 1 rfl rfl dX6_offer_1 ?_
  refine g_callV (pc := 2) (mc := mX6_isOffer) (rest := []) lX6_69 iX6_isOffer (kX6_isOffer l E M b b' hS hO hsg (x)) ⟨Nat.le_of_ble_eq_true rfl, Nat.le_of_ble_eq_true rfl⟩ hS.s1 (by decide) (by decide) rfl rfl rfl rfl (Nat.le_of_ble_eq_true rfl) ⟨Nat.zero_le _, Nat.zero_le _⟩ dX6_offer_2 (g_rI ?_)
  refine g_ifB_ne (pc := 5) 10 dX6_offer_5 (by decide) (fun h5 => ?_) (fun h5 => ?_)
  · obtain ⟨i, hi, rfl⟩ := inR_of h5
    refine g_aload_n (pc := 10) 0 rfl rfl dX6_offer_10 ?_
    refine fX6_23 (pc := 11) b rfl hS.s1 hS.rb hS.b0 dX6_offer_11 ?_
    refine fX6_93 (pc := 14) (b + 1) rfl hB.1.1 hB.1.2.2.2.2.2.1 (by omega) dX6_offer_14 ?_
    refine g_iload_n (pc := 17) 1 rfl rfl dX6_offer_17 ?_
    refine g_aaload (pc := 18) (t0 := 2) (r := (b + 3 + i)) hB.1.2.1 (by decide) rfl (by rw [hB.1.2.2.1]; omega) (by rw [hB.1.2.2.1]; omega) (hB.2.1 i (by omega)).2 (by omega) dX6_offer_18 ?_
    refine g_astore_n (pc := 19) rfl [(0, .ref (gAd E 1)), (1, .int (nI i)), (2, .int y), (3, .ref (gAd E ((b + 3 + i))))] dX6_offer_19 (by decide) rfl rfl ?_
    cases hq : inR y 9 with
    | false =>
      refine g_iload_n (pc := 20) 2 rfl rfl dX6_offer_20 ?_
      refine g_tableOut (pc := 21) 135 dX6_offer_21 (by have h := of_decide_eq_false hq; omega) (by decide) ?_
      refine g_iconst (pc := 135) ((-1)) (by decide) dX6_offer_135 ?_
      exact g_iret (pc := 136) rfl dX6_offer_136 ⟨congrArg (fun z => some (Value.int z)) (by rw [fSel_in hi (by omega), fSel_out hq]), rfl⟩
    | true =>
      obtain ⟨q, hq, rfl⟩ := inR_of hq
      rcases (show q = 0 ∨ q = 1 ∨ q = 2 ∨ q = 3 ∨ q = 4 ∨ q = 5 ∨ q = 6 ∨ q = 7 ∨ q = 8 by omega) with rfl | rfl | rfl | rfl | rfl | rfl | rfl | rfl | rfl
      · refine g_iload_n (pc := 20) 2 rfl rfl dX6_offer_20 ?_
        refine g_tableIn (pc := 21) (off := 51) 72 dX6_offer_21 (by decide) (by decide) (by decide) (by decide) ?_
        refine g_aload_n (pc := 72) 3 rfl rfl dX6_offer_72 ?_
        refine fX6_133 (pc := 73) rfl (hB.2.1 i (by omega)).1 dX6_offer_73 ?_
        exact g_iret (pc := 76) rfl dX6_offer_76 ⟨congrArg (fun z => some (Value.int z)) (by rw [fSel_in hi (by omega), fSel_in (by omega) (by omega)]; rfl), rfl⟩
      · refine g_iload_n (pc := 20) 2 rfl rfl dX6_offer_20 ?_
        refine g_tableIn (pc := 21) (off := 56) 77 dX6_offer_21 (by decide) (by decide) (by decide) (by decide) ?_
        refine g_aload_n (pc := 77) 3 rfl rfl dX6_offer_77 ?_
        refine fX6_136 (pc := 78) rfl (hB.2.1 i (by omega)).1 dX6_offer_78 ?_
        exact g_iret (pc := 81) rfl dX6_offer_81 ⟨congrArg (fun z => some (Value.int z)) (by rw [fSel_in hi (by omega), fSel_in (by omega) (by omega)]; rfl), rfl⟩
      · refine g_iload_n (pc := 20) 2 rfl rfl dX6_offer_20 ?_
        refine g_tableIn (pc := 21) (off := 61) 82 dX6_offer_21 (by decide) (by decide) (by decide) (by decide) ?_
        refine g_aload_n (pc := 82) 3 rfl rfl dX6_offer_82 ?_
        refine fX6_139 (pc := 83) rfl (hB.2.1 i (by omega)).1 dX6_offer_83 ?_
        exact g_iret (pc := 86) rfl dX6_offer_86 ⟨congrArg (fun z => some (Value.int z)) (by rw [fSel_in hi (by omega), fSel_in (by omega) (by omega)]; rfl), rfl⟩
      · refine g_iload_n (pc := 20) 2 rfl rfl dX6_offer_20 ?_
        refine g_tableIn (pc := 21) (off := 66) 87 dX6_offer_21 (by decide) (by decide) (by decide) (by decide) ?_
        refine g_aload_n (pc := 87) 3 rfl rfl dX6_offer_87 ?_
        refine g_callV (pc := 88) (mc := mX4_firstNow) (rest := []) lX6_142 iX4_firstNow (kX4_firstNow l E M ((b + 3 + i)) (hB.2.1 i (by omega)).1) ⟨Nat.le_of_ble_eq_true rfl, Nat.le_of_ble_eq_true rfl⟩ (hB.2.1 i (by omega)).1 (by decide) (by decide) rfl rfl rfl rfl (Nat.le_of_ble_eq_true rfl) ⟨Nat.zero_le _, Nat.zero_le _⟩ dX6_offer_88 (g_rI ?_)
        exact g_iret (pc := 91) rfl dX6_offer_91 ⟨congrArg (fun z => some (Value.int z)) (by rw [fSel_in hi (by omega), fSel_in (by omega) (by omega)]; rfl), rfl⟩
      · refine g_iload_n (pc := 20) 2 rfl rfl dX6_offer_20 ?_
        refine g_tableIn (pc := 21) (off := 71) 92 dX6_offer_21 (by decide) (by decide) (by decide) (by decide) ?_
        refine g_aload_n (pc := 92) 3 rfl rfl dX6_offer_92 ?_
        refine g_callV (pc := 93) (mc := mX4_lastNow) (rest := []) lX6_145 iX4_lastNow (kX4_lastNow l E M ((b + 3 + i)) (hB.2.1 i (by omega)).1) ⟨Nat.le_of_ble_eq_true rfl, Nat.le_of_ble_eq_true rfl⟩ (hB.2.1 i (by omega)).1 (by decide) (by decide) rfl rfl rfl rfl (Nat.le_of_ble_eq_true rfl) ⟨Nat.zero_le _, Nat.zero_le _⟩ dX6_offer_93 (g_rI ?_)
        exact g_iret (pc := 96) rfl dX6_offer_96 ⟨congrArg (fun z => some (Value.int z)) (by rw [fSel_in hi (by omega), fSel_in (by omega) (by omega)]; rfl), rfl⟩
      · refine g_iload_n (pc := 20) 2 rfl rfl dX6_offer_20 ?_
        refine g_tableIn (pc := 21) (off := 76) 97 dX6_offer_21 (by decide) (by decide) (by decide) (by decide) ?_
        have h5 : M.1 (b + 3 + i) 5 ≤ 1 := (hU i hi).2.2.2.2.2.1
        refine g_aload_n (pc := 97) 3 rfl rfl dX6_offer_97 ?_
        refine fX6_148 (pc := 98) rfl (hB.2.1 i (by omega)).1 dX6_offer_98 ?_
        refine g_ifN_eq (pc := 101) 108 dX6_offer_101 (by decide) (by omega) (fun h101 => ?_) (fun h101 => ?_)
        · refine g_iconst (pc := 108) (nI 0) (by decide) dX6_offer_108 ?_
          exact g_iret (pc := 109) rfl dX6_offer_109 ⟨congrArg (fun z => some (Value.int z)) (by rw [fSel_in hi (by omega), fSel_in (by omega) (by omega)]; show _ = nI (M.1 (b + 3 + i) 5); congr 1; omega), rfl⟩
        · refine g_iconst (pc := 104) (nI 1) (by decide) dX6_offer_104 ?_
          refine g_goto (pc := 105) 109 dX6_offer_105 (by decide) ?_
          exact g_iret (pc := 109) rfl dX6_offer_109 ⟨congrArg (fun z => some (Value.int z)) (by rw [fSel_in hi (by omega), fSel_in (by omega) (by omega)]; show _ = nI (M.1 (b + 3 + i) 5); congr 1; omega), rfl⟩
      · refine g_iload_n (pc := 20) 2 rfl rfl dX6_offer_20 ?_
        refine g_tableIn (pc := 21) (off := 89) 110 dX6_offer_21 (by decide) (by decide) (by decide) (by decide) ?_
        refine g_aload_n (pc := 110) 3 rfl rfl dX6_offer_110 ?_
        refine fX6_152 (pc := 111) rfl (hB.2.1 i (by omega)).1 dX6_offer_111 ?_
        exact g_iret (pc := 114) rfl dX6_offer_114 ⟨congrArg (fun z => some (Value.int z)) (by rw [fSel_in hi (by omega), fSel_in (by omega) (by omega)]; rfl), rfl⟩
      · refine g_iload_n (pc := 20) 2 rfl rfl dX6_offer_20 ?_
        refine g_tableIn (pc := 21) (off := 94) 115 dX6_offer_21 (by decide) (by decide) (by decide) (by decide) ?_
        refine g_aload_n (pc := 115) 0 rfl rfl dX6_offer_115 ?_
        refine g_iload_n (pc := 116) 1 rfl rfl dX6_offer_116 ?_
        refine g_callV (pc := 117) (mc := mX6_isSigned) (rest := []) lX6_90 iX6_isSigned (kX6_isSigned l E M b b' hS hO hsg i (by omega)) ⟨Nat.le_of_ble_eq_true rfl, Nat.le_of_ble_eq_true rfl⟩ hS.s1 (by decide) (by decide) rfl rfl rfl rfl (Nat.le_of_ble_eq_true rfl) ⟨Nat.zero_le _, Nat.zero_le _⟩ dX6_offer_117 (g_rI ?_)
        refine g_ifB_eq (pc := 120) 127 dX6_offer_120 (by decide) (fun h120 => ?_) (fun h120 => ?_)
        · refine g_iconst (pc := 127) (nI 0) (by decide) dX6_offer_127 ?_
          exact g_iret (pc := 128) rfl dX6_offer_128 ⟨congrArg (fun z => some (Value.int z)) (by rw [fSel_in hi (by omega), fSel_in (by omega) (by omega)]; show _ = nI (if (M.1 1 5).testBit i then 1 else 0); rw [h120]; rfl), rfl⟩
        · refine g_iconst (pc := 123) (nI 1) (by decide) dX6_offer_123 ?_
          refine g_goto (pc := 124) 128 dX6_offer_124 (by decide) ?_
          exact g_iret (pc := 128) rfl dX6_offer_128 ⟨congrArg (fun z => some (Value.int z)) (by rw [fSel_in hi (by omega), fSel_in (by omega) (by omega)]; show _ = nI (if (M.1 1 5).testBit i then 1 else 0); rw [h120]; rfl), rfl⟩
      · refine g_iload_n (pc := 20) 2 rfl rfl dX6_offer_20 ?_
        refine g_tableIn (pc := 21) (off := 108) 129 dX6_offer_21 (by decide) (by decide) (by decide) (by decide) ?_
        refine g_aload_n (pc := 129) 3 rfl rfl dX6_offer_129 ?_
        refine g_aload_n (pc := 130) 3 rfl rfl dX6_offer_130 ?_
        refine g_callV (pc := 131) (mc := mX4_commonPoints) (rest := []) lX6_155 iX4_commonPoints (kX4_commonPoints l E M ((b + 3 + i)) ((b + 3 + i)) (hB.2.1 i (by omega)).1 (hB.2.1 i (by omega)).1 (hU i hi) (hU i hi)) ⟨Nat.le_of_ble_eq_true rfl, Nat.le_of_ble_eq_true rfl⟩ (hB.2.1 i (by omega)).1 (by decide) (by decide) rfl rfl rfl rfl (Nat.le_of_ble_eq_true rfl) ⟨Nat.zero_le _, Nat.zero_le _⟩ dX6_offer_131 (g_rI ?_)
        exact g_iret (pc := 134) rfl dX6_offer_134 ⟨congrArg (fun z => some (Value.int z)) (by rw [fSel_in hi (by omega), fSel_in (by omega) (by omega)]; rfl), rfl⟩
  · refine g_iconst (pc := 8) ((-1)) (by decide) dX6_offer_8 ?_
    exact g_iret (pc := 9) rfl dX6_offer_9 ⟨congrArg (fun z => some (Value.int z)) (by rw [fSel_out h5]), rfl⟩
def sCount (n k fr to ones price pairs size letters : Nat) (w : Nat) : Nat := match w with
  | 0 => n
  | 1 => k
  | 2 => fr
  | 3 => to
  | 4 => ones
  | 5 => price
  | 6 => pairs
  | 7 => size
  | _ => letters
set_option maxRecDepth 100000 in
set_option maxHeartbeats 4000000 in
theorem kX6_count (l : Launch) (E : gEnv) (M : gMem) (b b' : Nat) (hS : cS E M b b') (hO : cO M b) (hsg : M.1 1 5 < 1024) (y : Int32) : gMetI l E mX6_count 4 [.ref (gAd E 1), .int y] M (fSel 9 y (fun w => nI (sCount (M.1 b 1) (M.1 b 3) (M.1 b 4) (M.1 b 5) (sOnes (M.1 1 5)) (sPrice (cV M b) (M.1 b 1) (M.1 1 5)) (sPc (cV M b) (M.1 b 1) (M.1 b 1)) (M.1 5 1) (M.1 1 1) w)) (-1)) := by
  have hB := hS.B
  have hO' := hO
  obtain ⟨hn, hk, hft, hto, hU, hH⟩ := hO
  have hO := hO'
  refine gMet_of (mm := mX6_count) (h := 4) (M := M) [(0, .ref (gAd E 1)), (1, .int y)] (by decide) (Nat.le_of_ble_eq_true rfl) rfl ?_
  cases hq : inR y 9 with
  | false =>
    refine g_iload_n (pc := 0) 1 rfl rfl dX6_count_0 ?_
    refine g_tableOut (pc := 1) 125 dX6_count_1 (by have h := of_decide_eq_false hq; omega) (by decide) ?_
    refine g_iconst (pc := 125) ((-1)) (by decide) dX6_count_125 ?_
    exact g_iret (pc := 126) rfl dX6_count_126 ⟨congrArg (fun z => some (Value.int z)) (by rw [fSel_out hq]), rfl⟩
  | true =>
    obtain ⟨q, hq, rfl⟩ := inR_of hq
    rcases (show q = 0 ∨ q = 1 ∨ q = 2 ∨ q = 3 ∨ q = 4 ∨ q = 5 ∨ q = 6 ∨ q = 7 ∨ q = 8 by omega) with rfl | rfl | rfl | rfl | rfl | rfl | rfl | rfl | rfl
    · refine g_iload_n (pc := 0) 1 rfl rfl dX6_count_0 ?_
      refine g_tableIn (pc := 1) (off := 51) 52 dX6_count_1 (by decide) (by decide) (by decide) (by decide) ?_
      refine g_aload_n (pc := 52) 0 rfl rfl dX6_count_52 ?_
      refine fX6_23 (pc := 53) b rfl hS.s1 hS.rb hS.b0 dX6_count_53 ?_
      refine fX6_60 (pc := 56) rfl hB.1.1 dX6_count_56 ?_
      exact g_iret (pc := 59) rfl dX6_count_59 ⟨congrArg (fun z => some (Value.int z)) (by rw [fSel_in (by omega) (by omega)]; rfl), rfl⟩
    · refine g_iload_n (pc := 0) 1 rfl rfl dX6_count_0 ?_
      refine g_tableIn (pc := 1) (off := 59) 60 dX6_count_1 (by decide) (by decide) (by decide) (by decide) ?_
      refine g_aload_n (pc := 60) 0 rfl rfl dX6_count_60 ?_
      refine fX6_23 (pc := 61) b rfl hS.s1 hS.rb hS.b0 dX6_count_61 ?_
      refine fX6_166 (pc := 64) rfl hB.1.1 dX6_count_64 ?_
      exact g_iret (pc := 67) rfl dX6_count_67 ⟨congrArg (fun z => some (Value.int z)) (by rw [fSel_in (by omega) (by omega)]; rfl), rfl⟩
    · refine g_iload_n (pc := 0) 1 rfl rfl dX6_count_0 ?_
      refine g_tableIn (pc := 1) (off := 67) 68 dX6_count_1 (by decide) (by decide) (by decide) (by decide) ?_
      refine g_aload_n (pc := 68) 0 rfl rfl dX6_count_68 ?_
      refine fX6_23 (pc := 69) b rfl hS.s1 hS.rb hS.b0 dX6_count_69 ?_
      refine fX6_181 (pc := 72) rfl hB.1.1 dX6_count_72 ?_
      exact g_iret (pc := 75) rfl dX6_count_75 ⟨congrArg (fun z => some (Value.int z)) (by rw [fSel_in (by omega) (by omega)]; rfl), rfl⟩
    · refine g_iload_n (pc := 0) 1 rfl rfl dX6_count_0 ?_
      refine g_tableIn (pc := 1) (off := 75) 76 dX6_count_1 (by decide) (by decide) (by decide) (by decide) ?_
      refine g_aload_n (pc := 76) 0 rfl rfl dX6_count_76 ?_
      refine fX6_23 (pc := 77) b rfl hS.s1 hS.rb hS.b0 dX6_count_77 ?_
      refine fX6_184 (pc := 80) rfl hB.1.1 dX6_count_80 ?_
      exact g_iret (pc := 83) rfl dX6_count_83 ⟨congrArg (fun z => some (Value.int z)) (by rw [fSel_in (by omega) (by omega)]; rfl), rfl⟩
    · refine g_iload_n (pc := 0) 1 rfl rfl dX6_count_0 ?_
      refine g_tableIn (pc := 1) (off := 83) 84 dX6_count_1 (by decide) (by decide) (by decide) (by decide) ?_
      refine g_aload_n (pc := 84) 0 rfl rfl dX6_count_84 ?_
      refine fX6_63 (pc := 85) rfl hS.s1 dX6_count_85 ?_
      refine g_callS (pc := 88) (mc := mJ6_bitCount_0f7a4) (rest := []) lX6_81 iJ6_bitCount_0f7a4 (kJ6_bitCount l E M (M.1 1 5) (by omega)) ⟨Nat.le_of_ble_eq_true rfl, Nat.le_of_ble_eq_true rfl⟩ rfl rfl (Nat.le_of_ble_eq_true rfl) ⟨Nat.zero_le _, Nat.zero_le _⟩ dX6_count_88 (g_rI ?_)
      exact g_iret (pc := 91) rfl dX6_count_91 ⟨congrArg (fun z => some (Value.int z)) (by rw [fSel_in (by omega) (by omega)]; rfl), rfl⟩
    · refine g_iload_n (pc := 0) 1 rfl rfl dX6_count_0 ?_
      refine g_tableIn (pc := 1) (off := 91) 92 dX6_count_1 (by decide) (by decide) (by decide) (by decide) ?_
      refine g_aload_n (pc := 92) 0 rfl rfl dX6_count_92 ?_
      refine fX6_23 (pc := 93) b rfl hS.s1 hS.rb hS.b0 dX6_count_93 ?_
      refine g_aload_n (pc := 96) 0 rfl rfl dX6_count_96 ?_
      refine fX6_63 (pc := 97) rfl hS.s1 dX6_count_97 ?_
      refine g_callV (pc := 100) (mc := mX0_priceOf) (rest := []) lX6_244 iX0_priceOf (kX0_priceOf l E M b (M.1 1 5) hB (by omega) (by omega)) ⟨Nat.le_of_ble_eq_true rfl, Nat.le_of_ble_eq_true rfl⟩ hB.1.1 (by decide) (by decide) rfl rfl rfl rfl (Nat.le_of_ble_eq_true rfl) ⟨Nat.zero_le _, Nat.zero_le _⟩ dX6_count_100 (g_rI ?_)
      exact g_iret (pc := 103) rfl dX6_count_103 ⟨congrArg (fun z => some (Value.int z)) (by rw [fSel_in (by omega) (by omega)]; rfl), rfl⟩
    · refine g_iload_n (pc := 0) 1 rfl rfl dX6_count_0 ?_
      refine g_tableIn (pc := 1) (off := 103) 104 dX6_count_1 (by decide) (by decide) (by decide) (by decide) ?_
      refine g_aload_n (pc := 104) 0 rfl rfl dX6_count_104 ?_
      refine fX6_23 (pc := 105) b rfl hS.s1 hS.rb hS.b0 dX6_count_105 ?_
      refine g_callV (pc := 108) (mc := mX0_clashingPairs) (rest := []) lX6_247 iX0_clashingPairs (kX0_clashingPairs l E M b hB hO) ⟨Nat.le_of_ble_eq_true rfl, Nat.le_of_ble_eq_true rfl⟩ hB.1.1 (by decide) (by decide) rfl rfl rfl rfl (Nat.le_of_ble_eq_true rfl) ⟨Nat.zero_le _, Nat.zero_le _⟩ dX6_count_108 (g_rI ?_)
      exact g_iret (pc := 111) rfl dX6_count_111 ⟨congrArg (fun z => some (Value.int z)) (by rw [fSel_in (by omega) (by omega)]; rfl), rfl⟩
    · refine g_iload_n (pc := 0) 1 rfl rfl dX6_count_0 ?_
      refine g_tableIn (pc := 1) (off := 111) 112 dX6_count_1 (by decide) (by decide) (by decide) (by decide) ?_
      refine g_aload_n (pc := 112) 0 rfl rfl dX6_count_112 ?_
      refine fX6_33 (pc := 113) 5 rfl hS.s1 hS.rh (by decide) dX6_count_113 ?_
      refine fX6_116 (pc := 116) rfl hS.s5 dX6_count_116 ?_
      exact g_iret (pc := 119) rfl dX6_count_119 ⟨congrArg (fun z => some (Value.int z)) (by rw [fSel_in (by omega) (by omega)]; rfl), rfl⟩
    · refine g_iload_n (pc := 0) 1 rfl rfl dX6_count_0 ?_
      refine g_tableIn (pc := 1) (off := 119) 120 dX6_count_1 (by decide) (by decide) (by decide) (by decide) ?_
      refine g_aload_n (pc := 120) 0 rfl rfl dX6_count_120 ?_
      refine fX6_49 (pc := 121) rfl hS.s1 dX6_count_121 ?_
      exact g_iret (pc := 124) rfl dX6_count_124 ⟨congrArg (fun z => some (Value.int z)) (by rw [fSel_in (by omega) (by omega)]; rfl), rfl⟩
