set_option maxRecDepth 100000 in
set_option maxHeartbeats 4000000 in
theorem kX7_beginOf (l : Launch) (E : gEnv) (M : gMem) (hR : mR E M) (hO : mO M) (set land means : Nat) (hs : set < 2147483648) (hl : land < 6) (hm : means < 4) : gMetI l E mX7_beginOf 1 [.ref (gAd E 60), .int (nI set), .int (nI land), .int (nI means)] M (oN (sBg (mV M) set land means (M.1 60 11))) := by
  have hO' := hO
  obtain ⟨hn, hk, hft, hto, hU, hH⟩ := hO
  have hO := hO'
  refine gMet_of (mm := mX7_beginOf) (h := 1) (M := M) [(0, .ref (gAd E 60)), (1, .int (nI set)), (2, .int (nI land)), (3, .int (nI means))] (by decide) (Nat.le_of_ble_eq_true rfl) rfl ?_
  refine g_bipush (pc := 0) ((-4)) (by decide) dX7_beginOf_0 ?_
  refine g_istore (pc := 2) [(0, .ref (gAd E 60)), (1, .int (nI set)), (2, .int (nI land)), (3, .int (nI means)), (4, .int ((-4)))] dX7_beginOf_2 (by decide) rfl rfl ?_
  refine g_iconst (pc := 4) (nI 0) (by decide) dX7_beginOf_4 ?_
  refine g_istore (pc := 5) [(0, .ref (gAd E 60)), (1, .int (nI set)), (2, .int (nI land)), (3, .int (nI means)), (4, .int ((-4))), (5, .int (nI 0))] dX7_beginOf_5 (by decide) rfl rfl ?_
  have lp7 : ∀ i, i ≤ M.1 60 11 → gG l (gV0 1 E (fun v u => v = some (.int (oN (sBg (mV M) set land means (M.1 60 11)))) ∧ u = M)) mX7_beginOf E (0, 0) M 7 [(0, .ref (gAd E 60)), (1, .int (nI set)), (2, .int (nI land)), (3, .int (nI means)), (4, .int (oN (sBg (mV M) set land means i))), (5, .int (nI i))] [] := by
    refine gloop (fun i hii ihi => ?_)
    refine g_iload (pc := 7) 5 rfl dX7_beginOf_7 ?_
    refine g_aload_n (pc := 9) 0 rfl rfl dX7_beginOf_9 ?_
    refine fX7_61 (pc := 10) rfl hR.s0 dX7_beginOf_10 ?_
    refine g_icmpN_ge (pc := 13) 107 dX7_beginOf_13 (by decide) (by omega) (by omega) (fun h13 => ?_) (fun h13 => ?_)
    · refine g_iload (pc := 107) 4 rfl dX7_beginOf_107 ?_
      exact g_iret (pc := 109) rfl dX7_beginOf_109 ⟨congrArg (fun z => some (Value.int z)) (by rw [show i = M.1 60 11 by omega]), rfl⟩
    · obtain ⟨u0, u1, u2, u3, u4, u5, u6, u7⟩ := hU i h13
      refine g_iload_n (pc := 16) 1 rfl rfl dX7_beginOf_16 ?_
      refine g_iload (pc := 17) 5 rfl dX7_beginOf_17 ?_
      refine g_ishrN (pc := 19) (by omega) (by omega) dX7_beginOf_19 ?_
      refine g_iconst (pc := 20) (nI 1) (by decide) dX7_beginOf_20 ?_
      refine g_iand1 (pc := 21) dX7_beginOf_21 ?_
      refine g_iconst (pc := 22) (nI 1) (by decide) dX7_beginOf_22 ?_
      refine g_icmpN_ne (pc := 23) 60 dX7_beginOf_23 (by decide) (by omega) (by omega) (fun h23 => ?_) (fun h23 => ?_)
      · refine g_iconst (pc := 60) (nI 0) (by decide) dX7_beginOf_60 ?_
        refine g_istore (pc := 61) [(0, .ref (gAd E 60)), (1, .int (nI set)), (2, .int (nI land)), (3, .int (nI means)), (4, .int (oN (sBg (mV M) set land means i))), (5, .int (nI i)), (6, .int (nI 0))] dX7_beginOf_61 (by decide) rfl rfl ?_
        refine g_iload (pc := 63) 6 rfl dX7_beginOf_63 ?_
        refine g_ifN_eq (pc := 65) 97 dX7_beginOf_65 (by decide) (by omega) (fun h65 => ?_) (fun h65 => absurd h65 (by omega))
        refine g_iload (pc := 97) 4 rfl dX7_beginOf_97 ?_
        refine g_istore (pc := 99) [(0, .ref (gAd E 60)), (1, .int (nI set)), (2, .int (nI land)), (3, .int (nI means)), (4, .int (oN (sBg (mV M) set land means i))), (5, .int (nI i)), (6, .int (nI 0))] dX7_beginOf_99 (by decide) rfl rfl ?_
        refine g_iincN (pc := 101) 1 5 [(0, .ref (gAd E 60)), (1, .int (nI set)), (2, .int (nI land)), (3, .int (nI means)), (4, .int (oN (sBg (mV M) set land means i))), (5, .int (nI (i + 1))), (6, .int (nI 0))] rfl dX7_beginOf_101 (by decide) rfl rfl ?_
        refine g_goto (pc := 104) 7 dX7_beginOf_104 (by decide) ?_
        refine g_pick (pc := 7) [0, 1, 2, 3, 4, 5] [(0, .ref (gAd E 60)), (1, .int (nI set)), (2, .int (nI land)), (3, .int (nI means)), (4, .int (oN (sBg (mV M) set land means i))), (5, .int (nI (i + 1)))] rfl ?_
        refine g_lv (pc := 7) (lv' := [(0, .ref (gAd E 60)), (1, .int (nI set)), (2, .int (nI land)), (3, .int (nI means)), (4, .int (oN (sBg (mV M) set land means (i + 1)))), (5, .int (nI (i + 1)))]) (by rw [show sBg (mV M) set land means (i + 1) = sBg (mV M) set land means i from by simp only [sBg, sHas, tbf h23]; rfl]) ?_
        exact ihi (by omega)
      · refine g_aload_n (pc := 26) 0 rfl rfl dX7_beginOf_26 ?_
        refine g_iload (pc := 27) 5 rfl dX7_beginOf_27 ?_
        refine g_iconst (pc := 29) (nI 0) (by decide) dX7_beginOf_29 ?_
        refine g_callV (pc := 30) (mc := mX7_of) (rest := []) lX7_107 iX7_of (kX7_of l E M hR i 0 (by omega) (by omega)) ⟨Nat.le_of_ble_eq_true rfl, Nat.le_of_ble_eq_true rfl⟩ hR.s0 (by decide) (by decide) rfl rfl rfl rfl (Nat.le_of_ble_eq_true rfl) ⟨Nat.zero_le _, Nat.zero_le _⟩ dX7_beginOf_30 (g_rI ?_)
        refine g_iload_n (pc := 33) 2 rfl rfl dX7_beginOf_33 ?_
        refine g_ishrN (pc := 34) (by omega) (by omega) dX7_beginOf_34 ?_
        refine g_iconst (pc := 35) (nI 1) (by decide) dX7_beginOf_35 ?_
        refine g_iand1 (pc := 36) dX7_beginOf_36 ?_
        refine g_iconst (pc := 37) (nI 1) (by decide) dX7_beginOf_37 ?_
        refine g_icmpN_ne (pc := 38) 60 dX7_beginOf_38 (by decide) (by omega) (by omega) (fun h38 => ?_) (fun h38 => ?_)
        · refine g_iconst (pc := 60) (nI 0) (by decide) dX7_beginOf_60 ?_
          refine g_istore (pc := 61) [(0, .ref (gAd E 60)), (1, .int (nI set)), (2, .int (nI land)), (3, .int (nI means)), (4, .int (oN (sBg (mV M) set land means i))), (5, .int (nI i)), (6, .int (nI 0))] dX7_beginOf_61 (by decide) rfl rfl ?_
          refine g_iload (pc := 63) 6 rfl dX7_beginOf_63 ?_
          refine g_ifN_eq (pc := 65) 97 dX7_beginOf_65 (by decide) (by omega) (fun h65 => ?_) (fun h65 => absurd h65 (by omega))
          refine g_iload (pc := 97) 4 rfl dX7_beginOf_97 ?_
          refine g_istore (pc := 99) [(0, .ref (gAd E 60)), (1, .int (nI set)), (2, .int (nI land)), (3, .int (nI means)), (4, .int (oN (sBg (mV M) set land means i))), (5, .int (nI i)), (6, .int (nI 0))] dX7_beginOf_99 (by decide) rfl rfl ?_
          refine g_iincN (pc := 101) 1 5 [(0, .ref (gAd E 60)), (1, .int (nI set)), (2, .int (nI land)), (3, .int (nI means)), (4, .int (oN (sBg (mV M) set land means i))), (5, .int (nI (i + 1))), (6, .int (nI 0))] rfl dX7_beginOf_101 (by decide) rfl rfl ?_
          refine g_goto (pc := 104) 7 dX7_beginOf_104 (by decide) ?_
          refine g_pick (pc := 7) [0, 1, 2, 3, 4, 5] [(0, .ref (gAd E 60)), (1, .int (nI set)), (2, .int (nI land)), (3, .int (nI means)), (4, .int (oN (sBg (mV M) set land means i))), (5, .int (nI (i + 1)))] rfl ?_
          refine g_lv (pc := 7) (lv' := [(0, .ref (gAd E 60)), (1, .int (nI set)), (2, .int (nI land)), (3, .int (nI means)), (4, .int (oN (sBg (mV M) set land means (i + 1)))), (5, .int (nI (i + 1)))]) (by rw [show sBg (mV M) set land means (i + 1) = sBg (mV M) set land means i from by simp only [sBg, sHas, tbf h38, Bool.and_false]; rfl]) ?_
          exact ihi (by omega)
        · refine g_aload_n (pc := 41) 0 rfl rfl dX7_beginOf_41 ?_
          refine g_iload (pc := 42) 5 rfl dX7_beginOf_42 ?_
          refine g_iconst (pc := 44) (nI 2) (by decide) dX7_beginOf_44 ?_
          refine g_callV (pc := 45) (mc := mX7_of) (rest := []) lX7_107 iX7_of (kX7_of l E M hR i 2 (by omega) (by omega)) ⟨Nat.le_of_ble_eq_true rfl, Nat.le_of_ble_eq_true rfl⟩ hR.s0 (by decide) (by decide) rfl rfl rfl rfl (Nat.le_of_ble_eq_true rfl) ⟨Nat.zero_le _, Nat.zero_le _⟩ dX7_beginOf_45 (g_rI ?_)
          refine g_iload_n (pc := 48) 3 rfl rfl dX7_beginOf_48 ?_
          refine g_ishrN (pc := 49) (by omega) (by omega) dX7_beginOf_49 ?_
          refine g_iconst (pc := 50) (nI 1) (by decide) dX7_beginOf_50 ?_
          refine g_iand1 (pc := 51) dX7_beginOf_51 ?_
          refine g_iconst (pc := 52) (nI 1) (by decide) dX7_beginOf_52 ?_
          refine g_icmpN_ne (pc := 53) 60 dX7_beginOf_53 (by decide) (by omega) (by omega) (fun h53 => ?_) (fun h53 => ?_)
          · refine g_iconst (pc := 60) (nI 0) (by decide) dX7_beginOf_60 ?_
            refine g_istore (pc := 61) [(0, .ref (gAd E 60)), (1, .int (nI set)), (2, .int (nI land)), (3, .int (nI means)), (4, .int (oN (sBg (mV M) set land means i))), (5, .int (nI i)), (6, .int (nI 0))] dX7_beginOf_61 (by decide) rfl rfl ?_
            refine g_iload (pc := 63) 6 rfl dX7_beginOf_63 ?_
            refine g_ifN_eq (pc := 65) 97 dX7_beginOf_65 (by decide) (by omega) (fun h65 => ?_) (fun h65 => absurd h65 (by omega))
            refine g_iload (pc := 97) 4 rfl dX7_beginOf_97 ?_
            refine g_istore (pc := 99) [(0, .ref (gAd E 60)), (1, .int (nI set)), (2, .int (nI land)), (3, .int (nI means)), (4, .int (oN (sBg (mV M) set land means i))), (5, .int (nI i)), (6, .int (nI 0))] dX7_beginOf_99 (by decide) rfl rfl ?_
            refine g_iincN (pc := 101) 1 5 [(0, .ref (gAd E 60)), (1, .int (nI set)), (2, .int (nI land)), (3, .int (nI means)), (4, .int (oN (sBg (mV M) set land means i))), (5, .int (nI (i + 1))), (6, .int (nI 0))] rfl dX7_beginOf_101 (by decide) rfl rfl ?_
            refine g_goto (pc := 104) 7 dX7_beginOf_104 (by decide) ?_
            refine g_pick (pc := 7) [0, 1, 2, 3, 4, 5] [(0, .ref (gAd E 60)), (1, .int (nI set)), (2, .int (nI land)), (3, .int (nI means)), (4, .int (oN (sBg (mV M) set land means i))), (5, .int (nI (i + 1)))] rfl ?_
            refine g_lv (pc := 7) (lv' := [(0, .ref (gAd E 60)), (1, .int (nI set)), (2, .int (nI land)), (3, .int (nI means)), (4, .int (oN (sBg (mV M) set land means (i + 1)))), (5, .int (nI (i + 1)))]) (by rw [show sBg (mV M) set land means (i + 1) = sBg (mV M) set land means i from by simp only [sBg, sHas, tbf h53, Bool.and_false]; rfl]) ?_
            exact ihi (by omega)
          · refine g_iconst (pc := 56) (nI 1) (by decide) dX7_beginOf_56 ?_
            refine g_goto (pc := 57) 61 dX7_beginOf_57 (by decide) ?_
            refine g_istore (pc := 61) [(0, .ref (gAd E 60)), (1, .int (nI set)), (2, .int (nI land)), (3, .int (nI means)), (4, .int (oN (sBg (mV M) set land means i))), (5, .int (nI i)), (6, .int (nI 1))] dX7_beginOf_61 (by decide) rfl rfl ?_
            refine g_iload (pc := 63) 6 rfl dX7_beginOf_63 ?_
            refine g_ifN_eq (pc := 65) 97 dX7_beginOf_65 (by decide) (by omega) (fun h65 => absurd h65 (by omega)) (fun h65 => ?_)
            have hHas : sHas (mV M) set land means i = true := by simp only [sHas, tbt h23, tbt h38, tbt h53]; rfl
            cases hq : sBg (mV M) set land means i with
            | none =>
              refine g_iload (pc := 68) 4 rfl dX7_beginOf_68 ?_
              refine g_bipush (pc := 70) ((-4)) (by decide) dX7_beginOf_70 ?_
              refine g_icmp_eq (pc := 72) 87 dX7_beginOf_72 (by decide) (fun h72 => ?_) (fun h72 => absurd h72 (fun q => q rfl))
              refine g_aload_n (pc := 87) 0 rfl rfl dX7_beginOf_87 ?_
              refine g_iload (pc := 88) 5 rfl dX7_beginOf_88 ?_
              refine g_iconst (pc := 90) (nI 3) (by decide) dX7_beginOf_90 ?_
              refine g_callV (pc := 91) (mc := mX7_of) (rest := []) lX7_107 iX7_of (kX7_of l E M hR i 3 (by omega) (by omega)) ⟨Nat.le_of_ble_eq_true rfl, Nat.le_of_ble_eq_true rfl⟩ hR.s0 (by decide) (by decide) rfl rfl rfl rfl (Nat.le_of_ble_eq_true rfl) ⟨Nat.zero_le _, Nat.zero_le _⟩ dX7_beginOf_91 (g_rI ?_)
              refine g_goto (pc := 94) 99 dX7_beginOf_94 (by decide) ?_
              refine g_istore (pc := 99) [(0, .ref (gAd E 60)), (1, .int (nI set)), (2, .int (nI land)), (3, .int (nI means)), (4, .int (nI (mV M i 3))), (5, .int (nI i)), (6, .int (nI 1))] dX7_beginOf_99 (by decide) rfl rfl ?_
              refine g_iincN (pc := 101) 1 5 [(0, .ref (gAd E 60)), (1, .int (nI set)), (2, .int (nI land)), (3, .int (nI means)), (4, .int (nI (mV M i 3))), (5, .int (nI (i + 1))), (6, .int (nI 1))] rfl dX7_beginOf_101 (by decide) rfl rfl ?_
              refine g_goto (pc := 104) 7 dX7_beginOf_104 (by decide) ?_
              refine g_pick (pc := 7) [0, 1, 2, 3, 4, 5] [(0, .ref (gAd E 60)), (1, .int (nI set)), (2, .int (nI land)), (3, .int (nI means)), (4, .int (nI (mV M i 3))), (5, .int (nI (i + 1)))] rfl ?_
              refine g_lv (pc := 7) (lv' := [(0, .ref (gAd E 60)), (1, .int (nI set)), (2, .int (nI land)), (3, .int (nI means)), (4, .int (oN (sBg (mV M) set land means (i + 1)))), (5, .int (nI (i + 1)))]) (by rw [show sBg (mV M) set land means (i + 1) = some (mV M i 3) from by simp only [sBg, hHas, hq, sLess]; rfl]; rfl) ?_
              exact ihi (by omega)
            | some x =>
              have hx := sBg_le (V := mV M) i x (fun j hj => (by have := hU j (by omega); exact Nat.le_trans this.2.2.2.1 this.2.2.2.2.1)) hq
              refine g_iload (pc := 68) 4 rfl dX7_beginOf_68 ?_
              refine g_bipush (pc := 70) ((-4)) (by decide) dX7_beginOf_70 ?_
              refine g_icmp_eq (pc := 72) 87 dX7_beginOf_72 (by decide) (fun h72 => absurd h72 (oN_ne (x := x) (by omega))) (fun h72 => ?_)
              refine g_aload_n (pc := 75) 0 rfl rfl dX7_beginOf_75 ?_
              refine g_iload (pc := 76) 5 rfl dX7_beginOf_76 ?_
              refine g_iconst (pc := 78) (nI 3) (by decide) dX7_beginOf_78 ?_
              refine g_callV (pc := 79) (mc := mX7_of) (rest := []) lX7_107 iX7_of (kX7_of l E M hR i 3 (by omega) (by omega)) ⟨Nat.le_of_ble_eq_true rfl, Nat.le_of_ble_eq_true rfl⟩ hR.s0 (by decide) (by decide) rfl rfl rfl rfl (Nat.le_of_ble_eq_true rfl) ⟨Nat.zero_le _, Nat.zero_le _⟩ dX7_beginOf_79 (g_rI ?_)
              refine g_iload (pc := 82) 4 rfl dX7_beginOf_82 ?_
              refine g_icmpN_ge (pc := 84) 97 dX7_beginOf_84 (by decide) (by omega) (by omega) (fun h84 => ?_) (fun h84 => ?_)
              · refine g_iload (pc := 97) 4 rfl dX7_beginOf_97 ?_
                refine g_istore (pc := 99) [(0, .ref (gAd E 60)), (1, .int (nI set)), (2, .int (nI land)), (3, .int (nI means)), (4, .int (nI x)), (5, .int (nI i)), (6, .int (nI 1))] dX7_beginOf_99 (by decide) rfl rfl ?_
                refine g_iincN (pc := 101) 1 5 [(0, .ref (gAd E 60)), (1, .int (nI set)), (2, .int (nI land)), (3, .int (nI means)), (4, .int (nI x)), (5, .int (nI (i + 1))), (6, .int (nI 1))] rfl dX7_beginOf_101 (by decide) rfl rfl ?_
                refine g_goto (pc := 104) 7 dX7_beginOf_104 (by decide) ?_
                refine g_pick (pc := 7) [0, 1, 2, 3, 4, 5] [(0, .ref (gAd E 60)), (1, .int (nI set)), (2, .int (nI land)), (3, .int (nI means)), (4, .int (nI x)), (5, .int (nI (i + 1)))] rfl ?_
                refine g_lv (pc := 7) (lv' := [(0, .ref (gAd E 60)), (1, .int (nI set)), (2, .int (nI land)), (3, .int (nI means)), (4, .int (oN (sBg (mV M) set land means (i + 1)))), (5, .int (nI (i + 1)))]) (by rw [show sBg (mV M) set land means (i + 1) = some x from by (simp only [sBg, hHas, hq, sLess, Bool.true_and]; exact if_neg (by simp only [decide_eq_true_eq]; omega))]; rfl) ?_
                exact ihi (by omega)
              · refine g_aload_n (pc := 87) 0 rfl rfl dX7_beginOf_87 ?_
                refine g_iload (pc := 88) 5 rfl dX7_beginOf_88 ?_
                refine g_iconst (pc := 90) (nI 3) (by decide) dX7_beginOf_90 ?_
                refine g_callV (pc := 91) (mc := mX7_of) (rest := []) lX7_107 iX7_of (kX7_of l E M hR i 3 (by omega) (by omega)) ⟨Nat.le_of_ble_eq_true rfl, Nat.le_of_ble_eq_true rfl⟩ hR.s0 (by decide) (by decide) rfl rfl rfl rfl (Nat.le_of_ble_eq_true rfl) ⟨Nat.zero_le _, Nat.zero_le _⟩ dX7_beginOf_91 (g_rI ?_)
                refine g_goto (pc := 94) 99 dX7_beginOf_94 (by decide) ?_
                refine g_istore (pc := 99) [(0, .ref (gAd E 60)), (1, .int (nI set)), (2, .int (nI land)), (3, .int (nI means)), (4, .int (nI (mV M i 3))), (5, .int (nI i)), (6, .int (nI 1))] dX7_beginOf_99 (by decide) rfl rfl ?_
                refine g_iincN (pc := 101) 1 5 [(0, .ref (gAd E 60)), (1, .int (nI set)), (2, .int (nI land)), (3, .int (nI means)), (4, .int (nI (mV M i 3))), (5, .int (nI (i + 1))), (6, .int (nI 1))] rfl dX7_beginOf_101 (by decide) rfl rfl ?_
                refine g_goto (pc := 104) 7 dX7_beginOf_104 (by decide) ?_
                refine g_pick (pc := 7) [0, 1, 2, 3, 4, 5] [(0, .ref (gAd E 60)), (1, .int (nI set)), (2, .int (nI land)), (3, .int (nI means)), (4, .int (nI (mV M i 3))), (5, .int (nI (i + 1)))] rfl ?_
                refine g_lv (pc := 7) (lv' := [(0, .ref (gAd E 60)), (1, .int (nI set)), (2, .int (nI land)), (3, .int (nI means)), (4, .int (oN (sBg (mV M) set land means (i + 1)))), (5, .int (nI (i + 1)))]) (by rw [show sBg (mV M) set land means (i + 1) = some (mV M i 3) from by (simp only [sBg, hHas, hq, sLess, Bool.true_and]; exact if_pos (by simp only [decide_eq_true_eq]; omega))]; rfl) ?_
                exact ihi (by omega)
  refine g_lv (pc := 7) (lv' := [(0, .ref (gAd E 60)), (1, .int (nI set)), (2, .int (nI land)), (3, .int (nI means)), (4, .int (oN (sBg (mV M) set land means 0))), (5, .int (nI 0))]) rfl ?_
  exact lp7 0 (by omega)
set_option maxRecDepth 100000 in
set_option maxHeartbeats 4000000 in
theorem kX7_brokenBy (l : Launch) (E : gEnv) (M : gMem) (hR : mR E M) (hO : mO M) (set h : Nat) (hs : set < 2147483648) (hh : h < M.1 60 12) : gMetI l E mX7_brokenBy 2 [.ref (gAd E 60), .int (nI set), .int (nI h)] M (nI (sBrk (mV M) (M.1 60 11) (mH M) set h 6)) := by
  have hO' := hO
  obtain ⟨hn, hk, hft, hto, hU, hH⟩ := hO
  have hO := hO'
  refine gMet_of (mm := mX7_brokenBy) (h := 2) (M := M) [(0, .ref (gAd E 60)), (1, .int (nI set)), (2, .int (nI h))] (by decide) (Nat.le_of_ble_eq_true rfl) rfl ?_
  refine g_iconst (pc := 0) (nI 0) (by decide) dX7_brokenBy_0 ?_
  refine g_istore_n (pc := 1) rfl [(0, .ref (gAd E 60)), (1, .int (nI set)), (2, .int (nI h)), (3, .int (nI 0))] dX7_brokenBy_1 (by decide) rfl rfl ?_
  refine g_iconst (pc := 2) (nI 0) (by decide) dX7_brokenBy_2 ?_
  refine g_istore (pc := 3) [(0, .ref (gAd E 60)), (1, .int (nI set)), (2, .int (nI h)), (3, .int (nI 0)), (4, .int (nI 0))] dX7_brokenBy_3 (by decide) rfl rfl ?_
  have lp5 : ∀ land, land ≤ 6 → gG l (gV0 2 E (fun v u => v = some (.int (nI (sBrk (mV M) (M.1 60 11) (mH M) set h 6))) ∧ u = M)) mX7_brokenBy E (0, 0) M 5 [(0, .ref (gAd E 60)), (1, .int (nI set)), (2, .int (nI h)), (3, .int (nI (sBrk (mV M) (M.1 60 11) (mH M) set h land))), (4, .int (nI land))] [] := by
    refine gloop (fun land hiland ihland => ?_)
    refine g_iload (pc := 5) 4 rfl dX7_brokenBy_5 ?_
    refine g_bipush (pc := 7) (nI 6) (by decide) dX7_brokenBy_7 ?_
    refine g_icmpN_ge (pc := 9) 97 dX7_brokenBy_9 (by decide) (by omega) (by omega) (fun h9 => ?_) (fun h9 => ?_)
    · refine g_iload_n (pc := 97) 3 rfl rfl dX7_brokenBy_97 ?_
      exact g_iret (pc := 98) rfl dX7_brokenBy_98 ⟨congrArg (fun z => some (Value.int z)) (by rw [show land = 6 by omega]), rfl⟩
    · have hle : ∀ mm x, sBg (mV M) set land mm (M.1 60 11) = some x → x ≤ 51 := fun mm x hx => sBg_le (V := mV M) (M.1 60 11) x (fun j hj => Nat.le_trans (hU j hj).2.2.2.1 (hU j hj).2.2.2.2.1) hx
      have hw := (hH h hh).2.2.2
      refine g_aload_n (pc := 12) 0 rfl rfl dX7_brokenBy_12 ?_
      refine g_iload_n (pc := 13) 1 rfl rfl dX7_brokenBy_13 ?_
      refine g_iload (pc := 14) 4 rfl dX7_brokenBy_14 ?_
      refine g_aload_n (pc := 16) 0 rfl rfl dX7_brokenBy_16 ?_
      refine fX7_22 (pc := 17) 65 rfl hR.s0 hR.r5 (by decide) dX7_brokenBy_17 ?_
      refine g_iconst (pc := 20) (nI 3) (by decide) dX7_brokenBy_20 ?_
      refine g_iload_n (pc := 21) 2 rfl rfl dX7_brokenBy_21 ?_
      refine g_imulN (pc := 22) dX7_brokenBy_22 ?_
      refine g_iaload (pc := 23) hR.s5 (by rw [hR.l5]; omega) (by rw [hR.l5]; omega) dX7_brokenBy_23 ?_
      refine g_callV (pc := 24) (mc := mX7_beginOf) (rest := []) lX7_118 iX7_beginOf (kX7_beginOf l E M hR hO set land (M.1 65 (3 * h)) (by omega) (by omega) (hH h hh).1) ⟨Nat.le_of_ble_eq_true rfl, Nat.le_of_ble_eq_true rfl⟩ hR.s0 (by decide) (by decide) rfl rfl rfl rfl (Nat.le_of_ble_eq_true rfl) ⟨Nat.zero_le _, Nat.zero_le _⟩ dX7_brokenBy_24 (g_rI ?_)
      rw [show M.1 65 (3 * h) = mH M h 0 from rfl]
      cases hq : sBg (mV M) set land (mH M h 0) (M.1 60 11) with
      | none =>
        refine g_istore (pc := 27) [(0, .ref (gAd E 60)), (1, .int (nI set)), (2, .int (nI h)), (3, .int (nI (sBrk (mV M) (M.1 60 11) (mH M) set h land))), (4, .int (nI land)), (5, .int (oN none))] dX7_brokenBy_27 (by decide) rfl rfl ?_
        refine g_aload_n (pc := 29) 0 rfl rfl dX7_brokenBy_29 ?_
        refine g_iload_n (pc := 30) 1 rfl rfl dX7_brokenBy_30 ?_
        refine g_iload (pc := 31) 4 rfl dX7_brokenBy_31 ?_
        refine g_aload_n (pc := 33) 0 rfl rfl dX7_brokenBy_33 ?_
        refine fX7_22 (pc := 34) 65 rfl hR.s0 hR.r5 (by decide) dX7_brokenBy_34 ?_
        refine g_iconst (pc := 37) (nI 3) (by decide) dX7_brokenBy_37 ?_
        refine g_iload_n (pc := 38) 2 rfl rfl dX7_brokenBy_38 ?_
        refine g_imulN (pc := 39) dX7_brokenBy_39 ?_
        refine g_iconst (pc := 40) (nI 1) (by decide) dX7_brokenBy_40 ?_
        refine g_iaddN (pc := 41) dX7_brokenBy_41 ?_
        refine g_iaload (pc := 42) hR.s5 (by rw [hR.l5]; omega) (by rw [hR.l5]; omega) dX7_brokenBy_42 ?_
        refine g_callV (pc := 43) (mc := mX7_beginOf) (rest := []) lX7_118 iX7_beginOf (kX7_beginOf l E M hR hO set land (M.1 65 ((3 * h) + 1)) (by omega) (by omega) (hH h hh).2.1) ⟨Nat.le_of_ble_eq_true rfl, Nat.le_of_ble_eq_true rfl⟩ hR.s0 (by decide) (by decide) rfl rfl rfl rfl (Nat.le_of_ble_eq_true rfl) ⟨Nat.zero_le _, Nat.zero_le _⟩ dX7_brokenBy_43 (g_rI ?_)
        refine g_istore (pc := 46) [(0, .ref (gAd E 60)), (1, .int (nI set)), (2, .int (nI h)), (3, .int (nI (sBrk (mV M) (M.1 60 11) (mH M) set h land))), (4, .int (nI land)), (5, .int (oN none)), (6, .int (oN (sBg (mV M) set land (M.1 65 ((3 * h) + 1)) (M.1 60 11))))] dX7_brokenBy_46 (by decide) rfl rfl ?_
        refine g_iload_n (pc := 48) 3 rfl rfl dX7_brokenBy_48 ?_
        refine g_iload (pc := 49) 5 rfl dX7_brokenBy_49 ?_
        refine g_bipush (pc := 51) ((-4)) (by decide) dX7_brokenBy_51 ?_
        refine g_icmp_eq (pc := 53) 88 dX7_brokenBy_53 (by decide) (fun h53 => ?_) (fun h53 => absurd h53 (fun q => q rfl))
        refine g_iconst (pc := 88) (nI 0) (by decide) dX7_brokenBy_88 ?_
        refine g_iorN (pc := 89) dX7_brokenBy_89 ?_
        refine g_istore_n (pc := 90) rfl [(0, .ref (gAd E 60)), (1, .int (nI set)), (2, .int (nI h)), (3, .int (nI ((sBrk (mV M) (M.1 60 11) (mH M) set h land) ||| 0))), (4, .int (nI land)), (5, .int (oN none)), (6, .int (oN (sBg (mV M) set land (M.1 65 ((3 * h) + 1)) (M.1 60 11))))] dX7_brokenBy_90 (by decide) rfl rfl ?_
        refine g_iincN (pc := 91) 1 4 [(0, .ref (gAd E 60)), (1, .int (nI set)), (2, .int (nI h)), (3, .int (nI ((sBrk (mV M) (M.1 60 11) (mH M) set h land) ||| 0))), (4, .int (nI (land + 1))), (5, .int (oN none)), (6, .int (oN (sBg (mV M) set land (M.1 65 ((3 * h) + 1)) (M.1 60 11))))] rfl dX7_brokenBy_91 (by decide) rfl rfl ?_
        refine g_goto (pc := 94) 5 dX7_brokenBy_94 (by decide) ?_
        refine g_pick (pc := 5) [0, 1, 2, 3, 4] [(0, .ref (gAd E 60)), (1, .int (nI set)), (2, .int (nI h)), (3, .int (nI ((sBrk (mV M) (M.1 60 11) (mH M) set h land) ||| 0))), (4, .int (nI (land + 1)))] rfl ?_
        refine g_lv (pc := 5) (lv' := [(0, .ref (gAd E 60)), (1, .int (nI set)), (2, .int (nI h)), (3, .int (nI (sBrk (mV M) (M.1 60 11) (mH M) set h (land + 1)))), (4, .int (nI (land + 1)))]) (by rw [show sBrk (mV M) (M.1 60 11) (mH M) set h (land + 1) = sBrk (mV M) (M.1 60 11) (mH M) set h land ||| (if sKept (mV M) (M.1 60 11) (mH M) set h land then 0 else 2 ^ land) from rfl, show sKept (mV M) (M.1 60 11) (mH M) set h land = true from by simp only [sKept, hq, sKp]]; rfl) ?_
        exact ihland (by omega)
      | some x =>
        have hx := hle _ _ hq
        refine g_istore (pc := 27) [(0, .ref (gAd E 60)), (1, .int (nI set)), (2, .int (nI h)), (3, .int (nI (sBrk (mV M) (M.1 60 11) (mH M) set h land))), (4, .int (nI land)), (5, .int (nI x))] dX7_brokenBy_27 (by decide) rfl rfl ?_
        refine g_aload_n (pc := 29) 0 rfl rfl dX7_brokenBy_29 ?_
        refine g_iload_n (pc := 30) 1 rfl rfl dX7_brokenBy_30 ?_
        refine g_iload (pc := 31) 4 rfl dX7_brokenBy_31 ?_
        refine g_aload_n (pc := 33) 0 rfl rfl dX7_brokenBy_33 ?_
        refine fX7_22 (pc := 34) 65 rfl hR.s0 hR.r5 (by decide) dX7_brokenBy_34 ?_
        refine g_iconst (pc := 37) (nI 3) (by decide) dX7_brokenBy_37 ?_
        refine g_iload_n (pc := 38) 2 rfl rfl dX7_brokenBy_38 ?_
        refine g_imulN (pc := 39) dX7_brokenBy_39 ?_
        refine g_iconst (pc := 40) (nI 1) (by decide) dX7_brokenBy_40 ?_
        refine g_iaddN (pc := 41) dX7_brokenBy_41 ?_
        refine g_iaload (pc := 42) hR.s5 (by rw [hR.l5]; omega) (by rw [hR.l5]; omega) dX7_brokenBy_42 ?_
        refine g_callV (pc := 43) (mc := mX7_beginOf) (rest := []) lX7_118 iX7_beginOf (kX7_beginOf l E M hR hO set land (M.1 65 ((3 * h) + 1)) (by omega) (by omega) (hH h hh).2.1) ⟨Nat.le_of_ble_eq_true rfl, Nat.le_of_ble_eq_true rfl⟩ hR.s0 (by decide) (by decide) rfl rfl rfl rfl (Nat.le_of_ble_eq_true rfl) ⟨Nat.zero_le _, Nat.zero_le _⟩ dX7_brokenBy_43 (g_rI ?_)
        rw [show M.1 65 (3 * h + 1) = mH M h 1 from rfl]
        cases hr : sBg (mV M) set land (mH M h 1) (M.1 60 11) with
        | none =>
          refine g_istore (pc := 46) [(0, .ref (gAd E 60)), (1, .int (nI set)), (2, .int (nI h)), (3, .int (nI (sBrk (mV M) (M.1 60 11) (mH M) set h land))), (4, .int (nI land)), (5, .int (nI x)), (6, .int (oN none))] dX7_brokenBy_46 (by decide) rfl rfl ?_
          refine g_iload_n (pc := 48) 3 rfl rfl dX7_brokenBy_48 ?_
          refine g_iload (pc := 49) 5 rfl dX7_brokenBy_49 ?_
          refine g_bipush (pc := 51) ((-4)) (by decide) dX7_brokenBy_51 ?_
          refine g_icmp_eq (pc := 53) 88 dX7_brokenBy_53 (by decide) (fun h53 => absurd h53 (oN_ne (x := x) (by omega))) (fun h53 => ?_)
          refine g_iload (pc := 56) 6 rfl dX7_brokenBy_56 ?_
          refine g_bipush (pc := 58) ((-4)) (by decide) dX7_brokenBy_58 ?_
          refine g_icmp_eq (pc := 60) 88 dX7_brokenBy_60 (by decide) (fun h60 => ?_) (fun h60 => absurd h60 (fun q => q rfl))
          refine g_iconst (pc := 88) (nI 0) (by decide) dX7_brokenBy_88 ?_
          refine g_iorN (pc := 89) dX7_brokenBy_89 ?_
          refine g_istore_n (pc := 90) rfl [(0, .ref (gAd E 60)), (1, .int (nI set)), (2, .int (nI h)), (3, .int (nI ((sBrk (mV M) (M.1 60 11) (mH M) set h land) ||| 0))), (4, .int (nI land)), (5, .int (nI x)), (6, .int (oN none))] dX7_brokenBy_90 (by decide) rfl rfl ?_
          refine g_iincN (pc := 91) 1 4 [(0, .ref (gAd E 60)), (1, .int (nI set)), (2, .int (nI h)), (3, .int (nI ((sBrk (mV M) (M.1 60 11) (mH M) set h land) ||| 0))), (4, .int (nI (land + 1))), (5, .int (nI x)), (6, .int (oN none))] rfl dX7_brokenBy_91 (by decide) rfl rfl ?_
          refine g_goto (pc := 94) 5 dX7_brokenBy_94 (by decide) ?_
          refine g_pick (pc := 5) [0, 1, 2, 3, 4] [(0, .ref (gAd E 60)), (1, .int (nI set)), (2, .int (nI h)), (3, .int (nI ((sBrk (mV M) (M.1 60 11) (mH M) set h land) ||| 0))), (4, .int (nI (land + 1)))] rfl ?_
          refine g_lv (pc := 5) (lv' := [(0, .ref (gAd E 60)), (1, .int (nI set)), (2, .int (nI h)), (3, .int (nI (sBrk (mV M) (M.1 60 11) (mH M) set h (land + 1)))), (4, .int (nI (land + 1)))]) (by rw [show sBrk (mV M) (M.1 60 11) (mH M) set h (land + 1) = sBrk (mV M) (M.1 60 11) (mH M) set h land ||| (if sKept (mV M) (M.1 60 11) (mH M) set h land then 0 else 2 ^ land) from rfl, show sKept (mV M) (M.1 60 11) (mH M) set h land = true from by simp only [sKept, hq, hr, sKp]]; rfl) ?_
          exact ihland (by omega)
        | some y =>
          have hy := hle _ _ hr
          have hw2 : M.1 65 (3 * h + 2) ≤ 51 := hw
          refine g_istore (pc := 46) [(0, .ref (gAd E 60)), (1, .int (nI set)), (2, .int (nI h)), (3, .int (nI (sBrk (mV M) (M.1 60 11) (mH M) set h land))), (4, .int (nI land)), (5, .int (nI x)), (6, .int (nI y))] dX7_brokenBy_46 (by decide) rfl rfl ?_
          refine g_iload_n (pc := 48) 3 rfl rfl dX7_brokenBy_48 ?_
          refine g_iload (pc := 49) 5 rfl dX7_brokenBy_49 ?_
          refine g_bipush (pc := 51) ((-4)) (by decide) dX7_brokenBy_51 ?_
          refine g_icmp_eq (pc := 53) 88 dX7_brokenBy_53 (by decide) (fun h53 => absurd h53 (oN_ne (x := x) (by omega))) (fun h53 => ?_)
          refine g_iload (pc := 56) 6 rfl dX7_brokenBy_56 ?_
          refine g_bipush (pc := 58) ((-4)) (by decide) dX7_brokenBy_58 ?_
          refine g_icmp_eq (pc := 60) 88 dX7_brokenBy_60 (by decide) (fun h60 => absurd h60 (oN_ne (x := y) (by omega))) (fun h60 => ?_)
          refine g_iload (pc := 63) 5 rfl dX7_brokenBy_63 ?_
          refine g_iload (pc := 65) 6 rfl dX7_brokenBy_65 ?_
          refine g_aload_n (pc := 67) 0 rfl rfl dX7_brokenBy_67 ?_
          refine fX7_22 (pc := 68) 65 rfl hR.s0 hR.r5 (by decide) dX7_brokenBy_68 ?_
          refine g_iconst (pc := 71) (nI 3) (by decide) dX7_brokenBy_71 ?_
          refine g_iload_n (pc := 72) 2 rfl rfl dX7_brokenBy_72 ?_
          refine g_imulN (pc := 73) dX7_brokenBy_73 ?_
          refine g_iconst (pc := 74) (nI 2) (by decide) dX7_brokenBy_74 ?_
          refine g_iaddN (pc := 75) dX7_brokenBy_75 ?_
          refine g_iaload (pc := 76) hR.s5 (by rw [hR.l5]; omega) (by rw [hR.l5]; omega) dX7_brokenBy_76 ?_
          refine g_iaddN (pc := 77) dX7_brokenBy_77 ?_
          refine g_icmpN_ge (pc := 78) 88 dX7_brokenBy_78 (by decide) (by omega) (by omega) (fun h78 => ?_) (fun h78 => ?_)
          · refine g_iconst (pc := 88) (nI 0) (by decide) dX7_brokenBy_88 ?_
            refine g_iorN (pc := 89) dX7_brokenBy_89 ?_
            refine g_istore_n (pc := 90) rfl [(0, .ref (gAd E 60)), (1, .int (nI set)), (2, .int (nI h)), (3, .int (nI ((sBrk (mV M) (M.1 60 11) (mH M) set h land) ||| 0))), (4, .int (nI land)), (5, .int (nI x)), (6, .int (nI y))] dX7_brokenBy_90 (by decide) rfl rfl ?_
            refine g_iincN (pc := 91) 1 4 [(0, .ref (gAd E 60)), (1, .int (nI set)), (2, .int (nI h)), (3, .int (nI ((sBrk (mV M) (M.1 60 11) (mH M) set h land) ||| 0))), (4, .int (nI (land + 1))), (5, .int (nI x)), (6, .int (nI y))] rfl dX7_brokenBy_91 (by decide) rfl rfl ?_
            refine g_goto (pc := 94) 5 dX7_brokenBy_94 (by decide) ?_
            refine g_pick (pc := 5) [0, 1, 2, 3, 4] [(0, .ref (gAd E 60)), (1, .int (nI set)), (2, .int (nI h)), (3, .int (nI ((sBrk (mV M) (M.1 60 11) (mH M) set h land) ||| 0))), (4, .int (nI (land + 1)))] rfl ?_
            refine g_lv (pc := 5) (lv' := [(0, .ref (gAd E 60)), (1, .int (nI set)), (2, .int (nI h)), (3, .int (nI (sBrk (mV M) (M.1 60 11) (mH M) set h (land + 1)))), (4, .int (nI (land + 1)))]) (by rw [show sBrk (mV M) (M.1 60 11) (mH M) set h (land + 1) = sBrk (mV M) (M.1 60 11) (mH M) set h land ||| (if sKept (mV M) (M.1 60 11) (mH M) set h land then 0 else 2 ^ land) from rfl, show sKept (mV M) (M.1 60 11) (mH M) set h land = true from by simp only [sKept, hq, hr, sKp, decide_eq_true_eq]; show y + M.1 65 (3 * h + 2) ≤ x; omega]; rfl) ?_
            exact ihland (by omega)
          · refine g_iconst (pc := 81) (nI 1) (by decide) dX7_brokenBy_81 ?_
            refine g_iload (pc := 82) 4 rfl dX7_brokenBy_82 ?_
            refine g_ishl1 (pc := 84) (by omega) dX7_brokenBy_84 ?_
            refine g_goto (pc := 85) 89 dX7_brokenBy_85 (by decide) ?_
            refine g_iorN (pc := 89) dX7_brokenBy_89 ?_
            refine g_istore_n (pc := 90) rfl [(0, .ref (gAd E 60)), (1, .int (nI set)), (2, .int (nI h)), (3, .int (nI ((sBrk (mV M) (M.1 60 11) (mH M) set h land) ||| (2 ^ land)))), (4, .int (nI land)), (5, .int (nI x)), (6, .int (nI y))] dX7_brokenBy_90 (by decide) rfl rfl ?_
            refine g_iincN (pc := 91) 1 4 [(0, .ref (gAd E 60)), (1, .int (nI set)), (2, .int (nI h)), (3, .int (nI ((sBrk (mV M) (M.1 60 11) (mH M) set h land) ||| (2 ^ land)))), (4, .int (nI (land + 1))), (5, .int (nI x)), (6, .int (nI y))] rfl dX7_brokenBy_91 (by decide) rfl rfl ?_
            refine g_goto (pc := 94) 5 dX7_brokenBy_94 (by decide) ?_
            refine g_pick (pc := 5) [0, 1, 2, 3, 4] [(0, .ref (gAd E 60)), (1, .int (nI set)), (2, .int (nI h)), (3, .int (nI ((sBrk (mV M) (M.1 60 11) (mH M) set h land) ||| (2 ^ land)))), (4, .int (nI (land + 1)))] rfl ?_
            refine g_lv (pc := 5) (lv' := [(0, .ref (gAd E 60)), (1, .int (nI set)), (2, .int (nI h)), (3, .int (nI (sBrk (mV M) (M.1 60 11) (mH M) set h (land + 1)))), (4, .int (nI (land + 1)))]) (by rw [show sBrk (mV M) (M.1 60 11) (mH M) set h (land + 1) = sBrk (mV M) (M.1 60 11) (mH M) set h land ||| (if sKept (mV M) (M.1 60 11) (mH M) set h land then 0 else 2 ^ land) from rfl, show sKept (mV M) (M.1 60 11) (mH M) set h land = false from by simp only [sKept, hq, hr, sKp, decide_eq_false_iff_not]; show ¬ (y + M.1 65 (3 * h + 2) ≤ x); omega]; rfl) ?_
            exact ihland (by omega)
  refine g_lv (pc := 5) (lv' := [(0, .ref (gAd E 60)), (1, .int (nI set)), (2, .int (nI h)), (3, .int (nI (sBrk (mV M) (M.1 60 11) (mH M) set h 0))), (4, .int (nI 0))]) rfl ?_
  exact lp5 0 (by omega)
set_option maxRecDepth 100000 in
set_option maxHeartbeats 4000000 in
theorem kX7_areKept (l : Launch) (E : gEnv) (M : gMem) (hR : mR E M) (hO : mO M) (set : Nat) (hs : set < 2147483648) : gMetI l E mX7_areKept 3 [.ref (gAd E 60), .int (nI set)] M (gb (sKepts (mV M) (M.1 60 11) (mH M) (M.1 60 12) set)) := by
  have hO' := hO
  obtain ⟨hn, hk, hft, hto, hU, hH⟩ := hO
  have hO := hO'
  refine gMet_of (mm := mX7_areKept) (h := 3) (M := M) [(0, .ref (gAd E 60)), (1, .int (nI set))] (by decide) (Nat.le_of_ble_eq_true rfl) rfl ?_
  refine g_iconst (pc := 0) (nI 1) (by decide) dX7_areKept_0 ?_
  refine g_istore_n (pc := 1) rfl [(0, .ref (gAd E 60)), (1, .int (nI set)), (2, .int (nI 1))] dX7_areKept_1 (by decide) rfl rfl ?_
  refine g_iconst (pc := 2) (nI 0) (by decide) dX7_areKept_2 ?_
  refine g_istore_n (pc := 3) rfl [(0, .ref (gAd E 60)), (1, .int (nI set)), (2, .int (nI 1)), (3, .int (nI 0))] dX7_areKept_3 (by decide) rfl rfl ?_
  have lp4 : ∀ h, h ≤ M.1 60 12 → (sAny (fun h => !(sKept6 (mV M) (M.1 60 11) (mH M) set h)) h = false) → gG l (gV0 3 E (fun v u => v = some (.int (gb (sKepts (mV M) (M.1 60 11) (mH M) (M.1 60 12) set))) ∧ u = M)) mX7_areKept E (0, 0) M 4 [(0, .ref (gAd E 60)), (1, .int (nI set)), (2, .int (nI 1)), (3, .int (nI h))] [] := by
    refine gloop (fun h hih ihh => ?_)
    intro he
    refine g_iload_n (pc := 4) 3 rfl rfl dX7_areKept_4 ?_
    refine g_aload_n (pc := 5) 0 rfl rfl dX7_areKept_5 ?_
    refine fX7_64 (pc := 6) rfl hR.s0 dX7_areKept_6 ?_
    refine g_icmpN_ge (pc := 9) 37 dX7_areKept_9 (by decide) (by omega) (by omega) (fun h9 => ?_) (fun h9 => ?_)
    · refine g_iload_n (pc := 37) 2 rfl rfl dX7_areKept_37 ?_
      refine g_topi (pc := 38) (x' := gb true) (by decide) ?_
      exact g_zret (pc := 38) rfl dX7_areKept_38 ⟨congrArg (fun z => some (Value.int (gb z))) (bt_of (by simp only [sKepts, Bool.not_eq_true']; exact (show h = M.1 60 12 by omega) ▸ he)), rfl⟩
    · refine g_iload_n (pc := 12) 2 rfl rfl dX7_areKept_12 ?_
      refine g_ifN_eq (pc := 13) 37 dX7_areKept_13 (by decide) (by omega) (fun h13 => absurd h13 (by omega)) (fun h13 => ?_)
      refine g_aload_n (pc := 16) 0 rfl rfl dX7_areKept_16 ?_
      refine g_iload_n (pc := 17) 1 rfl rfl dX7_areKept_17 ?_
      refine g_iload_n (pc := 18) 3 rfl rfl dX7_areKept_18 ?_
      refine g_callV (pc := 19) (mc := mX7_brokenBy) (rest := []) lX7_122 iX7_brokenBy (kX7_brokenBy l E M hR hO set h (by omega) (by omega)) ⟨Nat.le_of_ble_eq_true rfl, Nat.le_of_ble_eq_true rfl⟩ hR.s0 (by decide) (by decide) rfl rfl rfl rfl (Nat.le_of_ble_eq_true rfl) ⟨Nat.zero_le _, Nat.zero_le _⟩ dX7_areKept_19 (g_rI ?_)
      refine g_ifN_ne (pc := 22) 29 dX7_areKept_22 (by decide) (Nat.lt_trans (sBrk_lt 6) (by decide)) (fun h22 => ?_) (fun h22 => ?_)
      · refine g_iconst (pc := 29) (nI 0) (by decide) dX7_areKept_29 ?_
        refine g_istore_n (pc := 30) rfl [(0, .ref (gAd E 60)), (1, .int (nI set)), (2, .int (nI 0)), (3, .int (nI h))] dX7_areKept_30 (by decide) rfl rfl ?_
        refine g_iincN (pc := 31) 1 3 [(0, .ref (gAd E 60)), (1, .int (nI set)), (2, .int (nI 0)), (3, .int (nI (h + 1)))] rfl dX7_areKept_31 (by decide) rfl rfl ?_
        refine g_goto (pc := 34) 4 dX7_areKept_34 (by decide) ?_
        refine g_iload_n (pc := 4) 3 rfl rfl dX7_areKept_4 ?_
        refine g_aload_n (pc := 5) 0 rfl rfl dX7_areKept_5 ?_
        refine fX7_64 (pc := 6) rfl hR.s0 dX7_areKept_6 ?_
        refine g_icmpN_ge (pc := 9) 37 dX7_areKept_9 (by decide) (by omega) (by omega) (fun h9 => ?_) (fun h9 => ?_)
        · refine g_iload_n (pc := 37) 2 rfl rfl dX7_areKept_37 ?_
          refine g_topi (pc := 38) (x' := gb false) (by decide) ?_
          exact g_zret (pc := 38) rfl dX7_areKept_38 ⟨congrArg (fun z => some (Value.int (gb z))) (bf_of (by intro hh; simp only [sKepts, Bool.not_eq_true'] at hh; have q := sAny_no.mp hh h (by omega); simp only [sKept6, Bool.not_not] at q; have q2 := (sKept_brk 6).mpr q; omega)), rfl⟩
        · refine g_iload_n (pc := 12) 2 rfl rfl dX7_areKept_12 ?_
          refine g_ifN_eq (pc := 13) 37 dX7_areKept_13 (by decide) (by omega) (fun h13 => ?_) (fun h13 => absurd h13 (by omega))
          refine g_iload_n (pc := 37) 2 rfl rfl dX7_areKept_37 ?_
          refine g_topi (pc := 38) (x' := gb false) (by decide) ?_
          exact g_zret (pc := 38) rfl dX7_areKept_38 ⟨congrArg (fun z => some (Value.int (gb z))) (bf_of (by intro hh; simp only [sKepts, Bool.not_eq_true'] at hh; have q := sAny_no.mp hh h (by omega); simp only [sKept6, Bool.not_not] at q; have q2 := (sKept_brk 6).mpr q; omega)), rfl⟩
      · refine g_iconst (pc := 25) (nI 1) (by decide) dX7_areKept_25 ?_
        refine g_goto (pc := 26) 30 dX7_areKept_26 (by decide) ?_
        refine g_istore_n (pc := 30) rfl [(0, .ref (gAd E 60)), (1, .int (nI set)), (2, .int (nI 1)), (3, .int (nI h))] dX7_areKept_30 (by decide) rfl rfl ?_
        refine g_iincN (pc := 31) 1 3 [(0, .ref (gAd E 60)), (1, .int (nI set)), (2, .int (nI 1)), (3, .int (nI (h + 1)))] rfl dX7_areKept_31 (by decide) rfl rfl ?_
        refine g_goto (pc := 34) 4 dX7_areKept_34 (by decide) ?_
        exact ihh (by omega) (sAny_step (n := 0) he (by show (!(!(sAny _ 6))) = false; rw [(sKept_brk 6).mp h22]; rfl))
  exact lp4 0 (by omega) rfl
set_option maxRecDepth 100000 in
set_option maxHeartbeats 4000000 in
theorem kX7_clashOf (l : Launch) (E : gEnv) (M : gMem) (hR : mR E M) (hO : mO M) (hsg : M.1 66 10 < 1024) (i : Nat) (hi : i < M.1 60 11) : gMetI l E mX7_clashOf 3 [.ref (gAd E 60), .int (nI i)] M (oN (sClashOf (mV M) (M.1 60 11) i (M.1 66 10))) := by
  have hO' := hO
  obtain ⟨hn, hk, hft, hto, hU, hH⟩ := hO
  have hO := hO'
  refine gMet_of (mm := mX7_clashOf) (h := 3) (M := M) [(0, .ref (gAd E 60)), (1, .int (nI i))] (by decide) (Nat.le_of_ble_eq_true rfl) rfl ?_
  refine g_bipush (pc := 0) ((-4)) (by decide) dX7_clashOf_0 ?_
  refine g_istore_n (pc := 2) rfl [(0, .ref (gAd E 60)), (1, .int (nI i)), (2, .int ((-4)))] dX7_clashOf_2 (by decide) rfl rfl ?_
  refine g_aload_n (pc := 3) 0 rfl rfl dX7_clashOf_3 ?_
  refine fX7_61 (pc := 4) rfl hR.s0 dX7_clashOf_4 ?_
  refine g_iconst (pc := 7) (nI 1) (by decide) dX7_clashOf_7 ?_
  refine g_isub (pc := 8) dX7_clashOf_8 ?_
  refine g_istore_n (pc := 9) rfl [(0, .ref (gAd E 60)), (1, .int (nI i)), (2, .int ((-4))), (3, .int ((nI (M.1 60 11)) - (nI 1)))] dX7_clashOf_9 (by decide) rfl rfl ?_
  have lp : ∀ m, m ≤ M.1 60 11 → gG l (gV0 3 E (fun v u => v = some (.int (oN (sClashOf (mV M) (M.1 60 11) i (M.1 66 10)))) ∧ u = M)) mX7_clashOf E (0, 0) M 10 [(0, .ref (gAd E 60)), (1, .int (nI i)), (2, .int (oN (sFr (fun j => j != i && (M.1 66 10).testBit j && sCl (mV M i) (mV M j)) m (M.1 60 11 - m)))), (3, .int (nI m - nI 1))] [] := by
    intro m
    induction m with
    | zero =>
      intro hm
      refine g_iload_n (pc := 10) 3 rfl rfl dX7_clashOf_10 ?_
      refine g_if_lt (pc := 11) 43 dX7_clashOf_11 (by decide) (fun h11 => ?_) (fun h11 => absurd h11 (fun q => q (by decide)))
      refine g_iload_n (pc := 43) 2 rfl rfl dX7_clashOf_43 ?_
      exact g_iret (pc := 44) rfl dX7_clashOf_44 ⟨rfl, rfl⟩
    | succ m ih =>
      intro hm
      refine g_lv (pc := 10) (lv' := [(0, .ref (gAd E 60)), (1, .int (nI i)), (2, .int (oN (sFr (fun j => j != i && (M.1 66 10).testBit j && sCl (mV M i) (mV M j)) (m + 1) (M.1 60 11 - (m + 1))))), (3, .int (nI m))]) (by rw [pk_sub (show 1 ≤ m + 1 by omega)]; rfl) ?_
      refine g_iload_n (pc := 10) 3 rfl rfl dX7_clashOf_10 ?_
      refine g_ifN_lt (pc := 11) 43 dX7_clashOf_11 (by decide) (by omega) ?_
      refine g_aload_n (pc := 14) 0 rfl rfl dX7_clashOf_14 ?_
      refine g_iload_n (pc := 15) 3 rfl rfl dX7_clashOf_15 ?_
      refine g_callV (pc := 16) (mc := mX7_isSigned) (rest := []) lX7_125 iX7_isSigned (kX7_isSigned l E M hR hsg m (by omega)) ⟨Nat.le_of_ble_eq_true rfl, Nat.le_of_ble_eq_true rfl⟩ hR.s0 (by decide) (by decide) rfl rfl rfl rfl (Nat.le_of_ble_eq_true rfl) ⟨Nat.zero_le _, Nat.zero_le _⟩ dX7_clashOf_16 (g_rI ?_)
      refine g_ifB_eq (pc := 19) 35 dX7_clashOf_19 (by decide) (fun h19 => ?_) (fun h19 => ?_)
      · refine g_iload_n (pc := 35) 2 rfl rfl dX7_clashOf_35 ?_
        refine g_istore_n (pc := 36) rfl [(0, .ref (gAd E 60)), (1, .int (nI i)), (2, .int (oN (sFr (fun j => j != i && (M.1 66 10).testBit j && sCl (mV M i) (mV M j)) (m + 1) (M.1 60 11 - (m + 1))))), (3, .int (nI m))] dX7_clashOf_36 (by decide) rfl rfl ?_
        refine g_iinc (pc := 37) 3 (nI m - nI 1) [(0, .ref (gAd E 60)), (1, .int (nI i)), (2, .int (oN (sFr (fun j => j != i && (M.1 66 10).testBit j && sCl (mV M i) (mV M j)) (m + 1) (M.1 60 11 - (m + 1))))), (3, .int (nI m - nI 1))] rfl (nI_dec m) dX7_clashOf_37 (by decide) rfl rfl ?_
        refine g_goto (pc := 40) 10 dX7_clashOf_40 (by decide) ?_
        refine g_lv (pc := 10) (lv' := [(0, .ref (gAd E 60)), (1, .int (nI i)), (2, .int (oN (sFr (fun j => j != i && (M.1 66 10).testBit j && sCl (mV M i) (mV M j)) m (M.1 60 11 - m)))), (3, .int (nI m - nI 1))]) (by rw [sFr_step (show m < M.1 60 11 by omega), if_neg (by simp [h19])]) ?_
        exact ih (by omega)
      · refine g_aload_n (pc := 22) 0 rfl rfl dX7_clashOf_22 ?_
        refine g_iload_n (pc := 23) 1 rfl rfl dX7_clashOf_23 ?_
        refine g_iload_n (pc := 24) 3 rfl rfl dX7_clashOf_24 ?_
        refine g_callV (pc := 25) (mc := mX7_doClash) (rest := []) lX7_128 iX7_doClash (kX7_doClash l E M hR hO i m (by omega) (by omega)) ⟨Nat.le_of_ble_eq_true rfl, Nat.le_of_ble_eq_true rfl⟩ hR.s0 (by decide) (by decide) rfl rfl rfl rfl (Nat.le_of_ble_eq_true rfl) ⟨Nat.zero_le _, Nat.zero_le _⟩ dX7_clashOf_25 (g_rI ?_)
        refine g_ifB_eq (pc := 28) 35 dX7_clashOf_28 (by decide) (fun h28 => ?_) (fun h28 => ?_)
        · refine g_iload_n (pc := 35) 2 rfl rfl dX7_clashOf_35 ?_
          refine g_istore_n (pc := 36) rfl [(0, .ref (gAd E 60)), (1, .int (nI i)), (2, .int (oN (sFr (fun j => j != i && (M.1 66 10).testBit j && sCl (mV M i) (mV M j)) (m + 1) (M.1 60 11 - (m + 1))))), (3, .int (nI m))] dX7_clashOf_36 (by decide) rfl rfl ?_
          refine g_iinc (pc := 37) 3 (nI m - nI 1) [(0, .ref (gAd E 60)), (1, .int (nI i)), (2, .int (oN (sFr (fun j => j != i && (M.1 66 10).testBit j && sCl (mV M i) (mV M j)) (m + 1) (M.1 60 11 - (m + 1))))), (3, .int (nI m - nI 1))] rfl (nI_dec m) dX7_clashOf_37 (by decide) rfl rfl ?_
          refine g_goto (pc := 40) 10 dX7_clashOf_40 (by decide) ?_
          refine g_lv (pc := 10) (lv' := [(0, .ref (gAd E 60)), (1, .int (nI i)), (2, .int (oN (sFr (fun j => j != i && (M.1 66 10).testBit j && sCl (mV M i) (mV M j)) m (M.1 60 11 - m)))), (3, .int (nI m - nI 1))]) (by rw [sFr_step (show m < M.1 60 11 by omega), if_neg (fun q => by simp only [Bool.and_eq_true, bne_iff_ne] at q; rw [show (i != m) = true from bne_iff_ne.mpr (Ne.symm q.1.1), q.2] at h28; cases h28)]) ?_
          exact ih (by omega)
        · refine g_iload_n (pc := 31) 3 rfl rfl dX7_clashOf_31 ?_
          refine g_goto (pc := 32) 36 dX7_clashOf_32 (by decide) ?_
          refine g_istore_n (pc := 36) rfl [(0, .ref (gAd E 60)), (1, .int (nI i)), (2, .int (nI m)), (3, .int (nI m))] dX7_clashOf_36 (by decide) rfl rfl ?_
          refine g_iinc (pc := 37) 3 (nI m - nI 1) [(0, .ref (gAd E 60)), (1, .int (nI i)), (2, .int (nI m)), (3, .int (nI m - nI 1))] rfl (nI_dec m) dX7_clashOf_37 (by decide) rfl rfl ?_
          refine g_goto (pc := 40) 10 dX7_clashOf_40 (by decide) ?_
          refine g_lv (pc := 10) (lv' := [(0, .ref (gAd E 60)), (1, .int (nI i)), (2, .int (oN (sFr (fun j => j != i && (M.1 66 10).testBit j && sCl (mV M i) (mV M j)) m (M.1 60 11 - m)))), (3, .int (nI m - nI 1))]) (by rw [sFr_step (show m < M.1 60 11 by omega), if_pos (by simp only [Bool.and_eq_true, bne_iff_ne] at h28 ⊢; exact ⟨⟨Ne.symm h28.1, h19⟩, h28.2⟩)]; rfl) ?_
          exact ih (by omega)
  refine g_lv (pc := 10) (lv' := [(0, .ref (gAd E 60)), (1, .int (nI i)), (2, .int (oN (sFr (fun j => j != i && (M.1 66 10).testBit j && sCl (mV M i) (mV M j)) (M.1 60 11) (M.1 60 11 - (M.1 60 11))))), (3, .int (nI (M.1 60 11) - nI 1))]) (by rw [Nat.sub_self]; rfl) ?_
  exact lp _ (Nat.le_refl _)
set_option maxRecDepth 100000 in
set_option maxHeartbeats 4000000 in
theorem kX7_whyOf (l : Launch) (E : gEnv) (M : gMem) (hR : mR E M) (hO : mO M) (hsg : M.1 66 10 < 1024) (i : Nat) (hi : i < M.1 60 11) : gMetI l E mX7_whyOf 4 [.ref (gAd E 60), .int (nI i)] M (nI (sWhy (mV M) (M.1 60 11) (mH M) (M.1 60 12) (M.1 60 13) (M.1 60 14) (M.1 66 10) i)) := by
  have hO' := hO
  obtain ⟨hn, hk, hft, hto, hU, hH⟩ := hO
  have hO := hO'
  refine gMet_of (mm := mX7_whyOf) (h := 4) (M := M) [(0, .ref (gAd E 60)), (1, .int (nI i))] (by decide) (Nat.le_of_ble_eq_true rfl) rfl ?_
  refine g_aload_n (pc := 0) 0 rfl rfl dX7_whyOf_0 ?_
  refine g_iload_n (pc := 1) 1 rfl rfl dX7_whyOf_1 ?_
  refine g_callV (pc := 2) (mc := mX7_isSigned) (rest := []) lX7_125 iX7_isSigned (kX7_isSigned l E M hR hsg i (by omega)) ⟨Nat.le_of_ble_eq_true rfl, Nat.le_of_ble_eq_true rfl⟩ hR.s0 (by decide) (by decide) rfl rfl rfl rfl (Nat.le_of_ble_eq_true rfl) ⟨Nat.zero_le _, Nat.zero_le _⟩ dX7_whyOf_2 (g_rI ?_)
  refine g_ifB_eq (pc := 5) 10 dX7_whyOf_5 (by decide) (fun h5 => ?_) (fun h5 => ?_)
  · refine g_aload_n (pc := 10) 0 rfl rfl dX7_whyOf_10 ?_
    refine g_iload_n (pc := 11) 1 rfl rfl dX7_whyOf_11 ?_
    refine g_callV (pc := 12) (mc := mX7_isOfTerm) (rest := []) lX7_132 iX7_isOfTerm (kX7_isOfTerm l E M hR hO i (by omega)) ⟨Nat.le_of_ble_eq_true rfl, Nat.le_of_ble_eq_true rfl⟩ hR.s0 (by decide) (by decide) rfl rfl rfl rfl (Nat.le_of_ble_eq_true rfl) ⟨Nat.zero_le _, Nat.zero_le _⟩ dX7_whyOf_12 (g_rI ?_)
    refine g_ifB_ne (pc := 15) 20 dX7_whyOf_15 (by decide) (fun h15 => ?_) (fun h15 => ?_)
    · refine g_aload_n (pc := 20) 0 rfl rfl dX7_whyOf_20 ?_
      refine g_iload_n (pc := 21) 1 rfl rfl dX7_whyOf_21 ?_
      refine g_callV (pc := 22) (mc := mX7_clashOf) (rest := []) lX7_135 iX7_clashOf (kX7_clashOf l E M hR hO hsg i (by omega)) ⟨Nat.le_of_ble_eq_true rfl, Nat.le_of_ble_eq_true rfl⟩ hR.s0 (by decide) (by decide) rfl rfl rfl rfl (Nat.le_of_ble_eq_true rfl) ⟨Nat.zero_le _, Nat.zero_le _⟩ dX7_whyOf_22 (g_rI ?_)
      refine g_bipush (pc := 25) ((-4)) (by decide) dX7_whyOf_25 ?_
      refine g_icmp_eq (pc := 27) 34 dX7_whyOf_27 (by decide) (fun h27 => ?_) (fun h27 => ?_)
      · refine g_aload_n (pc := 34) 0 rfl rfl dX7_whyOf_34 ?_
        refine g_aload_n (pc := 35) 0 rfl rfl dX7_whyOf_35 ?_
        refine fX7_25 (pc := 36) 66 rfl hR.s0 hR.r6 (by decide) dX7_whyOf_36 ?_
        refine g_bipush (pc := 39) (nI 10) (by decide) dX7_whyOf_39 ?_
        refine g_iaload (pc := 41) hR.s6 (by rw [hR.l6]; omega) (by rw [hR.l6]; omega) dX7_whyOf_41 ?_
        refine g_iconst (pc := 42) (nI 1) (by decide) dX7_whyOf_42 ?_
        refine g_iload_n (pc := 43) 1 rfl rfl dX7_whyOf_43 ?_
        refine g_ishl1 (pc := 44) (by omega) dX7_whyOf_44 ?_
        refine g_iorN (pc := 45) dX7_whyOf_45 ?_
        refine g_callV (pc := 46) (mc := mX7_areKept) (rest := []) lX7_138 iX7_areKept (kX7_areKept l E M hR hO ((M.1 66 10) ||| (2 ^ i)) (by have := Nat.or_lt_two_pow (show M.1 66 10 < 2 ^ 10 from hsg) (show 2 ^ i < 2 ^ 10 from Nat.pow_lt_pow_right (by decide) (by omega)); omega)) ⟨Nat.le_of_ble_eq_true rfl, Nat.le_of_ble_eq_true rfl⟩ hR.s0 (by decide) (by decide) rfl rfl rfl rfl (Nat.le_of_ble_eq_true rfl) ⟨Nat.zero_le _, Nat.zero_le _⟩ dX7_whyOf_46 (g_rI ?_)
        refine g_ifB_eq (pc := 49) 56 dX7_whyOf_49 (by decide) (fun h49 => ?_) (fun h49 => ?_)
        · refine g_iconst (pc := 56) (nI 4) (by decide) dX7_whyOf_56 ?_
          exact g_iret (pc := 57) rfl dX7_whyOf_57 ⟨congrArg (fun z => some (Value.int z)) (by rw [sWhy, if_neg (by rw [h5]; decide), if_neg (by rw [h15]; decide), if_neg (by rw [oN_none (sClashOf_lt hn) h27]; decide), if_neg (by rw [h49]; decide)]), rfl⟩
        · refine g_iconst (pc := 52) (nI 0) (by decide) dX7_whyOf_52 ?_
          refine g_goto (pc := 53) 57 dX7_whyOf_53 (by decide) ?_
          exact g_iret (pc := 57) rfl dX7_whyOf_57 ⟨congrArg (fun z => some (Value.int z)) (by rw [sWhy, if_neg (by rw [h5]; decide), if_neg (by rw [h15]; decide), if_neg (by rw [oN_none (sClashOf_lt hn) h27]; decide), if_pos h49]), rfl⟩
      · refine g_iconst (pc := 30) (nI 3) (by decide) dX7_whyOf_30 ?_
        refine g_goto (pc := 31) 57 dX7_whyOf_31 (by decide) ?_
        exact g_iret (pc := 57) rfl dX7_whyOf_57 ⟨congrArg (fun z => some (Value.int z)) (by rw [sWhy, if_neg (by rw [h5]; decide), if_neg (by rw [h15]; decide), if_pos (by cases hc : sClashOf (mV M) (M.1 60 11) i (M.1 66 10) with | none => exact absurd (by rw [hc]; rfl) h27 | some x => rfl)]), rfl⟩
    · refine g_iconst (pc := 18) (nI 2) (by decide) dX7_whyOf_18 ?_
      exact g_iret (pc := 19) rfl dX7_whyOf_19 ⟨congrArg (fun z => some (Value.int z)) (by rw [sWhy, if_neg (by rw [h5]; decide), if_pos (by rw [h15]; rfl)]), rfl⟩
  · refine g_iconst (pc := 8) (nI 1) (by decide) dX7_whyOf_8 ?_
    exact g_iret (pc := 9) rfl dX7_whyOf_9 ⟨congrArg (fun z => some (Value.int z)) (by rw [sWhy, if_pos h5]), rfl⟩
set_option maxRecDepth 100000 in
set_option maxHeartbeats 4000000 in
theorem kX7_has (l : Launch) (E : gEnv) (M : gMem) (hR : mR E M) (hO : mO M) (i row wk : Nat) (hi : i < M.1 60 11) (hr : row < 96) (hwk : wk < 100) : gMetI l E mX7_has 1 [.ref (gAd E 60), .int (nI i), .int (nI row), .int (nI wk)] M (gb (sPt (mV M) i row wk)) := by
  have hO' := hO
  obtain ⟨hn, hk, hft, hto, hU, hH⟩ := hO
  have hO := hO'
  refine gMet_of (mm := mX7_has) (h := 1) (M := M) [(0, .ref (gAd E 60)), (1, .int (nI i)), (2, .int (nI row)), (3, .int (nI wk))] (by decide) (Nat.le_of_ble_eq_true rfl) rfl ?_
  obtain ⟨u0, u1, u2, u3, u4, u5, u6, u7⟩ := hU i hi
  refine g_aload_n (pc := 0) 0 rfl rfl dX7_has_0 ?_
  refine g_iload_n (pc := 1) 1 rfl rfl dX7_has_1 ?_
  refine g_iconst (pc := 2) (nI 0) (by decide) dX7_has_2 ?_
  refine g_callV (pc := 3) (mc := mX7_of) (rest := []) lX7_107 iX7_of (kX7_of l E M hR i 0 (by omega) (by omega)) ⟨Nat.le_of_ble_eq_true rfl, Nat.le_of_ble_eq_true rfl⟩ hR.s0 (by decide) (by decide) rfl rfl rfl rfl (Nat.le_of_ble_eq_true rfl) ⟨Nat.zero_le _, Nat.zero_le _⟩ dX7_has_3 (g_rI ?_)
  refine g_iload_n (pc := 6) 2 rfl rfl dX7_has_6 ?_
  refine g_bipush (pc := 7) (nI 16) (by decide) dX7_has_7 ?_
  refine g_idivN (pc := 9) (by omega) (by omega) (by omega) dX7_has_9 ?_
  refine g_ishrN (pc := 10) (by omega) (by omega) dX7_has_10 ?_
  refine g_iconst (pc := 11) (nI 1) (by decide) dX7_has_11 ?_
  refine g_iand1 (pc := 12) dX7_has_12 ?_
  refine g_iconst (pc := 13) (nI 1) (by decide) dX7_has_13 ?_
  refine g_icmpN_ne (pc := 14) 55 dX7_has_14 (by decide) (by omega) (by omega) (fun h14 => ?_) (fun h14 => ?_)
  · refine g_iconst (pc := 55) (nI 0) (by decide) dX7_has_55 ?_
    refine g_istore (pc := 56) [(0, .ref (gAd E 60)), (1, .int (nI i)), (2, .int (nI row)), (3, .int (nI wk)), (4, .int (nI 0))] dX7_has_56 (by decide) rfl rfl ?_
    refine g_iload (pc := 58) 4 rfl dX7_has_58 ?_
    refine g_ifN_eq (pc := 60) 86 dX7_has_60 (by decide) (by omega) (fun h60 => ?_) (fun h60 => absurd h60 (by omega))
    refine g_iconst (pc := 86) (nI 0) (by decide) dX7_has_86 ?_
    refine g_topi (pc := 87) (x' := gb false) (by decide) ?_
    exact g_zret (pc := 87) rfl dX7_has_87 ⟨congrArg (fun z => some (Value.int (gb z))) (by simp only [sPt, tbf h14]; simp), rfl⟩
  · refine g_aload_n (pc := 17) 0 rfl rfl dX7_has_17 ?_
    refine g_iload_n (pc := 18) 1 rfl rfl dX7_has_18 ?_
    refine g_iconst (pc := 19) (nI 1) (by decide) dX7_has_19 ?_
    refine g_callV (pc := 20) (mc := mX7_of) (rest := []) lX7_107 iX7_of (kX7_of l E M hR i 1 (by omega) (by omega)) ⟨Nat.le_of_ble_eq_true rfl, Nat.le_of_ble_eq_true rfl⟩ hR.s0 (by decide) (by decide) rfl rfl rfl rfl (Nat.le_of_ble_eq_true rfl) ⟨Nat.zero_le _, Nat.zero_le _⟩ dX7_has_20 (g_rI ?_)
    refine g_iload_n (pc := 23) 2 rfl rfl dX7_has_23 ?_
    refine g_iconst (pc := 24) (nI 4) (by decide) dX7_has_24 ?_
    refine g_idivN (pc := 25) (by omega) (by omega) (by omega) dX7_has_25 ?_
    refine g_iconst (pc := 26) (nI 4) (by decide) dX7_has_26 ?_
    refine g_iremN (pc := 27) (by omega) (by omega) (by omega) dX7_has_27 ?_
    refine g_ishrN (pc := 28) (by omega) (by omega) dX7_has_28 ?_
    refine g_iconst (pc := 29) (nI 1) (by decide) dX7_has_29 ?_
    refine g_iand1 (pc := 30) dX7_has_30 ?_
    refine g_iconst (pc := 31) (nI 1) (by decide) dX7_has_31 ?_
    refine g_icmpN_ne (pc := 32) 55 dX7_has_32 (by decide) (by omega) (by omega) (fun h32 => ?_) (fun h32 => ?_)
    · refine g_iconst (pc := 55) (nI 0) (by decide) dX7_has_55 ?_
      refine g_istore (pc := 56) [(0, .ref (gAd E 60)), (1, .int (nI i)), (2, .int (nI row)), (3, .int (nI wk)), (4, .int (nI 0))] dX7_has_56 (by decide) rfl rfl ?_
      refine g_iload (pc := 58) 4 rfl dX7_has_58 ?_
      refine g_ifN_eq (pc := 60) 86 dX7_has_60 (by decide) (by omega) (fun h60 => ?_) (fun h60 => absurd h60 (by omega))
      refine g_iconst (pc := 86) (nI 0) (by decide) dX7_has_86 ?_
      refine g_topi (pc := 87) (x' := gb false) (by decide) ?_
      exact g_zret (pc := 87) rfl dX7_has_87 ⟨congrArg (fun z => some (Value.int (gb z))) (by simp only [sPt, tbf h32]; simp), rfl⟩
    · refine g_aload_n (pc := 35) 0 rfl rfl dX7_has_35 ?_
      refine g_iload_n (pc := 36) 1 rfl rfl dX7_has_36 ?_
      refine g_iconst (pc := 37) (nI 2) (by decide) dX7_has_37 ?_
      refine g_callV (pc := 38) (mc := mX7_of) (rest := []) lX7_107 iX7_of (kX7_of l E M hR i 2 (by omega) (by omega)) ⟨Nat.le_of_ble_eq_true rfl, Nat.le_of_ble_eq_true rfl⟩ hR.s0 (by decide) (by decide) rfl rfl rfl rfl (Nat.le_of_ble_eq_true rfl) ⟨Nat.zero_le _, Nat.zero_le _⟩ dX7_has_38 (g_rI ?_)
      refine g_iload_n (pc := 41) 2 rfl rfl dX7_has_41 ?_
      refine g_iconst (pc := 42) (nI 4) (by decide) dX7_has_42 ?_
      refine g_iremN (pc := 43) (by omega) (by omega) (by omega) dX7_has_43 ?_
      refine g_ishrN (pc := 44) (by omega) (by omega) dX7_has_44 ?_
      refine g_iconst (pc := 45) (nI 1) (by decide) dX7_has_45 ?_
      refine g_iand1 (pc := 46) dX7_has_46 ?_
      refine g_iconst (pc := 47) (nI 1) (by decide) dX7_has_47 ?_
      refine g_icmpN_ne (pc := 48) 55 dX7_has_48 (by decide) (by omega) (by omega) (fun h48 => ?_) (fun h48 => ?_)
      · refine g_iconst (pc := 55) (nI 0) (by decide) dX7_has_55 ?_
        refine g_istore (pc := 56) [(0, .ref (gAd E 60)), (1, .int (nI i)), (2, .int (nI row)), (3, .int (nI wk)), (4, .int (nI 0))] dX7_has_56 (by decide) rfl rfl ?_
        refine g_iload (pc := 58) 4 rfl dX7_has_58 ?_
        refine g_ifN_eq (pc := 60) 86 dX7_has_60 (by decide) (by omega) (fun h60 => ?_) (fun h60 => absurd h60 (by omega))
        refine g_iconst (pc := 86) (nI 0) (by decide) dX7_has_86 ?_
        refine g_topi (pc := 87) (x' := gb false) (by decide) ?_
        exact g_zret (pc := 87) rfl dX7_has_87 ⟨congrArg (fun z => some (Value.int (gb z))) (by simp only [sPt, tbf h48]; simp), rfl⟩
      · refine g_iconst (pc := 51) (nI 1) (by decide) dX7_has_51 ?_
        refine g_goto (pc := 52) 56 dX7_has_52 (by decide) ?_
        refine g_istore (pc := 56) [(0, .ref (gAd E 60)), (1, .int (nI i)), (2, .int (nI row)), (3, .int (nI wk)), (4, .int (nI 1))] dX7_has_56 (by decide) rfl rfl ?_
        refine g_iload (pc := 58) 4 rfl dX7_has_58 ?_
        refine g_ifN_eq (pc := 60) 86 dX7_has_60 (by decide) (by omega) (fun h60 => absurd h60 (by omega)) (fun h60 => ?_)
        refine g_iload_n (pc := 63) 3 rfl rfl dX7_has_63 ?_
        refine g_aload_n (pc := 64) 0 rfl rfl dX7_has_64 ?_
        refine g_iload_n (pc := 65) 1 rfl rfl dX7_has_65 ?_
        refine g_iconst (pc := 66) (nI 3) (by decide) dX7_has_66 ?_
        refine g_callV (pc := 67) (mc := mX7_of) (rest := [.int (nI wk)]) lX7_107 iX7_of (kX7_of l E M hR i 3 (by omega) (by omega)) ⟨Nat.le_of_ble_eq_true rfl, Nat.le_of_ble_eq_true rfl⟩ hR.s0 (by decide) (by decide) rfl rfl rfl rfl (Nat.le_of_ble_eq_true rfl) ⟨Nat.zero_le _, Nat.zero_le _⟩ dX7_has_67 (g_rI ?_)
        refine g_aload_n (pc := 70) 0 rfl rfl dX7_has_70 ?_
        refine g_iload_n (pc := 71) 1 rfl rfl dX7_has_71 ?_
        refine g_iconst (pc := 72) (nI 4) (by decide) dX7_has_72 ?_
        refine g_callV (pc := 73) (mc := mX7_of) (rest := [.int (nI (mV M i 3)), .int (nI wk)]) lX7_107 iX7_of (kX7_of l E M hR i 4 (by omega) (by omega)) ⟨Nat.le_of_ble_eq_true rfl, Nat.le_of_ble_eq_true rfl⟩ hR.s0 (by decide) (by decide) rfl rfl rfl rfl (Nat.le_of_ble_eq_true rfl) ⟨Nat.zero_le _, Nat.zero_le _⟩ dX7_has_73 (g_rI ?_)
        refine g_callS (pc := 76) (mc := mX7_in) (rest := []) lX7_82 iX7_in (kX7_inN l E M wk (mV M i 3) (mV M i 4) (by omega) (by omega) (by omega)) ⟨Nat.le_of_ble_eq_true rfl, Nat.le_of_ble_eq_true rfl⟩ rfl rfl (Nat.le_of_ble_eq_true rfl) ⟨Nat.zero_le _, Nat.zero_le _⟩ dX7_has_76 (g_rI ?_)
        refine g_ifB_eq (pc := 79) 86 dX7_has_79 (by decide) (fun h79 => ?_) (fun h79 => ?_)
        · refine g_iconst (pc := 86) (nI 0) (by decide) dX7_has_86 ?_
          refine g_topi (pc := 87) (x' := gb false) (by decide) ?_
          exact g_zret (pc := 87) rfl dX7_has_87 ⟨congrArg (fun z => some (Value.int (gb z))) (by simp only [sPt, tbt h14, tbt h32, tbt h48]; simp only [Bool.decide_and] at h79; rw [h79]; rfl), rfl⟩
        · refine g_iconst (pc := 82) (nI 1) (by decide) dX7_has_82 ?_
          refine g_goto (pc := 83) 87 dX7_has_83 (by decide) ?_
          refine g_topi (pc := 87) (x' := gb true) (by decide) ?_
          exact g_zret (pc := 87) rfl dX7_has_87 ⟨congrArg (fun z => some (Value.int (gb z))) (by simp only [sPt, tbt h14, tbt h32, tbt h48]; simp only [Bool.decide_and] at h79; rw [h79]; rfl), rfl⟩
set_option maxRecDepth 100000 in
set_option maxHeartbeats 4000000 in
theorem kX7_soldAt (l : Launch) (E : gEnv) (M : gMem) (hR : mR E M) (hO : mO M) (hsg : M.1 66 10 < 1024) (row wk : Nat) (hr : row < 96) (hwk : wk < 100) : gMetI l E mX7_soldAt 2 [.ref (gAd E 60), .int (nI row), .int (nI wk)] M (nI (sSold (mV M) (M.1 60 11) (M.1 66 10) row wk)) := by
  have hO' := hO
  obtain ⟨hn, hk, hft, hto, hU, hH⟩ := hO
  have hO := hO'
  refine gMet_of (mm := mX7_soldAt) (h := 2) (M := M) [(0, .ref (gAd E 60)), (1, .int (nI row)), (2, .int (nI wk))] (by decide) (Nat.le_of_ble_eq_true rfl) rfl ?_
  refine g_iconst (pc := 0) (nI 0) (by decide) dX7_soldAt_0 ?_
  refine g_istore_n (pc := 1) rfl [(0, .ref (gAd E 60)), (1, .int (nI row)), (2, .int (nI wk)), (3, .int (nI 0))] dX7_soldAt_1 (by decide) rfl rfl ?_
  refine g_iconst (pc := 2) (nI 0) (by decide) dX7_soldAt_2 ?_
  refine g_istore (pc := 3) [(0, .ref (gAd E 60)), (1, .int (nI row)), (2, .int (nI wk)), (3, .int (nI 0)), (4, .int (nI 0))] dX7_soldAt_3 (by decide) rfl rfl ?_
  have lp5 : ∀ i, i ≤ M.1 60 11 → gG l (gV0 2 E (fun v u => v = some (.int (nI (sSold (mV M) (M.1 60 11) (M.1 66 10) row wk))) ∧ u = M)) mX7_soldAt E (0, 0) M 5 [(0, .ref (gAd E 60)), (1, .int (nI row)), (2, .int (nI wk)), (3, .int (nI (sSold (mV M) i (M.1 66 10) row wk))), (4, .int (nI i))] [] := by
    refine gloop (fun i hii ihi => ?_)
    refine g_iload (pc := 5) 4 rfl dX7_soldAt_5 ?_
    refine g_aload_n (pc := 7) 0 rfl rfl dX7_soldAt_7 ?_
    refine fX7_61 (pc := 8) rfl hR.s0 dX7_soldAt_8 ?_
    refine g_icmpN_ge (pc := 11) 48 dX7_soldAt_11 (by decide) (by omega) (by omega) (fun h11 => ?_) (fun h11 => ?_)
    · refine g_iload_n (pc := 48) 3 rfl rfl dX7_soldAt_48 ?_
      exact g_iret (pc := 49) rfl dX7_soldAt_49 ⟨congrArg (fun z => some (Value.int z)) (by rw [show i = M.1 60 11 by omega]), rfl⟩
    · refine g_iload_n (pc := 14) 3 rfl rfl dX7_soldAt_14 ?_
      refine g_aload_n (pc := 15) 0 rfl rfl dX7_soldAt_15 ?_
      refine g_iload (pc := 16) 4 rfl dX7_soldAt_16 ?_
      refine g_callV (pc := 18) (mc := mX7_isSigned) (rest := [.int (nI (sSold (mV M) i (M.1 66 10) row wk))]) lX7_125 iX7_isSigned (kX7_isSigned l E M hR hsg i (by omega)) ⟨Nat.le_of_ble_eq_true rfl, Nat.le_of_ble_eq_true rfl⟩ hR.s0 (by decide) (by decide) rfl rfl rfl rfl (Nat.le_of_ble_eq_true rfl) ⟨Nat.zero_le _, Nat.zero_le _⟩ dX7_soldAt_18 (g_rI ?_)
      refine g_ifB_eq (pc := 21) 39 dX7_soldAt_21 (by decide) (fun h21 => ?_) (fun h21 => ?_)
      · refine g_iconst (pc := 39) (nI 0) (by decide) dX7_soldAt_39 ?_
        refine g_iaddN (pc := 40) dX7_soldAt_40 ?_
        refine g_topi (pc := 41) (x' := nI (sSold (mV M) (i + 1) (M.1 66 10) row wk)) (by rw [show sSold (mV M) (i + 1) (M.1 66 10) row wk = sSold (mV M) i (M.1 66 10) row wk + (if ((M.1 66 10).testBit i && sPt (mV M) i row wk) then 1 else 0) from rfl, show ((M.1 66 10).testBit i && sPt (mV M) i row wk) = false from by rw [h21]; rfl]; rfl) ?_
        refine g_istore_n (pc := 41) rfl [(0, .ref (gAd E 60)), (1, .int (nI row)), (2, .int (nI wk)), (3, .int (nI (sSold (mV M) (i + 1) (M.1 66 10) row wk))), (4, .int (nI i))] dX7_soldAt_41 (by decide) rfl rfl ?_
        refine g_iincN (pc := 42) 1 4 [(0, .ref (gAd E 60)), (1, .int (nI row)), (2, .int (nI wk)), (3, .int (nI (sSold (mV M) (i + 1) (M.1 66 10) row wk))), (4, .int (nI (i + 1)))] rfl dX7_soldAt_42 (by decide) rfl rfl ?_
        refine g_goto (pc := 45) 5 dX7_soldAt_45 (by decide) ?_
        exact ihi (by omega)
      · refine g_aload_n (pc := 24) 0 rfl rfl dX7_soldAt_24 ?_
        refine g_iload (pc := 25) 4 rfl dX7_soldAt_25 ?_
        refine g_iload_n (pc := 27) 1 rfl rfl dX7_soldAt_27 ?_
        refine g_iload_n (pc := 28) 2 rfl rfl dX7_soldAt_28 ?_
        refine g_callV (pc := 29) (mc := mX7_has) (rest := [.int (nI (sSold (mV M) i (M.1 66 10) row wk))]) lX7_150 iX7_has (kX7_has l E M hR hO i row wk (by omega) (by omega) (by omega)) ⟨Nat.le_of_ble_eq_true rfl, Nat.le_of_ble_eq_true rfl⟩ hR.s0 (by decide) (by decide) rfl rfl rfl rfl (Nat.le_of_ble_eq_true rfl) ⟨Nat.zero_le _, Nat.zero_le _⟩ dX7_soldAt_29 (g_rI ?_)
        refine g_ifB_eq (pc := 32) 39 dX7_soldAt_32 (by decide) (fun h32 => ?_) (fun h32 => ?_)
        · refine g_iconst (pc := 39) (nI 0) (by decide) dX7_soldAt_39 ?_
          refine g_iaddN (pc := 40) dX7_soldAt_40 ?_
          refine g_topi (pc := 41) (x' := nI (sSold (mV M) (i + 1) (M.1 66 10) row wk)) (by rw [show sSold (mV M) (i + 1) (M.1 66 10) row wk = sSold (mV M) i (M.1 66 10) row wk + (if ((M.1 66 10).testBit i && sPt (mV M) i row wk) then 1 else 0) from rfl, show ((M.1 66 10).testBit i && sPt (mV M) i row wk) = false from by rw [h21, h32]; rfl]; rfl) ?_
          refine g_istore_n (pc := 41) rfl [(0, .ref (gAd E 60)), (1, .int (nI row)), (2, .int (nI wk)), (3, .int (nI (sSold (mV M) (i + 1) (M.1 66 10) row wk))), (4, .int (nI i))] dX7_soldAt_41 (by decide) rfl rfl ?_
          refine g_iincN (pc := 42) 1 4 [(0, .ref (gAd E 60)), (1, .int (nI row)), (2, .int (nI wk)), (3, .int (nI (sSold (mV M) (i + 1) (M.1 66 10) row wk))), (4, .int (nI (i + 1)))] rfl dX7_soldAt_42 (by decide) rfl rfl ?_
          refine g_goto (pc := 45) 5 dX7_soldAt_45 (by decide) ?_
          exact ihi (by omega)
        · refine g_iconst (pc := 35) (nI 1) (by decide) dX7_soldAt_35 ?_
          refine g_goto (pc := 36) 40 dX7_soldAt_36 (by decide) ?_
          refine g_iaddN (pc := 40) dX7_soldAt_40 ?_
          refine g_topi (pc := 41) (x' := nI (sSold (mV M) (i + 1) (M.1 66 10) row wk)) (by rw [show sSold (mV M) (i + 1) (M.1 66 10) row wk = sSold (mV M) i (M.1 66 10) row wk + (if ((M.1 66 10).testBit i && sPt (mV M) i row wk) then 1 else 0) from rfl, show ((M.1 66 10).testBit i && sPt (mV M) i row wk) = true from by rw [h21, h32]; rfl]; rfl) ?_
          refine g_istore_n (pc := 41) rfl [(0, .ref (gAd E 60)), (1, .int (nI row)), (2, .int (nI wk)), (3, .int (nI (sSold (mV M) (i + 1) (M.1 66 10) row wk))), (4, .int (nI i))] dX7_soldAt_41 (by decide) rfl rfl ?_
          refine g_iincN (pc := 42) 1 4 [(0, .ref (gAd E 60)), (1, .int (nI row)), (2, .int (nI wk)), (3, .int (nI (sSold (mV M) (i + 1) (M.1 66 10) row wk))), (4, .int (nI (i + 1)))] rfl dX7_soldAt_42 (by decide) rfl rfl ?_
          refine g_goto (pc := 45) 5 dX7_soldAt_45 (by decide) ?_
          exact ihi (by omega)
  refine g_lv (pc := 5) (lv' := [(0, .ref (gAd E 60)), (1, .int (nI row)), (2, .int (nI wk)), (3, .int (nI (sSold (mV M) 0 (M.1 66 10) row wk))), (4, .int (nI 0))]) rfl ?_
  exact lp5 0 (by omega)
set_option maxRecDepth 100000 in
set_option maxHeartbeats 4000000 in
theorem kX7_isAloneAt (l : Launch) (E : gEnv) (M : gMem) (hR : mR E M) (hO : mO M) (hsg : M.1 66 10 < 1024) (row wk : Nat) (hr : row < 96) (hwk : wk < 100) : gMetI l E mX7_isAloneAt 2 [.ref (gAd E 60), .int (nI row), .int (nI wk)] M (gb (sAl (mV M) (M.1 60 11) (M.1 66 10) row wk)) := by
  have hO' := hO
  obtain ⟨hn, hk, hft, hto, hU, hH⟩ := hO
  have hO := hO'
  obtain ⟨pal, hpal⟩ : ∃ pal : Nat → Bool, pal = (fun i => (M.1 66 10).testBit i && mV M i 5 == 1 && sPt (mV M) i row wk) := ⟨_, rfl⟩
  refine gMet_of (mm := mX7_isAloneAt) (h := 2) (M := M) [(0, .ref (gAd E 60)), (1, .int (nI row)), (2, .int (nI wk))] (by decide) (Nat.le_of_ble_eq_true rfl) rfl ?_
  refine g_iconst (pc := 0) (nI 0) (by decide) dX7_isAloneAt_0 ?_
  refine g_istore_n (pc := 1) rfl [(0, .ref (gAd E 60)), (1, .int (nI row)), (2, .int (nI wk)), (3, .int (nI 0))] dX7_isAloneAt_1 (by decide) rfl rfl ?_
  refine g_iconst (pc := 2) (nI 0) (by decide) dX7_isAloneAt_2 ?_
  refine g_istore (pc := 3) [(0, .ref (gAd E 60)), (1, .int (nI row)), (2, .int (nI wk)), (3, .int (nI 0)), (4, .int (nI 0))] dX7_isAloneAt_3 (by decide) rfl rfl ?_
  have lp5 : ∀ i, i ≤ M.1 60 11 → gG l (gV0 2 E (fun v u => v = some (.int (gb (sAl (mV M) (M.1 60 11) (M.1 66 10) row wk))) ∧ u = M)) mX7_isAloneAt E (0, 0) M 5 [(0, .ref (gAd E 60)), (1, .int (nI row)), (2, .int (nI wk)), (3, .int (gb (sAny pal i))), (4, .int (nI i))] [] := by
    refine gloop (fun i hii ihi => ?_)
    refine g_iload (pc := 5) 4 rfl dX7_isAloneAt_5 ?_
    refine g_aload_n (pc := 7) 0 rfl rfl dX7_isAloneAt_7 ?_
    refine fX7_61 (pc := 8) rfl hR.s0 dX7_isAloneAt_8 ?_
    refine g_icmpN_ge (pc := 11) 61 dX7_isAloneAt_11 (by decide) (by omega) (by omega) (fun h11 => ?_) (fun h11 => ?_)
    · refine g_iload_n (pc := 61) 3 rfl rfl dX7_isAloneAt_61 ?_
      exact g_zret (pc := 62) rfl dX7_isAloneAt_62 ⟨congrArg (fun z => some (Value.int (gb z))) (by rw [show i = M.1 60 11 by omega, hpal]; rfl), rfl⟩
    · obtain ⟨u0, u1, u2, u3, u4, u5, u6, u7⟩ := hU i h11
      refine g_iload_n (pc := 14) 3 rfl rfl dX7_isAloneAt_14 ?_
      refine g_ifB_ne (pc := 15) 49 dX7_isAloneAt_15 (by decide) (fun h15 => ?_) (fun h15 => ?_)
      · refine g_iconst (pc := 49) (nI 1) (by decide) dX7_isAloneAt_49 ?_
        refine g_goto (pc := 50) 54 dX7_isAloneAt_50 (by decide) ?_
        refine g_istore_n (pc := 54) rfl [(0, .ref (gAd E 60)), (1, .int (nI row)), (2, .int (nI wk)), (3, .int (nI 1)), (4, .int (nI i))] dX7_isAloneAt_54 (by decide) rfl rfl ?_
        refine g_iincN (pc := 55) 1 4 [(0, .ref (gAd E 60)), (1, .int (nI row)), (2, .int (nI wk)), (3, .int (nI 1)), (4, .int (nI (i + 1)))] rfl dX7_isAloneAt_55 (by decide) rfl rfl ?_
        refine g_goto (pc := 58) 5 dX7_isAloneAt_58 (by decide) ?_
        refine g_lv (pc := 5) (lv' := [(0, .ref (gAd E 60)), (1, .int (nI row)), (2, .int (nI wk)), (3, .int (gb (sAny pal (i + 1)))), (4, .int (nI (i + 1)))]) (by rw [show sAny pal (i + 1) = true from (show (sAny pal i || pal i) = true from by rw [h15]; rfl)]; rfl) ?_
        exact ihi (by omega)
      · refine g_aload_n (pc := 18) 0 rfl rfl dX7_isAloneAt_18 ?_
        refine g_iload (pc := 19) 4 rfl dX7_isAloneAt_19 ?_
        refine g_callV (pc := 21) (mc := mX7_isSigned) (rest := []) lX7_125 iX7_isSigned (kX7_isSigned l E M hR hsg i (by omega)) ⟨Nat.le_of_ble_eq_true rfl, Nat.le_of_ble_eq_true rfl⟩ hR.s0 (by decide) (by decide) rfl rfl rfl rfl (Nat.le_of_ble_eq_true rfl) ⟨Nat.zero_le _, Nat.zero_le _⟩ dX7_isAloneAt_21 (g_rI ?_)
        refine g_ifB_eq (pc := 24) 53 dX7_isAloneAt_24 (by decide) (fun h24 => ?_) (fun h24 => ?_)
        · refine g_iconst (pc := 53) (nI 0) (by decide) dX7_isAloneAt_53 ?_
          refine g_istore_n (pc := 54) rfl [(0, .ref (gAd E 60)), (1, .int (nI row)), (2, .int (nI wk)), (3, .int (nI 0)), (4, .int (nI i))] dX7_isAloneAt_54 (by decide) rfl rfl ?_
          refine g_iincN (pc := 55) 1 4 [(0, .ref (gAd E 60)), (1, .int (nI row)), (2, .int (nI wk)), (3, .int (nI 0)), (4, .int (nI (i + 1)))] rfl dX7_isAloneAt_55 (by decide) rfl rfl ?_
          refine g_goto (pc := 58) 5 dX7_isAloneAt_58 (by decide) ?_
          refine g_lv (pc := 5) (lv' := [(0, .ref (gAd E 60)), (1, .int (nI row)), (2, .int (nI wk)), (3, .int (gb (sAny pal (i + 1)))), (4, .int (nI (i + 1)))]) (by rw [show sAny pal (i + 1) = false from (show (sAny pal i || pal i) = false from by rw [h15, hpal]; simp [h24])]; rfl) ?_
          exact ihi (by omega)
        · refine g_aload_n (pc := 27) 0 rfl rfl dX7_isAloneAt_27 ?_
          refine g_iload (pc := 28) 4 rfl dX7_isAloneAt_28 ?_
          refine g_iconst (pc := 30) (nI 5) (by decide) dX7_isAloneAt_30 ?_
          refine g_callV (pc := 31) (mc := mX7_of) (rest := []) lX7_107 iX7_of (kX7_of l E M hR i 5 (by omega) (by omega)) ⟨Nat.le_of_ble_eq_true rfl, Nat.le_of_ble_eq_true rfl⟩ hR.s0 (by decide) (by decide) rfl rfl rfl rfl (Nat.le_of_ble_eq_true rfl) ⟨Nat.zero_le _, Nat.zero_le _⟩ dX7_isAloneAt_31 (g_rI ?_)
          refine g_iconst (pc := 34) (nI 1) (by decide) dX7_isAloneAt_34 ?_
          refine g_icmpN_ne (pc := 35) 53 dX7_isAloneAt_35 (by decide) (by omega) (by omega) (fun h35 => ?_) (fun h35 => ?_)
          · refine g_iconst (pc := 53) (nI 0) (by decide) dX7_isAloneAt_53 ?_
            refine g_istore_n (pc := 54) rfl [(0, .ref (gAd E 60)), (1, .int (nI row)), (2, .int (nI wk)), (3, .int (nI 0)), (4, .int (nI i))] dX7_isAloneAt_54 (by decide) rfl rfl ?_
            refine g_iincN (pc := 55) 1 4 [(0, .ref (gAd E 60)), (1, .int (nI row)), (2, .int (nI wk)), (3, .int (nI 0)), (4, .int (nI (i + 1)))] rfl dX7_isAloneAt_55 (by decide) rfl rfl ?_
            refine g_goto (pc := 58) 5 dX7_isAloneAt_58 (by decide) ?_
            refine g_lv (pc := 5) (lv' := [(0, .ref (gAd E 60)), (1, .int (nI row)), (2, .int (nI wk)), (3, .int (gb (sAny pal (i + 1)))), (4, .int (nI (i + 1)))]) (by rw [show sAny pal (i + 1) = false from (show (sAny pal i || pal i) = false from by rw [h15, hpal]; simp only [show (mV M i 5 == 1) = false from beq_eq_false_iff_ne.mpr h35]; simp)]; rfl) ?_
            exact ihi (by omega)
          · refine g_aload_n (pc := 38) 0 rfl rfl dX7_isAloneAt_38 ?_
            refine g_iload (pc := 39) 4 rfl dX7_isAloneAt_39 ?_
            refine g_iload_n (pc := 41) 1 rfl rfl dX7_isAloneAt_41 ?_
            refine g_iload_n (pc := 42) 2 rfl rfl dX7_isAloneAt_42 ?_
            refine g_callV (pc := 43) (mc := mX7_has) (rest := []) lX7_150 iX7_has (kX7_has l E M hR hO i row wk (by omega) (by omega) (by omega)) ⟨Nat.le_of_ble_eq_true rfl, Nat.le_of_ble_eq_true rfl⟩ hR.s0 (by decide) (by decide) rfl rfl rfl rfl (Nat.le_of_ble_eq_true rfl) ⟨Nat.zero_le _, Nat.zero_le _⟩ dX7_isAloneAt_43 (g_rI ?_)
            refine g_ifB_eq (pc := 46) 53 dX7_isAloneAt_46 (by decide) (fun h46 => ?_) (fun h46 => ?_)
            · refine g_iconst (pc := 53) (nI 0) (by decide) dX7_isAloneAt_53 ?_
              refine g_istore_n (pc := 54) rfl [(0, .ref (gAd E 60)), (1, .int (nI row)), (2, .int (nI wk)), (3, .int (nI 0)), (4, .int (nI i))] dX7_isAloneAt_54 (by decide) rfl rfl ?_
              refine g_iincN (pc := 55) 1 4 [(0, .ref (gAd E 60)), (1, .int (nI row)), (2, .int (nI wk)), (3, .int (nI 0)), (4, .int (nI (i + 1)))] rfl dX7_isAloneAt_55 (by decide) rfl rfl ?_
              refine g_goto (pc := 58) 5 dX7_isAloneAt_58 (by decide) ?_
              refine g_lv (pc := 5) (lv' := [(0, .ref (gAd E 60)), (1, .int (nI row)), (2, .int (nI wk)), (3, .int (gb (sAny pal (i + 1)))), (4, .int (nI (i + 1)))]) (by rw [show sAny pal (i + 1) = false from (show (sAny pal i || pal i) = false from by rw [h15, hpal]; simp only [h24, show (mV M i 5 == 1) = true from beq_iff_eq.mpr h35, h46]; rfl)]; rfl) ?_
              exact ihi (by omega)
            · refine g_iconst (pc := 49) (nI 1) (by decide) dX7_isAloneAt_49 ?_
              refine g_goto (pc := 50) 54 dX7_isAloneAt_50 (by decide) ?_
              refine g_istore_n (pc := 54) rfl [(0, .ref (gAd E 60)), (1, .int (nI row)), (2, .int (nI wk)), (3, .int (nI 1)), (4, .int (nI i))] dX7_isAloneAt_54 (by decide) rfl rfl ?_
              refine g_iincN (pc := 55) 1 4 [(0, .ref (gAd E 60)), (1, .int (nI row)), (2, .int (nI wk)), (3, .int (nI 1)), (4, .int (nI (i + 1)))] rfl dX7_isAloneAt_55 (by decide) rfl rfl ?_
              refine g_goto (pc := 58) 5 dX7_isAloneAt_58 (by decide) ?_
              refine g_lv (pc := 5) (lv' := [(0, .ref (gAd E 60)), (1, .int (nI row)), (2, .int (nI wk)), (3, .int (gb (sAny pal (i + 1)))), (4, .int (nI (i + 1)))]) (by rw [show sAny pal (i + 1) = true from (show (sAny pal i || pal i) = true from by rw [h15, hpal]; simp only [h24, show (mV M i 5 == 1) = true from beq_iff_eq.mpr h35, h46]; rfl)]; rfl) ?_
              exact ihi (by omega)
  refine g_lv (pc := 5) (lv' := [(0, .ref (gAd E 60)), (1, .int (nI row)), (2, .int (nI wk)), (3, .int (gb (sAny pal 0))), (4, .int (nI 0))]) rfl ?_
  exact lp5 0 (by omega)
