set_option maxRecDepth 100000 in
set_option maxHeartbeats 4000000 in
theorem kX7_beginRead (l : Launch) (E : gEnv) (M : gMem) (hR : mR E M) : gMetU l E mX7_beginRead 0 [.ref (gAd E 60)] M (gU (gU (gU (gU M 60 5 0) 60 6 0) 60 7 0) 60 8 51) := by
  refine gMet_of (mm := mX7_beginRead) (h := 0) (M := M) [(0, .ref (gAd E 60))] (by decide) (Nat.le_of_ble_eq_true rfl) rfl ?_
  refine g_aload_n (pc := 0) 0 rfl rfl dX7_beginRead_0 ?_
  refine g_iconst (pc := 1) (nI 0) (by decide) dX7_beginRead_1 ?_
  refine uX7_55 (pc := 2) rfl hR.s0 dX7_beginRead_2 ?_
  refine g_aload_n (pc := 5) 0 rfl rfl dX7_beginRead_5 ?_
  refine g_iconst (pc := 6) (nI 0) (by decide) dX7_beginRead_6 ?_
  refine uX7_58 (pc := 7) rfl hR.s0 dX7_beginRead_7 ?_
  refine g_aload_n (pc := 10) 0 rfl rfl dX7_beginRead_10 ?_
  refine g_iconst (pc := 11) (nI 0) (by decide) dX7_beginRead_11 ?_
  refine uX7_37 (pc := 12) rfl hR.s0 dX7_beginRead_12 ?_
  refine g_aload_n (pc := 15) 0 rfl rfl dX7_beginRead_15 ?_
  refine g_bipush (pc := 16) (nI 51) (by decide) dX7_beginRead_16 ?_
  refine uX7_41 (pc := 18) rfl hR.s0 dX7_beginRead_18 ?_
  exact g_vret (pc := 21) rfl dX7_beginRead_21 ⟨rfl, rfl⟩
set_option maxRecDepth 100000 in
set_option maxHeartbeats 4000000 in
theorem kX7_putOffer (l : Launch) (E : gEnv) (M : gMem) (hR : mR E M) (f : Nat → Nat) (hn : M.1 60 5 < 10) : gMetU l E mX7_putOffer 0 [.ref (gAd E 60), .int (nI (f 0)), .int (nI (f 1)), .int (nI (f 2)), .int (nI (f 3)), .int (nI (f 4)), .int (nI (f 5)), .int (nI (f 6))] M (mPO M f) := by
  refine gMet_of (mm := mX7_putOffer) (h := 0) (M := M) [(0, .ref (gAd E 60)), (1, .int (nI (f 0))), (2, .int (nI (f 1))), (3, .int (nI (f 2))), (4, .int (nI (f 3))), (5, .int (nI (f 4))), (6, .int (nI (f 5))), (7, .int (nI (f 6)))] (by decide) (Nat.le_of_ble_eq_true rfl) rfl ?_
  refine g_bipush (pc := 0) (nI 7) (by decide) dX7_putOffer_0 ?_
  refine g_aload_n (pc := 2) 0 rfl rfl dX7_putOffer_2 ?_
  refine fX7_55 (pc := 3) rfl hR.s0 dX7_putOffer_3 ?_
  refine g_imulN (pc := 6) dX7_putOffer_6 ?_
  refine g_istore (pc := 7) [(0, .ref (gAd E 60)), (1, .int (nI (f 0))), (2, .int (nI (f 1))), (3, .int (nI (f 2))), (4, .int (nI (f 3))), (5, .int (nI (f 4))), (6, .int (nI (f 5))), (7, .int (nI (f 6))), (8, .int (nI (7 * (M.1 60 5))))] dX7_putOffer_7 (by decide) rfl rfl ?_
  refine g_aload_n (pc := 9) 0 rfl rfl dX7_putOffer_9 ?_
  refine fX7_13 (pc := 10) 62 rfl hR.s0 hR.r2 (by decide) dX7_putOffer_10 ?_
  refine g_iload (pc := 13) 8 rfl dX7_putOffer_13 ?_
  refine g_iload_n (pc := 15) 1 rfl rfl dX7_putOffer_15 ?_
  refine g_iastore (pc := 16) hR.s2 (by rw [hR.l2]; omega) (by rw [hR.l2]; omega) dX7_putOffer_16 ?_
  refine g_aload_n (pc := 17) 0 rfl rfl dX7_putOffer_17 ?_
  refine fX7_13 (pc := 18) 62 rfl hR.s0 hR.r2 (by decide) dX7_putOffer_18 ?_
  refine g_iload (pc := 21) 8 rfl dX7_putOffer_21 ?_
  refine g_iconst (pc := 23) (nI 1) (by decide) dX7_putOffer_23 ?_
  refine g_iaddN (pc := 24) dX7_putOffer_24 ?_
  refine g_iload_n (pc := 25) 2 rfl rfl dX7_putOffer_25 ?_
  refine g_iastore (pc := 26) hR.s2 (by rw [hR.l2]; omega) (by rw [hR.l2]; omega) dX7_putOffer_26 ?_
  refine g_aload_n (pc := 27) 0 rfl rfl dX7_putOffer_27 ?_
  refine fX7_13 (pc := 28) 62 rfl hR.s0 hR.r2 (by decide) dX7_putOffer_28 ?_
  refine g_iload (pc := 31) 8 rfl dX7_putOffer_31 ?_
  refine g_iconst (pc := 33) (nI 2) (by decide) dX7_putOffer_33 ?_
  refine g_iaddN (pc := 34) dX7_putOffer_34 ?_
  refine g_iload_n (pc := 35) 3 rfl rfl dX7_putOffer_35 ?_
  refine g_iastore (pc := 36) hR.s2 (by rw [hR.l2]; omega) (by rw [hR.l2]; omega) dX7_putOffer_36 ?_
  refine g_aload_n (pc := 37) 0 rfl rfl dX7_putOffer_37 ?_
  refine fX7_13 (pc := 38) 62 rfl hR.s0 hR.r2 (by decide) dX7_putOffer_38 ?_
  refine g_iload (pc := 41) 8 rfl dX7_putOffer_41 ?_
  refine g_iconst (pc := 43) (nI 3) (by decide) dX7_putOffer_43 ?_
  refine g_iaddN (pc := 44) dX7_putOffer_44 ?_
  refine g_iload (pc := 45) 4 rfl dX7_putOffer_45 ?_
  refine g_iastore (pc := 47) hR.s2 (by rw [hR.l2]; omega) (by rw [hR.l2]; omega) dX7_putOffer_47 ?_
  refine g_aload_n (pc := 48) 0 rfl rfl dX7_putOffer_48 ?_
  refine fX7_13 (pc := 49) 62 rfl hR.s0 hR.r2 (by decide) dX7_putOffer_49 ?_
  refine g_iload (pc := 52) 8 rfl dX7_putOffer_52 ?_
  refine g_iconst (pc := 54) (nI 4) (by decide) dX7_putOffer_54 ?_
  refine g_iaddN (pc := 55) dX7_putOffer_55 ?_
  refine g_iload (pc := 56) 5 rfl dX7_putOffer_56 ?_
  refine g_iastore (pc := 58) hR.s2 (by rw [hR.l2]; omega) (by rw [hR.l2]; omega) dX7_putOffer_58 ?_
  refine g_aload_n (pc := 59) 0 rfl rfl dX7_putOffer_59 ?_
  refine fX7_13 (pc := 60) 62 rfl hR.s0 hR.r2 (by decide) dX7_putOffer_60 ?_
  refine g_iload (pc := 63) 8 rfl dX7_putOffer_63 ?_
  refine g_iconst (pc := 65) (nI 5) (by decide) dX7_putOffer_65 ?_
  refine g_iaddN (pc := 66) dX7_putOffer_66 ?_
  refine g_iload (pc := 67) 6 rfl dX7_putOffer_67 ?_
  refine g_iastore (pc := 69) hR.s2 (by rw [hR.l2]; omega) (by rw [hR.l2]; omega) dX7_putOffer_69 ?_
  refine g_aload_n (pc := 70) 0 rfl rfl dX7_putOffer_70 ?_
  refine fX7_13 (pc := 71) 62 rfl hR.s0 hR.r2 (by decide) dX7_putOffer_71 ?_
  refine g_iload (pc := 74) 8 rfl dX7_putOffer_74 ?_
  refine g_bipush (pc := 76) (nI 6) (by decide) dX7_putOffer_76 ?_
  refine g_iaddN (pc := 78) dX7_putOffer_78 ?_
  refine g_iload (pc := 79) 7 rfl dX7_putOffer_79 ?_
  refine g_iastore (pc := 81) hR.s2 (by rw [hR.l2]; omega) (by rw [hR.l2]; omega) dX7_putOffer_81 ?_
  refine g_aload_n (pc := 82) 0 rfl rfl dX7_putOffer_82 ?_
  refine g_dup (pc := 83) rfl dX7_putOffer_83 ?_
  refine fX7_55 (pc := 84) rfl hR.s0 dX7_putOffer_84 ?_
  refine g_topi (pc := 87) (x' := nI (M.1 60 5)) (by simp [gU, gUr]) ?_
  refine g_iconst (pc := 87) (nI 1) (by decide) dX7_putOffer_87 ?_
  refine g_iaddN (pc := 88) dX7_putOffer_88 ?_
  refine uX7_55 (pc := 89) rfl hR.s0 dX7_putOffer_89 ?_
  exact g_vret (pc := 92) rfl dX7_putOffer_92 ⟨rfl, rfl⟩
set_option maxRecDepth 100000 in
set_option maxHeartbeats 4000000 in
theorem kX7_putHold (l : Launch) (E : gEnv) (M : gMem) (hR : mR E M) (f : Nat → Nat) (hn : M.1 60 6 < 4) : gMetU l E mX7_putHold 0 [.ref (gAd E 60), .int (nI (f 0)), .int (nI (f 1)), .int (nI (f 2))] M (mPH M f) := by
  refine gMet_of (mm := mX7_putHold) (h := 0) (M := M) [(0, .ref (gAd E 60)), (1, .int (nI (f 0))), (2, .int (nI (f 1))), (3, .int (nI (f 2)))] (by decide) (Nat.le_of_ble_eq_true rfl) rfl ?_
  refine g_aload_n (pc := 0) 0 rfl rfl dX7_putHold_0 ?_
  refine fX7_16 (pc := 1) 63 rfl hR.s0 hR.r3 (by decide) dX7_putHold_1 ?_
  refine g_iconst (pc := 4) (nI 3) (by decide) dX7_putHold_4 ?_
  refine g_aload_n (pc := 5) 0 rfl rfl dX7_putHold_5 ?_
  refine fX7_58 (pc := 6) rfl hR.s0 dX7_putHold_6 ?_
  refine g_imulN (pc := 9) dX7_putHold_9 ?_
  refine g_iload_n (pc := 10) 1 rfl rfl dX7_putHold_10 ?_
  refine g_iastore (pc := 11) hR.s3 (by rw [hR.l3]; omega) (by rw [hR.l3]; omega) dX7_putHold_11 ?_
  refine g_aload_n (pc := 12) 0 rfl rfl dX7_putHold_12 ?_
  refine fX7_16 (pc := 13) 63 rfl hR.s0 hR.r3 (by decide) dX7_putHold_13 ?_
  refine g_iconst (pc := 16) (nI 3) (by decide) dX7_putHold_16 ?_
  refine g_aload_n (pc := 17) 0 rfl rfl dX7_putHold_17 ?_
  refine fX7_58 (pc := 18) rfl hR.s0 dX7_putHold_18 ?_
  refine g_topi (pc := 21) (x' := nI (M.1 60 6)) (by simp [gU, gUr]) ?_
  refine g_imulN (pc := 21) dX7_putHold_21 ?_
  refine g_iconst (pc := 22) (nI 1) (by decide) dX7_putHold_22 ?_
  refine g_iaddN (pc := 23) dX7_putHold_23 ?_
  refine g_iload_n (pc := 24) 2 rfl rfl dX7_putHold_24 ?_
  refine g_iastore (pc := 25) hR.s3 (by rw [hR.l3]; omega) (by rw [hR.l3]; omega) dX7_putHold_25 ?_
  refine g_aload_n (pc := 26) 0 rfl rfl dX7_putHold_26 ?_
  refine fX7_16 (pc := 27) 63 rfl hR.s0 hR.r3 (by decide) dX7_putHold_27 ?_
  refine g_iconst (pc := 30) (nI 3) (by decide) dX7_putHold_30 ?_
  refine g_aload_n (pc := 31) 0 rfl rfl dX7_putHold_31 ?_
  refine fX7_58 (pc := 32) rfl hR.s0 dX7_putHold_32 ?_
  refine g_topi (pc := 35) (x' := nI (M.1 60 6)) (by simp [gU, gUr]) ?_
  refine g_imulN (pc := 35) dX7_putHold_35 ?_
  refine g_iconst (pc := 36) (nI 2) (by decide) dX7_putHold_36 ?_
  refine g_iaddN (pc := 37) dX7_putHold_37 ?_
  refine g_iload_n (pc := 38) 3 rfl rfl dX7_putHold_38 ?_
  refine g_iastore (pc := 39) hR.s3 (by rw [hR.l3]; omega) (by rw [hR.l3]; omega) dX7_putHold_39 ?_
  refine g_aload_n (pc := 40) 0 rfl rfl dX7_putHold_40 ?_
  refine g_dup (pc := 41) rfl dX7_putHold_41 ?_
  refine fX7_58 (pc := 42) rfl hR.s0 dX7_putHold_42 ?_
  refine g_topi (pc := 45) (x' := nI (M.1 60 6)) (by simp [gU, gUr]) ?_
  refine g_iconst (pc := 45) (nI 1) (by decide) dX7_putHold_45 ?_
  refine g_iaddN (pc := 46) dX7_putHold_46 ?_
  refine uX7_58 (pc := 47) rfl hR.s0 dX7_putHold_47 ?_
  exact g_vret (pc := 50) rfl dX7_putHold_50 ⟨rfl, rfl⟩
set_option maxRecDepth 100000 in
set_option maxHeartbeats 4000000 in
theorem kX7_takeRead (l : Launch) (E : gEnv) (M : gMem) (hR : mR E M) : gMetU l E mX7_takeRead 0 [.ref (gAd E 60)] M (mTk M) := by
  refine gMet_of (mm := mX7_takeRead) (h := 0) (M := M) [(0, .ref (gAd E 60))] (by decide) (Nat.le_of_ble_eq_true rfl) rfl ?_
  refine g_iconst (pc := 0) (nI 0) (by decide) dX7_takeRead_0 ?_
  refine g_istore_n (pc := 1) rfl [(0, .ref (gAd E 60)), (1, .int (nI 0))] dX7_takeRead_1 (by decide) rfl rfl ?_
  have lp2 : ∀ k, k ≤ 70 → gG l (gV0 0 E (fun v u => v = none ∧ u = (mTk M))) mX7_takeRead E (0, 0) (gRow M 64 (fCp (M.1 64) (M.1 62) k)) 2 [(0, .ref (gAd E 60)), (1, .int (nI k))] [] := by
    refine gloop (fun k hik ihk => ?_)
    refine g_iload_n (pc := 2) 1 rfl rfl dX7_takeRead_2 ?_
    refine g_bipush (pc := 3) (nI 70) (by decide) dX7_takeRead_3 ?_
    refine g_icmpN_ge (pc := 5) 26 dX7_takeRead_5 (by decide) (by omega) (by omega) (fun h5 => ?_) (fun h5 => ?_)
    · refine g_mm (pc := 26) (M' := (gRow M 64 (fCp (M.1 64) (M.1 62) 70))) (by rw [show k = 70 by omega]) ?_
      refine g_iconst (pc := 26) (nI 0) (by decide) dX7_takeRead_26 ?_
      refine g_istore_n (pc := 27) rfl [(0, .ref (gAd E 60)), (1, .int (nI 0))] dX7_takeRead_27 (by decide) rfl rfl ?_
      have lp28 : ∀ j, j ≤ 12 → gG l (gV0 0 E (fun v u => v = none ∧ u = (mTk M))) mX7_takeRead E (0, 0) (gRow (gRow M 64 (fCp (M.1 64) (M.1 62) 70)) 65 (fCp (M.1 65) (M.1 63) j)) 28 [(0, .ref (gAd E 60)), (1, .int (nI j))] [] := by
        refine gloop (fun j hij ihj => ?_)
        refine g_iload_n (pc := 28) 1 rfl rfl dX7_takeRead_28 ?_
        refine g_bipush (pc := 29) (nI 12) (by decide) dX7_takeRead_29 ?_
        refine g_icmpN_ge (pc := 31) 52 dX7_takeRead_31 (by decide) (by omega) (by omega) (fun h31 => ?_) (fun h31 => ?_)
        · refine g_mm (pc := 52) (M' := (gRow (gRow M 64 (fCp (M.1 64) (M.1 62) 70)) 65 (fCp (M.1 65) (M.1 63) 12))) (by rw [show j = 12 by omega]) ?_
          refine g_aload_n (pc := 52) 0 rfl rfl dX7_takeRead_52 ?_
          refine g_aload_n (pc := 53) 0 rfl rfl dX7_takeRead_53 ?_
          refine fX7_55 (pc := 54) rfl hR.s0 dX7_takeRead_54 ?_
          refine g_topi (pc := 57) (x' := nI (M.1 60 5)) (by simp [gRow, gU]) ?_
          refine uX7_61 (pc := 57) rfl hR.s0 dX7_takeRead_57 ?_
          refine g_aload_n (pc := 60) 0 rfl rfl dX7_takeRead_60 ?_
          refine g_aload_n (pc := 61) 0 rfl rfl dX7_takeRead_61 ?_
          refine fX7_58 (pc := 62) rfl hR.s0 dX7_takeRead_62 ?_
          refine g_topi (pc := 65) (x' := nI (M.1 60 6)) (by simp [gRow, gU]) ?_
          refine uX7_64 (pc := 65) rfl hR.s0 dX7_takeRead_65 ?_
          refine g_aload_n (pc := 68) 0 rfl rfl dX7_takeRead_68 ?_
          refine g_aload_n (pc := 69) 0 rfl rfl dX7_takeRead_69 ?_
          refine fX7_37 (pc := 70) rfl hR.s0 dX7_takeRead_70 ?_
          refine g_topi (pc := 73) (x' := nI (M.1 60 7)) (by simp [gRow, gU]) ?_
          refine uX7_67 (pc := 73) rfl hR.s0 dX7_takeRead_73 ?_
          refine g_aload_n (pc := 76) 0 rfl rfl dX7_takeRead_76 ?_
          refine g_aload_n (pc := 77) 0 rfl rfl dX7_takeRead_77 ?_
          refine fX7_41 (pc := 78) rfl hR.s0 dX7_takeRead_78 ?_
          refine g_topi (pc := 81) (x' := nI (M.1 60 8)) (by simp [gRow, gU]) ?_
          refine uX7_70 (pc := 81) rfl hR.s0 dX7_takeRead_81 ?_
          refine g_iconst (pc := 84) (nI 0) (by decide) dX7_takeRead_84 ?_
          refine g_istore_n (pc := 85) rfl [(0, .ref (gAd E 60)), (1, .int (nI 0))] dX7_takeRead_85 (by decide) rfl rfl ?_
          have lp86 : ∀ i, i ≤ 11 → gG l (gV0 0 E (fun v u => v = none ∧ u = (mTk M))) mX7_takeRead E (0, 0) (gRow (gU (gU (gU (gU (gRow (gRow M 64 (fCp (M.1 64) (M.1 62) 70)) 65 (fCp (M.1 65) (M.1 63) 12)) 60 11 (M.1 60 5)) 60 12 (M.1 60 6)) 60 13 (M.1 60 7)) 60 14 (M.1 60 8)) 66 (fCp (M.1 66) zer i)) 86 [(0, .ref (gAd E 60)), (1, .int (nI i))] [] := by
            refine gloop (fun i hii ihi => ?_)
            refine g_iload_n (pc := 86) 1 rfl rfl dX7_takeRead_86 ?_
            refine g_bipush (pc := 87) (nI 11) (by decide) dX7_takeRead_87 ?_
            refine g_icmpN_ge (pc := 89) 105 dX7_takeRead_89 (by decide) (by omega) (by omega) (fun h89 => ?_) (fun h89 => ?_)
            · refine g_aload_n (pc := 105) 0 rfl rfl dX7_takeRead_105 ?_
              refine g_iconst (pc := 106) (nI 0) (by decide) dX7_takeRead_106 ?_
              refine uX7_73 (pc := 107) rfl hR.s0 dX7_takeRead_107 ?_
              exact g_vret (pc := 110) rfl dX7_takeRead_110 ⟨rfl, by rw [show i = 11 by omega]; rfl⟩
            · refine g_aload_n (pc := 92) 0 rfl rfl dX7_takeRead_92 ?_
              refine fX7_25 (pc := 93) 66 rfl hR.s0 hR.r6 (by decide) dX7_takeRead_93 ?_
              refine g_iload_n (pc := 96) 1 rfl rfl dX7_takeRead_96 ?_
              refine g_iconst (pc := 97) (nI 0) (by decide) dX7_takeRead_97 ?_
              refine g_iastore (pc := 98) hR.s6 (by rw [hR.l6]; omega) (by rw [hR.l6]; omega) dX7_takeRead_98 ?_
              refine g_iincN (pc := 99) 1 1 [(0, .ref (gAd E 60)), (1, .int (nI (i + 1)))] rfl dX7_takeRead_99 (by decide) rfl rfl ?_
              refine g_goto (pc := 102) 86 dX7_takeRead_102 (by decide) ?_
              refine g_mm (pc := 86) (M' := gRow (gU (gU (gU (gU (gRow (gRow M 64 (fCp (M.1 64) (M.1 62) 70)) 65 (fCp (M.1 65) (M.1 63) 12)) 60 11 (M.1 60 5)) 60 12 (M.1 60 6)) 60 13 (M.1 60 7)) 60 14 (M.1 60 8)) 66 (fCp (M.1 66) zer (i + 1))) (by rw [gRow_U, show 0 = zer i from rfl, fCp_s]) ?_
              exact ihi (by omega)
          refine g_mm (pc := 86) (M' := gRow (gU (gU (gU (gU (gRow (gRow M 64 (fCp (M.1 64) (M.1 62) 70)) 65 (fCp (M.1 65) (M.1 63) 12)) 60 11 (M.1 60 5)) 60 12 (M.1 60 6)) 60 13 (M.1 60 7)) 60 14 (M.1 60 8)) 66 (fCp (M.1 66) zer 0)) (by rw [fCp_0, show M.1 66 = (gU (gU (gU (gU (gRow (gRow M 64 (fCp (M.1 64) (M.1 62) 70)) 65 (fCp (M.1 65) (M.1 63) 12)) 60 11 (M.1 60 5)) 60 12 (M.1 60 6)) 60 13 (M.1 60 7)) 60 14 (M.1 60 8)).1 66 from rfl, gRow_me]) ?_
          exact lp86 0 (by omega)
        · refine g_aload_n (pc := 34) 0 rfl rfl dX7_takeRead_34 ?_
          refine fX7_22 (pc := 35) 65 rfl hR.s0 hR.r5 (by decide) dX7_takeRead_35 ?_
          refine g_iload_n (pc := 38) 1 rfl rfl dX7_takeRead_38 ?_
          refine g_aload_n (pc := 39) 0 rfl rfl dX7_takeRead_39 ?_
          refine fX7_16 (pc := 40) 63 rfl hR.s0 hR.r3 (by decide) dX7_takeRead_40 ?_
          refine g_iload_n (pc := 43) 1 rfl rfl dX7_takeRead_43 ?_
          refine g_iaload (pc := 44) hR.s3 (by rw [hR.l3]; omega) (by rw [hR.l3]; omega) dX7_takeRead_44 ?_
          refine g_topi (pc := 45) (x' := nI (M.1 63 j)) (by simp [gRow, gU]) ?_
          refine g_iastore (pc := 45) hR.s5 (by rw [hR.l5]; omega) (by rw [hR.l5]; omega) dX7_takeRead_45 ?_
          refine g_iincN (pc := 46) 1 1 [(0, .ref (gAd E 60)), (1, .int (nI (j + 1)))] rfl dX7_takeRead_46 (by decide) rfl rfl ?_
          refine g_goto (pc := 49) 28 dX7_takeRead_49 (by decide) ?_
          refine g_mm (pc := 28) (M' := gRow (gRow M 64 (fCp (M.1 64) (M.1 62) 70)) 65 (fCp (M.1 65) (M.1 63) (j + 1))) (by rw [gRow_U, fCp_s]) ?_
          exact ihj (by omega)
      refine g_mm (pc := 28) (M' := gRow (gRow M 64 (fCp (M.1 64) (M.1 62) 70)) 65 (fCp (M.1 65) (M.1 63) 0)) (by rw [fCp_0, show M.1 65 = (gRow M 64 (fCp (M.1 64) (M.1 62) 70)).1 65 from rfl, gRow_me]) ?_
      exact lp28 0 (by omega)
    · refine g_aload_n (pc := 8) 0 rfl rfl dX7_takeRead_8 ?_
      refine fX7_19 (pc := 9) 64 rfl hR.s0 hR.r4 (by decide) dX7_takeRead_9 ?_
      refine g_iload_n (pc := 12) 1 rfl rfl dX7_takeRead_12 ?_
      refine g_aload_n (pc := 13) 0 rfl rfl dX7_takeRead_13 ?_
      refine fX7_13 (pc := 14) 62 rfl hR.s0 hR.r2 (by decide) dX7_takeRead_14 ?_
      refine g_iload_n (pc := 17) 1 rfl rfl dX7_takeRead_17 ?_
      refine g_iaload (pc := 18) hR.s2 (by rw [hR.l2]; omega) (by rw [hR.l2]; omega) dX7_takeRead_18 ?_
      refine g_topi (pc := 19) (x' := nI (M.1 62 k)) (by simp [gRow, gU]) ?_
      refine g_iastore (pc := 19) hR.s4 (by rw [hR.l4]; omega) (by rw [hR.l4]; omega) dX7_takeRead_19 ?_
      refine g_iincN (pc := 20) 1 1 [(0, .ref (gAd E 60)), (1, .int (nI (k + 1)))] rfl dX7_takeRead_20 (by decide) rfl rfl ?_
      refine g_goto (pc := 23) 2 dX7_takeRead_23 (by decide) ?_
      refine g_mm (pc := 2) (M' := gRow M 64 (fCp (M.1 64) (M.1 62) (k + 1))) (by rw [gRow_U, fCp_s]) ?_
      exact ihk (by omega)
  refine g_mm (pc := 2) (M' := gRow M 64 (fCp (M.1 64) (M.1 62) 0)) (by rw [fCp_0, gRow_me]) ?_
  exact lp2 0 (by omega)
set_option maxRecDepth 100000 in
set_option maxHeartbeats 4000000 in
theorem kX7_isFigure (l : Launch) (E : gEnv) (M : gMem) (hR : mR E M) (hL : M.1 60 1 ≤ 200) (ha : M.1 60 2 ≤ M.1 60 1) (hT : ∀ p, p < M.1 60 1 → M.1 61 p ≤ 126) : gMetI l E mX7_isFigure 1 [.ref (gAd E 60)] M (gb (dgt (M.1 61) (M.1 60 1) (M.1 60 2))) := by
  refine gMet_of (mm := mX7_isFigure) (h := 1) (M := M) [(0, .ref (gAd E 60))] (by decide) (Nat.le_of_ble_eq_true rfl) rfl ?_
  refine g_aload_n (pc := 0) 0 rfl rfl dX7_isFigure_0 ?_
  refine fX7_76 (pc := 1) rfl hR.s0 dX7_isFigure_1 ?_
  refine g_aload_n (pc := 4) 0 rfl rfl dX7_isFigure_4 ?_
  refine fX7_79 (pc := 5) rfl hR.s0 dX7_isFigure_5 ?_
  refine g_icmpN_ge (pc := 8) 34 dX7_isFigure_8 (by decide) (by omega) (by omega) (fun h8 => ?_) (fun h8 => ?_)
  · refine g_iconst (pc := 34) (nI 0) (by decide) dX7_isFigure_34 ?_
    refine g_topi (pc := 35) (x' := gb false) (by decide) ?_
    exact g_zret (pc := 35) rfl dX7_isFigure_35 ⟨congrArg (fun z => some (Value.int (gb z))) (bf_of (by intro hh; have hh := of_decide_eq_true hh; omega)), rfl⟩
  · refine g_aload_n (pc := 11) 0 rfl rfl dX7_isFigure_11 ?_
    refine fX7_7 (pc := 12) 61 rfl hR.s0 hR.r1 (by decide) dX7_isFigure_12 ?_
    refine g_aload_n (pc := 15) 0 rfl rfl dX7_isFigure_15 ?_
    refine fX7_76 (pc := 16) rfl hR.s0 dX7_isFigure_16 ?_
    refine g_iaload (pc := 19) hR.s1 (by rw [hR.l1]; omega) (by rw [hR.l1]; omega) dX7_isFigure_19 ?_
    refine g_bipush (pc := 20) (nI 48) (by decide) dX7_isFigure_20 ?_
    refine g_bipush (pc := 22) (nI 57) (by decide) dX7_isFigure_22 ?_
    refine g_callS (pc := 24) (mc := mX7_in) (rest := []) lX7_82 iX7_in (kX7_inN l E M (M.1 61 (M.1 60 2)) 48 57 (by have := hT (M.1 60 2) h8; omega) (by omega) (by omega)) ⟨Nat.le_of_ble_eq_true rfl, Nat.le_of_ble_eq_true rfl⟩ rfl rfl (Nat.le_of_ble_eq_true rfl) ⟨Nat.zero_le _, Nat.zero_le _⟩ dX7_isFigure_24 (g_rI ?_)
    refine g_ifB_eq (pc := 27) 34 dX7_isFigure_27 (by decide) (fun h27 => ?_) (fun h27 => ?_)
    · refine g_iconst (pc := 34) (nI 0) (by decide) dX7_isFigure_34 ?_
      refine g_topi (pc := 35) (x' := gb false) (by decide) ?_
      exact g_zret (pc := 35) rfl dX7_isFigure_35 ⟨congrArg (fun z => some (Value.int (gb z))) (bf_of (by intro hh; have hh := of_decide_eq_true hh; exact of_decide_eq_false h27 hh.2)), rfl⟩
    · refine g_iconst (pc := 30) (nI 1) (by decide) dX7_isFigure_30 ?_
      refine g_goto (pc := 31) 35 dX7_isFigure_31 (by decide) ?_
      refine g_topi (pc := 35) (x' := gb true) (by decide) ?_
      exact g_zret (pc := 35) rfl dX7_isFigure_35 ⟨congrArg (fun z => some (Value.int (gb z))) (bt_of (by exact decide_eq_true ⟨h8, of_decide_eq_true h27⟩)), rfl⟩
set_option maxRecDepth 100000 in
set_option maxHeartbeats 4000000 in
theorem kX7_readNumbers (l : Launch) (E : gEnv) (M : gMem) (hR : mR E M) (hL : M.1 60 1 ≤ 200) (ha0 : M.1 60 2 ≤ M.1 60 1) (hT : ∀ p, p < M.1 60 1 → M.1 61 p ≤ 126) (n : Nat) (hn : n ≤ 7) : gMet l E mX7_readNumbers 2 [.ref (gAd E 60), .int (nI n)] M (fun v u => v = some (.int (gb (mN (M.1 61) (M.1 60 1) n 0 (M.1 60 2) (M.1 68)).1)) ∧ u = mAt M (mN (M.1 61) (M.1 60 1) n 0 (M.1 60 2) (M.1 68)).2.1 (mN (M.1 61) (M.1 60 1) n 0 (M.1 60 2) (M.1 68)).2.2) := by
  refine gMet_of (mm := mX7_readNumbers) (h := 2) (M := M) [(0, .ref (gAd E 60)), (1, .int (nI n))] (by decide) (Nat.le_of_ble_eq_true rfl) rfl ?_
  refine g_iconst (pc := 0) (nI 0) (by decide) dX7_readNumbers_0 ?_
  refine g_istore_n (pc := 1) rfl [(0, .ref (gAd E 60)), (1, .int (nI n)), (2, .int (nI 0))] dX7_readNumbers_1 (by decide) rfl rfl ?_
  have lp2 : ∀ k, k ≤ n → ∀ (a : Nat) (nf : Nat → Nat), (a ≤ M.1 60 1) → (mN (M.1 61) (M.1 60 1) n 0 (M.1 60 2) (M.1 68) = mN (M.1 61) (M.1 60 1) (n - k) k a nf) → gG l (gV0 2 E (fun v u => v = some (.int (gb (mN (M.1 61) (M.1 60 1) n 0 (M.1 60 2) (M.1 68)).1)) ∧ u = mAt M (mN (M.1 61) (M.1 60 1) n 0 (M.1 60 2) (M.1 68)).2.1 (mN (M.1 61) (M.1 60 1) n 0 (M.1 60 2) (M.1 68)).2.2)) mX7_readNumbers E (0, 0) (mAt M a nf) 2 [(0, .ref (gAd E 60)), (1, .int (nI n)), (2, .int (nI k))] [] := by
    refine gloop (fun k hik ihk => ?_)
    intro a nf
    intro ha
    intro he
    refine g_iload_n (pc := 2) 2 rfl rfl dX7_readNumbers_2 ?_
    refine g_iload_n (pc := 3) 1 rfl rfl dX7_readNumbers_3 ?_
    refine g_icmpN_ge (pc := 4) 136 dX7_readNumbers_4 (by decide) (by omega) (by omega) (fun h4 => ?_) (fun h4 => ?_)
    · refine g_iconst (pc := 136) (nI 1) (by decide) dX7_readNumbers_136 ?_
      refine g_topi (pc := 137) (x' := gb true) (by decide) ?_
      exact g_zret (pc := 137) rfl dX7_readNumbers_137 ⟨congrArg (fun z => some (Value.int (gb z))) (by rw [he, show n - k = 0 by omega]; rfl), by rw [he, show n - k = 0 by omega]; rfl⟩
    · refine g_aload_n (pc := 7) 0 rfl rfl dX7_readNumbers_7 ?_
      refine g_callV (pc := 8) (mc := mX7_isFigure) (rest := []) lX7_86 iX7_isFigure (kX7_isFigure l E (mAt M a nf) hR hL ha hT) ⟨Nat.le_of_ble_eq_true rfl, Nat.le_of_ble_eq_true rfl⟩ hR.s0 (by decide) (by decide) rfl rfl rfl rfl (Nat.le_of_ble_eq_true rfl) ⟨Nat.zero_le _, Nat.zero_le _⟩ dX7_readNumbers_8 (g_rI ?_)
      refine g_topi (pc := 11) (x' := gb (dgt (M.1 61) (M.1 60 1) a)) rfl ?_
      refine g_ifB_ne (pc := 11) 16 dX7_readNumbers_11 (by decide) (fun h11 => ?_) (fun h11 => ?_)
      · have hd := of_decide_eq_true h11
        have hta := hT a hd.1
        have hst : mN (M.1 61) (M.1 60 1) n 0 (M.1 60 2) (M.1 68) = _ := he.trans (by rw [show n - k = (n - (k + 1)) + 1 by omega])
        simp only [mN] at hst
        rw [if_pos h11] at hst
        refine g_aload_n (pc := 16) 0 rfl rfl dX7_readNumbers_16 ?_
        refine fX7_7 (pc := 17) 61 rfl hR.s0 hR.r1 (by decide) dX7_readNumbers_17 ?_
        refine g_aload_n (pc := 20) 0 rfl rfl dX7_readNumbers_20 ?_
        refine fX7_76 (pc := 21) rfl hR.s0 dX7_readNumbers_21 ?_
        refine g_topi (pc := 24) (x' := nI a) rfl ?_
        refine g_iaload (pc := 24) hR.s1 (by rw [hR.l1]; omega) (by rw [hR.l1]; omega) dX7_readNumbers_24 ?_
        refine g_topi (pc := 25) (x' := nI (M.1 61 a)) rfl ?_
        refine g_bipush (pc := 25) (nI 48) (by decide) dX7_readNumbers_25 ?_
        refine g_isubN (pc := 27) (by have := of_decide_eq_true h11; omega) dX7_readNumbers_27 ?_
        refine g_istore_n (pc := 28) rfl [(0, .ref (gAd E 60)), (1, .int (nI n)), (2, .int (nI k)), (3, .int (nI ((M.1 61 a) - 48)))] dX7_readNumbers_28 (by decide) rfl rfl ?_
        refine g_aload_n (pc := 29) 0 rfl rfl dX7_readNumbers_29 ?_
        refine g_dup (pc := 30) rfl dX7_readNumbers_30 ?_
        refine fX7_76 (pc := 31) rfl hR.s0 dX7_readNumbers_31 ?_
        refine g_topi (pc := 34) (x' := nI a) rfl ?_
        refine g_iconst (pc := 34) (nI 1) (by decide) dX7_readNumbers_34 ?_
        refine g_iaddN (pc := 35) dX7_readNumbers_35 ?_
        refine uX7_76 (pc := 36) rfl hR.s0 dX7_readNumbers_36 ?_
        refine g_mm (pc := 39) (M' := mAt M (a + 1) nf) (mAt_a _ _ _ _) ?_
        refine g_aload_n (pc := 39) 0 rfl rfl dX7_readNumbers_39 ?_
        refine g_callV (pc := 40) (mc := mX7_isFigure) (rest := []) lX7_86 iX7_isFigure (kX7_isFigure l E (mAt M (a + 1) nf) hR hL (show a + 1 ≤ M.1 60 1 by omega) hT) ⟨Nat.le_of_ble_eq_true rfl, Nat.le_of_ble_eq_true rfl⟩ hR.s0 (by decide) (by decide) rfl rfl rfl rfl (Nat.le_of_ble_eq_true rfl) ⟨Nat.zero_le _, Nat.zero_le _⟩ dX7_readNumbers_40 (g_rI ?_)
        refine g_topi (pc := 43) (x' := gb (dgt (M.1 61) (M.1 60 1) (a + 1))) rfl ?_
        refine g_ifB_eq (pc := 43) 74 dX7_readNumbers_43 (by decide) (fun h43 => ?_) (fun h43 => ?_)
        · have hna : (mNa (M.1 61) (M.1 60 1) a) = a + 1 := by simp only [mNa]; rw [if_neg (by rw [h43]; decide)]
          have hnv : (mNv (M.1 61) (M.1 60 1) a) = M.1 61 a - 48 := by simp only [mNv]; rw [if_neg (by rw [h43]; decide)]
          have hnl : a + 1 ≤ M.1 60 1 := by omega
          rw [hna, hnv] at hst
          refine g_aload_n (pc := 74) 0 rfl rfl dX7_readNumbers_74 ?_
          refine fX7_31 (pc := 75) 68 rfl hR.s0 hR.r8 (by decide) dX7_readNumbers_75 ?_
          refine g_iload_n (pc := 78) 2 rfl rfl dX7_readNumbers_78 ?_
          refine g_iload_n (pc := 79) 3 rfl rfl dX7_readNumbers_79 ?_
          refine g_iastore (pc := 80) hR.s8 (by rw [hR.l8]; omega) (by rw [hR.l8]; omega) dX7_readNumbers_80 ?_
          refine g_mm (pc := 81) (M' := mAt M (a + 1) (updN nf k ((M.1 61 a) - 48))) (mAt_n _ _ _ _ _) ?_
          refine g_aload_n (pc := 81) 0 rfl rfl dX7_readNumbers_81 ?_
          refine fX7_76 (pc := 82) rfl hR.s0 dX7_readNumbers_82 ?_
          refine g_topi (pc := 85) (x' := nI (a + 1)) rfl ?_
          refine g_aload_n (pc := 85) 0 rfl rfl dX7_readNumbers_85 ?_
          refine fX7_79 (pc := 86) rfl hR.s0 dX7_readNumbers_86 ?_
          refine g_topi (pc := 89) (x' := nI (M.1 60 1)) rfl ?_
          refine g_icmpN_eq (pc := 89) 118 dX7_readNumbers_89 (by decide) (by omega) (by omega) (fun h89 => ?_) (fun h89 => ?_)
          · refine g_iconst (pc := 118) (nI 0) (by decide) dX7_readNumbers_118 ?_
            refine g_topi (pc := 119) (x' := gb false) (by decide) ?_
            exact g_zret (pc := 119) rfl dX7_readNumbers_119 ⟨congrArg (fun z => some (Value.int (gb z))) (by rw [hst, if_neg (fun z => z.1 h89)]), by rw [hst, if_neg (fun z => z.1 h89)]⟩
          · have htn := hT (a + 1) (by omega)
            refine g_aload_n (pc := 92) 0 rfl rfl dX7_readNumbers_92 ?_
            refine fX7_7 (pc := 93) 61 rfl hR.s0 hR.r1 (by decide) dX7_readNumbers_93 ?_
            refine g_aload_n (pc := 96) 0 rfl rfl dX7_readNumbers_96 ?_
            refine fX7_76 (pc := 97) rfl hR.s0 dX7_readNumbers_97 ?_
            refine g_topi (pc := 100) (x' := nI (a + 1)) rfl ?_
            refine g_iaload (pc := 100) hR.s1 (by rw [hR.l1]; omega) (by rw [hR.l1]; omega) dX7_readNumbers_100 ?_
            refine g_topi (pc := 101) (x' := nI (M.1 61 (a + 1))) rfl ?_
            refine g_iload_n (pc := 101) 2 rfl rfl dX7_readNumbers_101 ?_
            refine g_iconst (pc := 102) (nI 1) (by decide) dX7_readNumbers_102 ?_
            refine g_iaddN (pc := 103) dX7_readNumbers_103 ?_
            refine g_iload_n (pc := 104) 1 rfl rfl dX7_readNumbers_104 ?_
            refine g_icmpN_ne (pc := 105) 113 dX7_readNumbers_105 (by decide) (by omega) (by omega) (fun h105 => ?_) (fun h105 => ?_)
            · refine g_bipush (pc := 113) (nI 44) (by decide) dX7_readNumbers_113 ?_
              refine g_icmpN_eq (pc := 115) 120 dX7_readNumbers_115 (by decide) (by omega) (by omega) (fun h115 => ?_) (fun h115 => ?_)
              · refine g_aload_n (pc := 120) 0 rfl rfl dX7_readNumbers_120 ?_
                refine g_dup (pc := 121) rfl dX7_readNumbers_121 ?_
                refine fX7_76 (pc := 122) rfl hR.s0 dX7_readNumbers_122 ?_
                refine g_topi (pc := 125) (x' := nI (a + 1)) rfl ?_
                refine g_iconst (pc := 125) (nI 1) (by decide) dX7_readNumbers_125 ?_
                refine g_iaddN (pc := 126) dX7_readNumbers_126 ?_
                refine uX7_76 (pc := 127) rfl hR.s0 dX7_readNumbers_127 ?_
                refine g_iincN (pc := 130) 1 2 [(0, .ref (gAd E 60)), (1, .int (nI n)), (2, .int (nI (k + 1))), (3, .int (nI ((M.1 61 a) - 48)))] rfl dX7_readNumbers_130 (by decide) rfl rfl ?_
                refine g_goto (pc := 133) 2 dX7_readNumbers_133 (by decide) ?_
                refine g_mm (pc := 2) (M' := mAt M (a + 1 + 1) (updN nf k ((M.1 61 a) - 48))) (mAt_a _ _ _ _) ?_
                refine g_pick (pc := 2) [0, 1, 2] [(0, .ref (gAd E 60)), (1, .int (nI n)), (2, .int (nI (k + 1)))] rfl ?_
                exact ihk (by omega) (a + 1 + 1) (updN nf k ((M.1 61 a) - 48)) (by omega) (by rw [hst, if_pos ⟨h89, by split <;> omega⟩])
              · refine g_iconst (pc := 118) (nI 0) (by decide) dX7_readNumbers_118 ?_
                refine g_topi (pc := 119) (x' := gb false) (by decide) ?_
                exact g_zret (pc := 119) rfl dX7_readNumbers_119 ⟨congrArg (fun z => some (Value.int (gb z))) (by rw [hst, if_neg (fun z => by have z2 := z.2; split at z2 <;> omega)]), by rw [hst, if_neg (fun z => by have z2 := z.2; split at z2 <;> omega)]⟩
            · refine g_bipush (pc := 108) (nI 59) (by decide) dX7_readNumbers_108 ?_
              refine g_goto (pc := 110) 115 dX7_readNumbers_110 (by decide) ?_
              refine g_icmpN_eq (pc := 115) 120 dX7_readNumbers_115 (by decide) (by omega) (by omega) (fun h115 => ?_) (fun h115 => ?_)
              · refine g_aload_n (pc := 120) 0 rfl rfl dX7_readNumbers_120 ?_
                refine g_dup (pc := 121) rfl dX7_readNumbers_121 ?_
                refine fX7_76 (pc := 122) rfl hR.s0 dX7_readNumbers_122 ?_
                refine g_topi (pc := 125) (x' := nI (a + 1)) rfl ?_
                refine g_iconst (pc := 125) (nI 1) (by decide) dX7_readNumbers_125 ?_
                refine g_iaddN (pc := 126) dX7_readNumbers_126 ?_
                refine uX7_76 (pc := 127) rfl hR.s0 dX7_readNumbers_127 ?_
                refine g_iincN (pc := 130) 1 2 [(0, .ref (gAd E 60)), (1, .int (nI n)), (2, .int (nI (k + 1))), (3, .int (nI ((M.1 61 a) - 48)))] rfl dX7_readNumbers_130 (by decide) rfl rfl ?_
                refine g_goto (pc := 133) 2 dX7_readNumbers_133 (by decide) ?_
                refine g_mm (pc := 2) (M' := mAt M (a + 1 + 1) (updN nf k ((M.1 61 a) - 48))) (mAt_a _ _ _ _) ?_
                refine g_pick (pc := 2) [0, 1, 2] [(0, .ref (gAd E 60)), (1, .int (nI n)), (2, .int (nI (k + 1)))] rfl ?_
                exact ihk (by omega) (a + 1 + 1) (updN nf k ((M.1 61 a) - 48)) (by omega) (by rw [hst, if_pos ⟨h89, by split <;> omega⟩])
              · refine g_iconst (pc := 118) (nI 0) (by decide) dX7_readNumbers_118 ?_
                refine g_topi (pc := 119) (x' := gb false) (by decide) ?_
                exact g_zret (pc := 119) rfl dX7_readNumbers_119 ⟨congrArg (fun z => some (Value.int (gb z))) (by rw [hst, if_neg (fun z => by have z2 := z.2; split at z2 <;> omega)]), by rw [hst, if_neg (fun z => by have z2 := z.2; split at z2 <;> omega)]⟩
        · have hd2 := of_decide_eq_true h43
          refine g_bipush (pc := 46) (nI 10) (by decide) dX7_readNumbers_46 ?_
          refine g_iload_n (pc := 48) 3 rfl rfl dX7_readNumbers_48 ?_
          refine g_imulN (pc := 49) dX7_readNumbers_49 ?_
          refine g_aload_n (pc := 50) 0 rfl rfl dX7_readNumbers_50 ?_
          refine fX7_7 (pc := 51) 61 rfl hR.s0 hR.r1 (by decide) dX7_readNumbers_51 ?_
          refine g_aload_n (pc := 54) 0 rfl rfl dX7_readNumbers_54 ?_
          refine fX7_76 (pc := 55) rfl hR.s0 dX7_readNumbers_55 ?_
          refine g_topi (pc := 58) (x' := nI (a + 1)) rfl ?_
          refine g_iaload (pc := 58) hR.s1 (by rw [hR.l1]; omega) (by rw [hR.l1]; omega) dX7_readNumbers_58 ?_
          refine g_topi (pc := 59) (x' := nI (M.1 61 (a + 1))) rfl ?_
          refine g_iaddN (pc := 59) dX7_readNumbers_59 ?_
          refine g_bipush (pc := 60) (nI 48) (by decide) dX7_readNumbers_60 ?_
          refine g_isubN (pc := 62) (by have := of_decide_eq_true h43; omega) dX7_readNumbers_62 ?_
          refine g_istore_n (pc := 63) rfl [(0, .ref (gAd E 60)), (1, .int (nI n)), (2, .int (nI k)), (3, .int (nI (((10 * ((M.1 61 a) - 48)) + (M.1 61 (a + 1))) - 48)))] dX7_readNumbers_63 (by decide) rfl rfl ?_
          refine g_aload_n (pc := 64) 0 rfl rfl dX7_readNumbers_64 ?_
          refine g_dup (pc := 65) rfl dX7_readNumbers_65 ?_
          refine fX7_76 (pc := 66) rfl hR.s0 dX7_readNumbers_66 ?_
          refine g_topi (pc := 69) (x' := nI (a + 1)) rfl ?_
          refine g_iconst (pc := 69) (nI 1) (by decide) dX7_readNumbers_69 ?_
          refine g_iaddN (pc := 70) dX7_readNumbers_70 ?_
          refine uX7_76 (pc := 71) rfl hR.s0 dX7_readNumbers_71 ?_
          refine g_mm (pc := 74) (M' := mAt M (a + 1 + 1) nf) (mAt_a _ _ _ _) ?_
          have hna : (mNa (M.1 61) (M.1 60 1) a) = a + 1 + 1 := by simp only [mNa]; rw [if_pos h43]
          have hnv : (mNv (M.1 61) (M.1 60 1) a) = 10 * (M.1 61 a - 48) + M.1 61 (a + 1) - 48 := by simp only [mNv]; rw [if_pos h43]; omega
          have hnl : a + 1 + 1 ≤ M.1 60 1 := by omega
          rw [hna, hnv] at hst
          refine g_aload_n (pc := 74) 0 rfl rfl dX7_readNumbers_74 ?_
          refine fX7_31 (pc := 75) 68 rfl hR.s0 hR.r8 (by decide) dX7_readNumbers_75 ?_
          refine g_iload_n (pc := 78) 2 rfl rfl dX7_readNumbers_78 ?_
          refine g_iload_n (pc := 79) 3 rfl rfl dX7_readNumbers_79 ?_
          refine g_iastore (pc := 80) hR.s8 (by rw [hR.l8]; omega) (by rw [hR.l8]; omega) dX7_readNumbers_80 ?_
          refine g_mm (pc := 81) (M' := mAt M (a + 1 + 1) (updN nf k (((10 * ((M.1 61 a) - 48)) + (M.1 61 (a + 1))) - 48))) (mAt_n _ _ _ _ _) ?_
          refine g_aload_n (pc := 81) 0 rfl rfl dX7_readNumbers_81 ?_
          refine fX7_76 (pc := 82) rfl hR.s0 dX7_readNumbers_82 ?_
          refine g_topi (pc := 85) (x' := nI (a + 1 + 1)) rfl ?_
          refine g_aload_n (pc := 85) 0 rfl rfl dX7_readNumbers_85 ?_
          refine fX7_79 (pc := 86) rfl hR.s0 dX7_readNumbers_86 ?_
          refine g_topi (pc := 89) (x' := nI (M.1 60 1)) rfl ?_
          refine g_icmpN_eq (pc := 89) 118 dX7_readNumbers_89 (by decide) (by omega) (by omega) (fun h89 => ?_) (fun h89 => ?_)
          · refine g_iconst (pc := 118) (nI 0) (by decide) dX7_readNumbers_118 ?_
            refine g_topi (pc := 119) (x' := gb false) (by decide) ?_
            exact g_zret (pc := 119) rfl dX7_readNumbers_119 ⟨congrArg (fun z => some (Value.int (gb z))) (by rw [hst, if_neg (fun z => z.1 h89)]), by rw [hst, if_neg (fun z => z.1 h89)]⟩
          · have htn := hT (a + 1 + 1) (by omega)
            refine g_aload_n (pc := 92) 0 rfl rfl dX7_readNumbers_92 ?_
            refine fX7_7 (pc := 93) 61 rfl hR.s0 hR.r1 (by decide) dX7_readNumbers_93 ?_
            refine g_aload_n (pc := 96) 0 rfl rfl dX7_readNumbers_96 ?_
            refine fX7_76 (pc := 97) rfl hR.s0 dX7_readNumbers_97 ?_
            refine g_topi (pc := 100) (x' := nI (a + 1 + 1)) rfl ?_
            refine g_iaload (pc := 100) hR.s1 (by rw [hR.l1]; omega) (by rw [hR.l1]; omega) dX7_readNumbers_100 ?_
            refine g_topi (pc := 101) (x' := nI (M.1 61 (a + 1 + 1))) rfl ?_
            refine g_iload_n (pc := 101) 2 rfl rfl dX7_readNumbers_101 ?_
            refine g_iconst (pc := 102) (nI 1) (by decide) dX7_readNumbers_102 ?_
            refine g_iaddN (pc := 103) dX7_readNumbers_103 ?_
            refine g_iload_n (pc := 104) 1 rfl rfl dX7_readNumbers_104 ?_
            refine g_icmpN_ne (pc := 105) 113 dX7_readNumbers_105 (by decide) (by omega) (by omega) (fun h105 => ?_) (fun h105 => ?_)
            · refine g_bipush (pc := 113) (nI 44) (by decide) dX7_readNumbers_113 ?_
              refine g_icmpN_eq (pc := 115) 120 dX7_readNumbers_115 (by decide) (by omega) (by omega) (fun h115 => ?_) (fun h115 => ?_)
              · refine g_aload_n (pc := 120) 0 rfl rfl dX7_readNumbers_120 ?_
                refine g_dup (pc := 121) rfl dX7_readNumbers_121 ?_
                refine fX7_76 (pc := 122) rfl hR.s0 dX7_readNumbers_122 ?_
                refine g_topi (pc := 125) (x' := nI (a + 1 + 1)) rfl ?_
                refine g_iconst (pc := 125) (nI 1) (by decide) dX7_readNumbers_125 ?_
                refine g_iaddN (pc := 126) dX7_readNumbers_126 ?_
                refine uX7_76 (pc := 127) rfl hR.s0 dX7_readNumbers_127 ?_
                refine g_iincN (pc := 130) 1 2 [(0, .ref (gAd E 60)), (1, .int (nI n)), (2, .int (nI (k + 1))), (3, .int (nI (((10 * ((M.1 61 a) - 48)) + (M.1 61 (a + 1))) - 48)))] rfl dX7_readNumbers_130 (by decide) rfl rfl ?_
                refine g_goto (pc := 133) 2 dX7_readNumbers_133 (by decide) ?_
                refine g_mm (pc := 2) (M' := mAt M (a + 1 + 1 + 1) (updN nf k (((10 * ((M.1 61 a) - 48)) + (M.1 61 (a + 1))) - 48))) (mAt_a _ _ _ _) ?_
                refine g_pick (pc := 2) [0, 1, 2] [(0, .ref (gAd E 60)), (1, .int (nI n)), (2, .int (nI (k + 1)))] rfl ?_
                exact ihk (by omega) (a + 1 + 1 + 1) (updN nf k (((10 * ((M.1 61 a) - 48)) + (M.1 61 (a + 1))) - 48)) (by omega) (by rw [hst, if_pos ⟨h89, by split <;> omega⟩])
              · refine g_iconst (pc := 118) (nI 0) (by decide) dX7_readNumbers_118 ?_
                refine g_topi (pc := 119) (x' := gb false) (by decide) ?_
                exact g_zret (pc := 119) rfl dX7_readNumbers_119 ⟨congrArg (fun z => some (Value.int (gb z))) (by rw [hst, if_neg (fun z => by have z2 := z.2; split at z2 <;> omega)]), by rw [hst, if_neg (fun z => by have z2 := z.2; split at z2 <;> omega)]⟩
            · refine g_bipush (pc := 108) (nI 59) (by decide) dX7_readNumbers_108 ?_
              refine g_goto (pc := 110) 115 dX7_readNumbers_110 (by decide) ?_
              refine g_icmpN_eq (pc := 115) 120 dX7_readNumbers_115 (by decide) (by omega) (by omega) (fun h115 => ?_) (fun h115 => ?_)
              · refine g_aload_n (pc := 120) 0 rfl rfl dX7_readNumbers_120 ?_
                refine g_dup (pc := 121) rfl dX7_readNumbers_121 ?_
                refine fX7_76 (pc := 122) rfl hR.s0 dX7_readNumbers_122 ?_
                refine g_topi (pc := 125) (x' := nI (a + 1 + 1)) rfl ?_
                refine g_iconst (pc := 125) (nI 1) (by decide) dX7_readNumbers_125 ?_
                refine g_iaddN (pc := 126) dX7_readNumbers_126 ?_
                refine uX7_76 (pc := 127) rfl hR.s0 dX7_readNumbers_127 ?_
                refine g_iincN (pc := 130) 1 2 [(0, .ref (gAd E 60)), (1, .int (nI n)), (2, .int (nI (k + 1))), (3, .int (nI (((10 * ((M.1 61 a) - 48)) + (M.1 61 (a + 1))) - 48)))] rfl dX7_readNumbers_130 (by decide) rfl rfl ?_
                refine g_goto (pc := 133) 2 dX7_readNumbers_133 (by decide) ?_
                refine g_mm (pc := 2) (M' := mAt M (a + 1 + 1 + 1) (updN nf k (((10 * ((M.1 61 a) - 48)) + (M.1 61 (a + 1))) - 48))) (mAt_a _ _ _ _) ?_
                refine g_pick (pc := 2) [0, 1, 2] [(0, .ref (gAd E 60)), (1, .int (nI n)), (2, .int (nI (k + 1)))] rfl ?_
                exact ihk (by omega) (a + 1 + 1 + 1) (updN nf k (((10 * ((M.1 61 a) - 48)) + (M.1 61 (a + 1))) - 48)) (by omega) (by rw [hst, if_pos ⟨h89, by split <;> omega⟩])
              · refine g_iconst (pc := 118) (nI 0) (by decide) dX7_readNumbers_118 ?_
                refine g_topi (pc := 119) (x' := gb false) (by decide) ?_
                exact g_zret (pc := 119) rfl dX7_readNumbers_119 ⟨congrArg (fun z => some (Value.int (gb z))) (by rw [hst, if_neg (fun z => by have z2 := z.2; split at z2 <;> omega)]), by rw [hst, if_neg (fun z => by have z2 := z.2; split at z2 <;> omega)]⟩
      · refine g_iconst (pc := 14) (nI 0) (by decide) dX7_readNumbers_14 ?_
        refine g_topi (pc := 15) (x' := gb false) (by decide) ?_
        exact g_zret (pc := 15) rfl dX7_readNumbers_15 ⟨congrArg (fun z => some (Value.int (gb z))) (by rw [he, show n - k = (n - (k + 1)) + 1 by omega]; simp only [mN]; rw [if_neg (by rw [h11]; decide)]), by rw [he, show n - k = (n - (k + 1)) + 1 by omega]; simp only [mN]; rw [if_neg (by rw [h11]; decide)]⟩
  refine g_mm (pc := 2) (M' := mAt M (M.1 60 2) (M.1 68)) (mAt_me M).symm ?_
  exact lp2 0 (by omega) _ _ ha0 rfl
