set_option maxRecDepth 100000 in
set_option maxHeartbeats 4000000 in
theorem kX7_note_6 (l : Launch) (E : gEnv) (M : gMem) (hR : mR E M) (hz : M.1 60 17 = 6) : gMetU l E mX7_note 0 [.ref (gAd E 60)] M (mNt M) := by
  refine gMet_of (mm := mX7_note) (h := 0) (M := M) [(0, .ref (gAd E 60))] (by decide) (Nat.le_of_ble_eq_true rfl) rfl ?_
  refine g_aload_n (pc := 0) 0 rfl rfl dX7_note_0 ?_
  refine fX7_73 (pc := 1) rfl hR.s0 dX7_note_1 ?_
  refine g_bipush (pc := 4) (nI 6) (by decide) dX7_note_4 ?_
  refine g_icmpN_ne (pc := 6) 48 dX7_note_6 (by decide) (by omega) (by omega) (fun h6 => absurd h6 (by omega)) (fun h6 => ?_)
  refine g_iconst (pc := 9) (nI 0) (by decide) dX7_note_9 ?_
  refine g_istore_n (pc := 10) rfl [(0, .ref (gAd E 60)), (1, .int (nI 0))] dX7_note_10 (by decide) rfl rfl ?_
  have lp11 : ∀ k, k ≤ 55 → gG l (gV0 0 E (fun v u => v = none ∧ u = (mNt M))) mX7_note E (0, 0) (gRow M 67 (nShf (M.1 67) k)) 11 [(0, .ref (gAd E 60)), (1, .int (nI k))] [] := by
    refine gloop (fun k hik ihk => ?_)
    refine g_iload_n (pc := 11) 1 rfl rfl dX7_note_11 ?_
    refine g_bipush (pc := 12) (nI 55) (by decide) dX7_note_12 ?_
    refine g_icmpN_ge (pc := 14) 38 dX7_note_14 (by decide) (by omega) (by omega) (fun h14 => ?_) (fun h14 => ?_)
    · refine g_mm (pc := 38) (M' := gRow M 67 (nShf (M.1 67) 55)) (by rw [show k = 55 by omega]) ?_
      refine g_aload_n (pc := 38) 0 rfl rfl dX7_note_38 ?_
      refine g_dup (pc := 39) rfl dX7_note_39 ?_
      refine fX7_73 (pc := 40) rfl hR.s0 dX7_note_40 ?_
      refine g_topi (pc := 43) (x' := nI (M.1 60 17)) (by simp [gRow, gU]) ?_
      refine g_topi (pc := 43) (x' := nI 6) (by rw [hz]) ?_
      refine g_iconst (pc := 43) (nI 1) (by decide) dX7_note_43 ?_
      refine g_isubN (pc := 44) (by omega) dX7_note_44 ?_
      refine uX7_73 (pc := 45) rfl hR.s0 dX7_note_45 ?_
      refine g_mm (pc := 48) (M' := gRow (gU M 60 17 5) 67 (nShf (M.1 67) 55)) (gRow_sw (by decide)) ?_
      refine g_iconst (pc := 48) (nI 0) (by decide) dX7_note_48 ?_
      refine g_istore_n (pc := 49) rfl [(0, .ref (gAd E 60)), (1, .int (nI 0))] dX7_note_49 (by decide) rfl rfl ?_
      have lp50 : ∀ k, k ≤ 11 → gG l (gV0 0 E (fun v u => v = none ∧ u = (mNt M))) mX7_note E (0, 0) (gRow (gU M 60 17 5) 67 (nCpy (nShf (M.1 67) 55) (M.1 66) 5 k)) 50 [(0, .ref (gAd E 60)), (1, .int (nI k))] [] := by
        refine gloop (fun k hik ihk => ?_)
        refine g_iload_n (pc := 50) 1 rfl rfl dX7_note_50 ?_
        refine g_bipush (pc := 51) (nI 11) (by decide) dX7_note_51 ?_
        refine g_icmpN_ge (pc := 53) 82 dX7_note_53 (by decide) (by omega) (by omega) (fun h53 => ?_) (fun h53 => ?_)
        · refine g_aload_n (pc := 82) 0 rfl rfl dX7_note_82 ?_
          refine g_dup (pc := 83) rfl dX7_note_83 ?_
          refine fX7_73 (pc := 84) rfl hR.s0 dX7_note_84 ?_
          refine g_topi (pc := 87) (x' := nI 5) (by simp [gRow, gU]) ?_
          refine g_iconst (pc := 87) (nI 1) (by decide) dX7_note_87 ?_
          refine g_iaddN (pc := 88) dX7_note_88 ?_
          refine uX7_73 (pc := 89) rfl hR.s0 dX7_note_89 ?_
          exact g_vret (pc := 92) rfl dX7_note_92 ⟨rfl, by rw [mNt, if_pos hz, show k = 11 by omega]⟩
        · refine g_aload_n (pc := 56) 0 rfl rfl dX7_note_56 ?_
          refine fX7_28 (pc := 57) 67 rfl hR.s0 hR.r7 (by decide) dX7_note_57 ?_
          refine g_bipush (pc := 60) (nI 11) (by decide) dX7_note_60 ?_
          refine g_aload_n (pc := 62) 0 rfl rfl dX7_note_62 ?_
          refine fX7_73 (pc := 63) rfl hR.s0 dX7_note_63 ?_
          refine g_topi (pc := 66) (x' := nI 5) (by simp [gRow, gU]) ?_
          refine g_imulN (pc := 66) dX7_note_66 ?_
          refine g_iload_n (pc := 67) 1 rfl rfl dX7_note_67 ?_
          refine g_iaddN (pc := 68) dX7_note_68 ?_
          refine g_aload_n (pc := 69) 0 rfl rfl dX7_note_69 ?_
          refine fX7_25 (pc := 70) 66 rfl hR.s0 hR.r6 (by decide) dX7_note_70 ?_
          refine g_iload_n (pc := 73) 1 rfl rfl dX7_note_73 ?_
          refine g_iaload (pc := 74) hR.s6 (by rw [hR.l6]; omega) (by rw [hR.l6]; omega) dX7_note_74 ?_
          refine g_topi (pc := 75) (x' := nI (M.1 66 k)) (by simp [gRow, gU]) ?_
          refine g_iastore (pc := 75) hR.s7 (by rw [hR.l7]; omega) (by rw [hR.l7]; omega) dX7_note_75 ?_
          refine g_iincN (pc := 76) 1 1 [(0, .ref (gAd E 60)), (1, .int (nI (k + 1)))] rfl dX7_note_76 (by decide) rfl rfl ?_
          refine g_goto (pc := 79) 50 dX7_note_79 (by decide) ?_
          refine g_mm (pc := 50) (M' := gRow (gU M 60 17 5) 67 (nCpy (nShf (M.1 67) 55) (M.1 66) 5 (k + 1))) (by rw [gRow_U, nCpy_s]) ?_
          exact ihk (by omega)
      refine g_mm (pc := 50) (M' := gRow (gU M 60 17 5) 67 (nCpy (nShf (M.1 67) 55) (M.1 66) 5 0)) (by rw [nCpy_0]) ?_
      exact lp50 0 (by omega)
    · refine g_aload_n (pc := 17) 0 rfl rfl dX7_note_17 ?_
      refine fX7_28 (pc := 18) 67 rfl hR.s0 hR.r7 (by decide) dX7_note_18 ?_
      refine g_iload_n (pc := 21) 1 rfl rfl dX7_note_21 ?_
      refine g_aload_n (pc := 22) 0 rfl rfl dX7_note_22 ?_
      refine fX7_28 (pc := 23) 67 rfl hR.s0 hR.r7 (by decide) dX7_note_23 ?_
      refine g_iload_n (pc := 26) 1 rfl rfl dX7_note_26 ?_
      refine g_bipush (pc := 27) (nI 11) (by decide) dX7_note_27 ?_
      refine g_iaddN (pc := 29) dX7_note_29 ?_
      refine g_iaload (pc := 30) hR.s7 (by rw [hR.l7]; omega) (by rw [hR.l7]; omega) dX7_note_30 ?_
      refine g_topi (pc := 31) (x' := nI ((nShf (M.1 67) k) (k + 11))) (by simp [gRow, gU]) ?_
      refine g_topi (pc := 31) (x' := nI (M.1 67 (k + 11))) (by simp only [nShf]; rw [if_neg (by omega)]) ?_
      refine g_iastore (pc := 31) hR.s7 (by rw [hR.l7]; omega) (by rw [hR.l7]; omega) dX7_note_31 ?_
      refine g_iincN (pc := 32) 1 1 [(0, .ref (gAd E 60)), (1, .int (nI (k + 1)))] rfl dX7_note_32 (by decide) rfl rfl ?_
      refine g_goto (pc := 35) 11 dX7_note_35 (by decide) ?_
      refine g_mm (pc := 11) (M' := gRow M 67 (nShf (M.1 67) (k + 1))) (by rw [gRow_U, nShf_s]) ?_
      exact ihk (by omega)
  refine g_mm (pc := 11) (M' := gRow M 67 (nShf (M.1 67) 0)) (by rw [nShf_0, gRow_me]) ?_
  exact lp11 0 (by omega)
set_option maxRecDepth 100000 in
set_option maxHeartbeats 4000000 in
theorem kX7_note_lt (l : Launch) (E : gEnv) (M : gMem) (hR : mR E M) (hz : M.1 60 17 < 6) : gMetU l E mX7_note 0 [.ref (gAd E 60)] M (mNt M) := by
  refine gMet_of (mm := mX7_note) (h := 0) (M := M) [(0, .ref (gAd E 60))] (by decide) (Nat.le_of_ble_eq_true rfl) rfl ?_
  refine g_aload_n (pc := 0) 0 rfl rfl dX7_note_0 ?_
  refine fX7_73 (pc := 1) rfl hR.s0 dX7_note_1 ?_
  refine g_bipush (pc := 4) (nI 6) (by decide) dX7_note_4 ?_
  refine g_icmpN_ne (pc := 6) 48 dX7_note_6 (by decide) (by omega) (by omega) (fun h6 => ?_) (fun h6 => absurd h6 (by omega))
  refine g_iconst (pc := 48) (nI 0) (by decide) dX7_note_48 ?_
  refine g_istore_n (pc := 49) rfl [(0, .ref (gAd E 60)), (1, .int (nI 0))] dX7_note_49 (by decide) rfl rfl ?_
  have lp50 : ∀ k, k ≤ 11 → gG l (gV0 0 E (fun v u => v = none ∧ u = (mNt M))) mX7_note E (0, 0) (gRow M 67 (nCpy (M.1 67) (M.1 66) (M.1 60 17) k)) 50 [(0, .ref (gAd E 60)), (1, .int (nI k))] [] := by
    refine gloop (fun k hik ihk => ?_)
    refine g_iload_n (pc := 50) 1 rfl rfl dX7_note_50 ?_
    refine g_bipush (pc := 51) (nI 11) (by decide) dX7_note_51 ?_
    refine g_icmpN_ge (pc := 53) 82 dX7_note_53 (by decide) (by omega) (by omega) (fun h53 => ?_) (fun h53 => ?_)
    · refine g_aload_n (pc := 82) 0 rfl rfl dX7_note_82 ?_
      refine g_dup (pc := 83) rfl dX7_note_83 ?_
      refine fX7_73 (pc := 84) rfl hR.s0 dX7_note_84 ?_
      refine g_topi (pc := 87) (x' := nI (M.1 60 17)) (by simp [gRow, gU]) ?_
      refine g_iconst (pc := 87) (nI 1) (by decide) dX7_note_87 ?_
      refine g_iaddN (pc := 88) dX7_note_88 ?_
      refine uX7_73 (pc := 89) rfl hR.s0 dX7_note_89 ?_
      exact g_vret (pc := 92) rfl dX7_note_92 ⟨rfl, by rw [mNt, if_neg (by omega), show k = 11 by omega]⟩
    · refine g_aload_n (pc := 56) 0 rfl rfl dX7_note_56 ?_
      refine fX7_28 (pc := 57) 67 rfl hR.s0 hR.r7 (by decide) dX7_note_57 ?_
      refine g_bipush (pc := 60) (nI 11) (by decide) dX7_note_60 ?_
      refine g_aload_n (pc := 62) 0 rfl rfl dX7_note_62 ?_
      refine fX7_73 (pc := 63) rfl hR.s0 dX7_note_63 ?_
      refine g_topi (pc := 66) (x' := nI (M.1 60 17)) (by simp [gRow, gU]) ?_
      refine g_imulN (pc := 66) dX7_note_66 ?_
      refine g_iload_n (pc := 67) 1 rfl rfl dX7_note_67 ?_
      refine g_iaddN (pc := 68) dX7_note_68 ?_
      refine g_aload_n (pc := 69) 0 rfl rfl dX7_note_69 ?_
      refine fX7_25 (pc := 70) 66 rfl hR.s0 hR.r6 (by decide) dX7_note_70 ?_
      refine g_iload_n (pc := 73) 1 rfl rfl dX7_note_73 ?_
      refine g_iaload (pc := 74) hR.s6 (by rw [hR.l6]; omega) (by rw [hR.l6]; omega) dX7_note_74 ?_
      refine g_topi (pc := 75) (x' := nI (M.1 66 k)) (by simp [gRow, gU]) ?_
      refine g_iastore (pc := 75) hR.s7 (by rw [hR.l7]; omega) (by rw [hR.l7]; omega) dX7_note_75 ?_
      refine g_iincN (pc := 76) 1 1 [(0, .ref (gAd E 60)), (1, .int (nI (k + 1)))] rfl dX7_note_76 (by decide) rfl rfl ?_
      refine g_goto (pc := 79) 50 dX7_note_79 (by decide) ?_
      refine g_mm (pc := 50) (M' := gRow M 67 (nCpy (M.1 67) (M.1 66) (M.1 60 17) (k + 1))) (by rw [gRow_U, nCpy_s]) ?_
      exact ihk (by omega)
  refine g_mm (pc := 50) (M' := gRow M 67 (nCpy (M.1 67) (M.1 66) (M.1 60 17) 0)) (by rw [nCpy_0, gRow_me]) ?_
  exact lp50 0 (by omega)
theorem kX7_note (l : Launch) (E : gEnv) (M : gMem) (hR : mR E M) (hz : M.1 60 17 ≤ 6) : gMetU l E mX7_note 0 [.ref (gAd E 60)] M (mNt M) := by
  by_cases h : M.1 60 17 = 6
  · exact kX7_note_6 l E M hR h
  · exact kX7_note_lt l E M hR (by omega)
theorem mNt_o66 {M : gMem} (k : Nat) : nI ((mNt M).1 66 k) = nI (M.1 66 k) := by rw [mNt_o (by decide) (by simp)]
set_option maxRecDepth 100000 in
set_option maxHeartbeats 4000000 in
theorem kX7_sign_bad (l : Launch) (E : gEnv) (M : gMem) (hR : mR E M) (hO : mO M) (hsg : M.1 66 10 < 1024) (x : Int32) (hx : inR x (M.1 60 11) = false) : gMetI l E mX7_sign 5 [.ref (gAd E 60), .int x] M (-1) := by
  have hO' := hO
  obtain ⟨hn, hk, hft, hto, hU, hH⟩ := hO
  have hO := hO'
  refine gMet_of (mm := mX7_sign) (h := 5) (M := M) [(0, .ref (gAd E 60)), (1, .int x)] (by decide) (Nat.le_of_ble_eq_true rfl) rfl ?_
  refine g_aload_n (pc := 0) 0 rfl rfl dX7_sign_0 ?_
  refine g_iload_n (pc := 1) 1 rfl rfl dX7_sign_1 ?_
  refine g_callV (pc := 2) (mc := mX7_isOffer) (rest := []) lX7_141 iX7_isOffer (kX7_isOffer l E M hR hO hsg (x)) ⟨Nat.le_of_ble_eq_true rfl, Nat.le_of_ble_eq_true rfl⟩ hR.s0 (by decide) (by decide) rfl rfl rfl rfl (Nat.le_of_ble_eq_true rfl) ⟨Nat.zero_le _, Nat.zero_le _⟩ dX7_sign_2 (g_rI ?_)
  refine g_ifB_ne (pc := 5) 10 dX7_sign_5 (by decide) (fun h5 => absurd h5 (by rw [hx]; decide)) (fun h5 => ?_)
  refine g_iconst (pc := 8) ((-1)) (by decide) dX7_sign_8 ?_
  exact g_iret (pc := 9) rfl dX7_sign_9 ⟨rfl, rfl⟩
set_option maxRecDepth 100000 in
set_option maxHeartbeats 4000000 in
theorem kX7_sign_no (l : Launch) (E : gEnv) (M : gMem) (hR : mR E M) (hO : mO M) (hsg : M.1 66 10 < 1024) (j : Nat) (hj : j < M.1 60 11) (hw : sWhy (mV M) (M.1 60 11) (mH M) (M.1 60 12) (M.1 60 13) (M.1 60 14) (M.1 66 10) j ≠ 0) : gMetI l E mX7_sign 5 [.ref (gAd E 60), .int (nI j)] M (-2) := by
  have hO' := hO
  obtain ⟨hn, hk, hft, hto, hU, hH⟩ := hO
  have hO := hO'
  have hx : inR (nI j) (M.1 60 11) = true := by rw [inR_nI (by omega)]; exact decide_eq_true hj
  refine gMet_of (mm := mX7_sign) (h := 5) (M := M) [(0, .ref (gAd E 60)), (1, .int (nI j))] (by decide) (Nat.le_of_ble_eq_true rfl) rfl ?_
  refine g_aload_n (pc := 0) 0 rfl rfl dX7_sign_0 ?_
  refine g_iload_n (pc := 1) 1 rfl rfl dX7_sign_1 ?_
  refine g_callV (pc := 2) (mc := mX7_isOffer) (rest := []) lX7_141 iX7_isOffer (kX7_isOffer l E M hR hO hsg (nI j)) ⟨Nat.le_of_ble_eq_true rfl, Nat.le_of_ble_eq_true rfl⟩ hR.s0 (by decide) (by decide) rfl rfl rfl rfl (Nat.le_of_ble_eq_true rfl) ⟨Nat.zero_le _, Nat.zero_le _⟩ dX7_sign_2 (g_rI ?_)
  refine g_ifB_ne (pc := 5) 10 dX7_sign_5 (by decide) (fun h5 => ?_) (fun h5 => absurd h5 (by rw [hx]; decide))
  refine g_aload_n (pc := 10) 0 rfl rfl dX7_sign_10 ?_
  refine g_iload_n (pc := 11) 1 rfl rfl dX7_sign_11 ?_
  refine g_callV (pc := 12) (mc := mX7_whyOf) (rest := []) lX7_144 iX7_whyOf (kX7_whyOf l E M hR hO hsg j (by omega)) ⟨Nat.le_of_ble_eq_true rfl, Nat.le_of_ble_eq_true rfl⟩ hR.s0 (by decide) (by decide) rfl rfl rfl rfl (Nat.le_of_ble_eq_true rfl) ⟨Nat.zero_le _, Nat.zero_le _⟩ dX7_sign_12 (g_rI ?_)
  refine g_ifN_eq (pc := 15) 21 dX7_sign_15 (by decide) (Nat.lt_of_le_of_lt sWhy_le (by decide)) (fun h15 => absurd h15 (by omega)) (fun h15 => ?_)
  refine g_bipush (pc := 18) ((-2)) (by decide) dX7_sign_18 ?_
  exact g_iret (pc := 20) rfl dX7_sign_20 ⟨rfl, rfl⟩
set_option maxRecDepth 100000 in
set_option maxHeartbeats 4000000 in
theorem kX7_sign_ok (l : Launch) (E : gEnv) (M : gMem) (hR : mR E M) (hO : mO M) (hsg : M.1 66 10 < 1024) (hz : M.1 60 17 ≤ 6) (j : Nat) (hj : j < M.1 60 11) (hw : sWhy (mV M) (M.1 60 11) (mH M) (M.1 60 12) (M.1 60 13) (M.1 60 14) (M.1 66 10) j = 0) : gMet l E mX7_sign 5 [.ref (gAd E 60), .int (nI j)] M (fun v u => v = some (.int (nI (sOnes (M.1 66 10 ||| 2 ^ j)))) ∧ u = gU (mNt M) 66 10 (M.1 66 10 ||| 2 ^ j)) := by
  have hO' := hO
  obtain ⟨hn, hk, hft, hto, hU, hH⟩ := hO
  have hO := hO'
  have hx : inR (nI j) (M.1 60 11) = true := by rw [inR_nI (by omega)]; exact decide_eq_true hj
  refine gMet_of (mm := mX7_sign) (h := 5) (M := M) [(0, .ref (gAd E 60)), (1, .int (nI j))] (by decide) (Nat.le_of_ble_eq_true rfl) rfl ?_
  refine g_aload_n (pc := 0) 0 rfl rfl dX7_sign_0 ?_
  refine g_iload_n (pc := 1) 1 rfl rfl dX7_sign_1 ?_
  refine g_callV (pc := 2) (mc := mX7_isOffer) (rest := []) lX7_141 iX7_isOffer (kX7_isOffer l E M hR hO hsg (nI j)) ⟨Nat.le_of_ble_eq_true rfl, Nat.le_of_ble_eq_true rfl⟩ hR.s0 (by decide) (by decide) rfl rfl rfl rfl (Nat.le_of_ble_eq_true rfl) ⟨Nat.zero_le _, Nat.zero_le _⟩ dX7_sign_2 (g_rI ?_)
  refine g_ifB_ne (pc := 5) 10 dX7_sign_5 (by decide) (fun h5 => ?_) (fun h5 => absurd h5 (by rw [hx]; decide))
  refine g_aload_n (pc := 10) 0 rfl rfl dX7_sign_10 ?_
  refine g_iload_n (pc := 11) 1 rfl rfl dX7_sign_11 ?_
  refine g_callV (pc := 12) (mc := mX7_whyOf) (rest := []) lX7_144 iX7_whyOf (kX7_whyOf l E M hR hO hsg j (by omega)) ⟨Nat.le_of_ble_eq_true rfl, Nat.le_of_ble_eq_true rfl⟩ hR.s0 (by decide) (by decide) rfl rfl rfl rfl (Nat.le_of_ble_eq_true rfl) ⟨Nat.zero_le _, Nat.zero_le _⟩ dX7_sign_12 (g_rI ?_)
  refine g_ifN_eq (pc := 15) 21 dX7_sign_15 (by decide) (Nat.lt_of_le_of_lt sWhy_le (by decide)) (fun h15 => ?_) (fun h15 => absurd h15 (by omega))
  refine g_aload_n (pc := 21) 0 rfl rfl dX7_sign_21 ?_
  refine g_callV (pc := 22) (mc := mX7_note) (rest := []) lX7_147 iX7_note (kX7_note l E M hR hz) ⟨Nat.le_of_ble_eq_true rfl, Nat.le_of_ble_eq_true rfl⟩ hR.s0 (by decide) (by decide) rfl rfl rfl rfl (Nat.le_of_ble_eq_true rfl) ⟨Nat.zero_le _, Nat.zero_le _⟩ dX7_sign_22 (g_rU ?_)
  refine g_aload_n (pc := 25) 0 rfl rfl dX7_sign_25 ?_
  refine fX7_25 (pc := 26) 66 rfl hR.s0 (mR_2 hR mNt_2).r6 (by decide) dX7_sign_26 ?_
  refine g_bipush (pc := 29) (nI 10) (by decide) dX7_sign_29 ?_
  refine g_dup2 (pc := 31) rfl rfl dX7_sign_31 ?_
  refine g_iaload (pc := 32) hR.s6 (by rw [hR.l6]; omega) (by rw [hR.l6]; omega) dX7_sign_32 ?_
  refine g_topi (pc := 33) (x' := nI (M.1 66 10)) (mNt_o66 10) ?_
  refine g_iconst (pc := 33) (nI 1) (by decide) dX7_sign_33 ?_
  refine g_iload_n (pc := 34) 1 rfl rfl dX7_sign_34 ?_
  refine g_ishl1 (pc := 35) (by omega) dX7_sign_35 ?_
  refine g_iorN (pc := 36) dX7_sign_36 ?_
  refine g_iastore (pc := 37) hR.s6 (by rw [hR.l6]; omega) (by rw [hR.l6]; omega) dX7_sign_37 ?_
  refine g_aload_n (pc := 38) 0 rfl rfl dX7_sign_38 ?_
  refine fX7_25 (pc := 39) 66 rfl hR.s0 (mR_2 hR mNt_2).r6 (by decide) dX7_sign_39 ?_
  refine g_bipush (pc := 42) (nI 10) (by decide) dX7_sign_42 ?_
  refine g_iaload (pc := 44) hR.s6 (by rw [hR.l6]; omega) (by rw [hR.l6]; omega) dX7_sign_44 ?_
  refine g_topi (pc := 45) (x' := nI ((M.1 66 10) ||| (2 ^ j))) (by simp [gU]) ?_
  refine g_callS (pc := 45) (mc := mX7_ones) (rest := []) lX7_111 iX7_ones (kX7_ones l E (gU (mNt M) 66 10 ((M.1 66 10) ||| (2 ^ j))) ((M.1 66 10) ||| (2 ^ j)) (by have := Nat.or_lt_two_pow (n := 10) hsg (show 2 ^ j < 2 ^ 10 from Nat.pow_lt_pow_right (by decide) (by omega)); omega)) ⟨Nat.le_of_ble_eq_true rfl, Nat.le_of_ble_eq_true rfl⟩ rfl rfl (Nat.le_of_ble_eq_true rfl) ⟨Nat.zero_le _, Nat.zero_le _⟩ dX7_sign_45 (g_rI ?_)
  exact g_iret (pc := 48) rfl dX7_sign_48 ⟨rfl, rfl⟩
set_option maxRecDepth 100000 in
set_option maxHeartbeats 4000000 in
theorem kX7_drop_bad (l : Launch) (E : gEnv) (M : gMem) (hR : mR E M) (hO : mO M) (hsg : M.1 66 10 < 1024) (x : Int32) (hx : inR x (M.1 60 11) = false) : gMetI l E mX7_drop 5 [.ref (gAd E 60), .int x] M (-1) := by
  have hO' := hO
  obtain ⟨hn, hk, hft, hto, hU, hH⟩ := hO
  have hO := hO'
  refine gMet_of (mm := mX7_drop) (h := 5) (M := M) [(0, .ref (gAd E 60)), (1, .int x)] (by decide) (Nat.le_of_ble_eq_true rfl) rfl ?_
  refine g_aload_n (pc := 0) 0 rfl rfl dX7_drop_0 ?_
  refine g_iload_n (pc := 1) 1 rfl rfl dX7_drop_1 ?_
  refine g_callV (pc := 2) (mc := mX7_isOffer) (rest := []) lX7_141 iX7_isOffer (kX7_isOffer l E M hR hO hsg (x)) ⟨Nat.le_of_ble_eq_true rfl, Nat.le_of_ble_eq_true rfl⟩ hR.s0 (by decide) (by decide) rfl rfl rfl rfl (Nat.le_of_ble_eq_true rfl) ⟨Nat.zero_le _, Nat.zero_le _⟩ dX7_drop_2 (g_rI ?_)
  refine g_ifB_ne (pc := 5) 10 dX7_drop_5 (by decide) (fun h5 => absurd h5 (by rw [hx]; decide)) (fun h5 => ?_)
  refine g_iconst (pc := 8) ((-1)) (by decide) dX7_drop_8 ?_
  exact g_iret (pc := 9) rfl dX7_drop_9 ⟨rfl, rfl⟩
set_option maxRecDepth 100000 in
set_option maxHeartbeats 4000000 in
theorem kX7_drop_no (l : Launch) (E : gEnv) (M : gMem) (hR : mR E M) (hO : mO M) (hsg : M.1 66 10 < 1024) (j : Nat) (hj : j < M.1 60 11) (hb : (M.1 66 10).testBit j = false) : gMetI l E mX7_drop 5 [.ref (gAd E 60), .int (nI j)] M (-2) := by
  have hO' := hO
  obtain ⟨hn, hk, hft, hto, hU, hH⟩ := hO
  have hO := hO'
  have hx : inR (nI j) (M.1 60 11) = true := by rw [inR_nI (by omega)]; exact decide_eq_true hj
  refine gMet_of (mm := mX7_drop) (h := 5) (M := M) [(0, .ref (gAd E 60)), (1, .int (nI j))] (by decide) (Nat.le_of_ble_eq_true rfl) rfl ?_
  refine g_aload_n (pc := 0) 0 rfl rfl dX7_drop_0 ?_
  refine g_iload_n (pc := 1) 1 rfl rfl dX7_drop_1 ?_
  refine g_callV (pc := 2) (mc := mX7_isOffer) (rest := []) lX7_141 iX7_isOffer (kX7_isOffer l E M hR hO hsg (nI j)) ⟨Nat.le_of_ble_eq_true rfl, Nat.le_of_ble_eq_true rfl⟩ hR.s0 (by decide) (by decide) rfl rfl rfl rfl (Nat.le_of_ble_eq_true rfl) ⟨Nat.zero_le _, Nat.zero_le _⟩ dX7_drop_2 (g_rI ?_)
  refine g_ifB_ne (pc := 5) 10 dX7_drop_5 (by decide) (fun h5 => ?_) (fun h5 => absurd h5 (by rw [hx]; decide))
  refine g_aload_n (pc := 10) 0 rfl rfl dX7_drop_10 ?_
  refine g_iload_n (pc := 11) 1 rfl rfl dX7_drop_11 ?_
  refine g_callV (pc := 12) (mc := mX7_isSigned) (rest := []) lX7_125 iX7_isSigned (kX7_isSigned l E M hR hsg j (by omega)) ⟨Nat.le_of_ble_eq_true rfl, Nat.le_of_ble_eq_true rfl⟩ hR.s0 (by decide) (by decide) rfl rfl rfl rfl (Nat.le_of_ble_eq_true rfl) ⟨Nat.zero_le _, Nat.zero_le _⟩ dX7_drop_12 (g_rI ?_)
  refine g_ifB_ne (pc := 15) 21 dX7_drop_15 (by decide) (fun h15 => absurd h15 (by rw [hb]; decide)) (fun h15 => ?_)
  refine g_bipush (pc := 18) ((-2)) (by decide) dX7_drop_18 ?_
  exact g_iret (pc := 20) rfl dX7_drop_20 ⟨rfl, rfl⟩
set_option maxRecDepth 100000 in
set_option maxHeartbeats 4000000 in
theorem kX7_drop_ok (l : Launch) (E : gEnv) (M : gMem) (hR : mR E M) (hO : mO M) (hsg : M.1 66 10 < 1024) (hz : M.1 60 17 ≤ 6) (j : Nat) (hj : j < M.1 60 11) (hb : (M.1 66 10).testBit j = true) : gMet l E mX7_drop 5 [.ref (gAd E 60), .int (nI j)] M (fun v u => v = some (.int (nI (sOnes (M.1 66 10 &&& (1023 - 2 ^ j))))) ∧ u = gU (mNt M) 66 10 (M.1 66 10 &&& (1023 - 2 ^ j))) := by
  have hO' := hO
  obtain ⟨hn, hk, hft, hto, hU, hH⟩ := hO
  have hO := hO'
  have hx : inR (nI j) (M.1 60 11) = true := by rw [inR_nI (by omega)]; exact decide_eq_true hj
  refine gMet_of (mm := mX7_drop) (h := 5) (M := M) [(0, .ref (gAd E 60)), (1, .int (nI j))] (by decide) (Nat.le_of_ble_eq_true rfl) rfl ?_
  refine g_aload_n (pc := 0) 0 rfl rfl dX7_drop_0 ?_
  refine g_iload_n (pc := 1) 1 rfl rfl dX7_drop_1 ?_
  refine g_callV (pc := 2) (mc := mX7_isOffer) (rest := []) lX7_141 iX7_isOffer (kX7_isOffer l E M hR hO hsg (nI j)) ⟨Nat.le_of_ble_eq_true rfl, Nat.le_of_ble_eq_true rfl⟩ hR.s0 (by decide) (by decide) rfl rfl rfl rfl (Nat.le_of_ble_eq_true rfl) ⟨Nat.zero_le _, Nat.zero_le _⟩ dX7_drop_2 (g_rI ?_)
  refine g_ifB_ne (pc := 5) 10 dX7_drop_5 (by decide) (fun h5 => ?_) (fun h5 => absurd h5 (by rw [hx]; decide))
  refine g_aload_n (pc := 10) 0 rfl rfl dX7_drop_10 ?_
  refine g_iload_n (pc := 11) 1 rfl rfl dX7_drop_11 ?_
  refine g_callV (pc := 12) (mc := mX7_isSigned) (rest := []) lX7_125 iX7_isSigned (kX7_isSigned l E M hR hsg j (by omega)) ⟨Nat.le_of_ble_eq_true rfl, Nat.le_of_ble_eq_true rfl⟩ hR.s0 (by decide) (by decide) rfl rfl rfl rfl (Nat.le_of_ble_eq_true rfl) ⟨Nat.zero_le _, Nat.zero_le _⟩ dX7_drop_12 (g_rI ?_)
  refine g_ifB_ne (pc := 15) 21 dX7_drop_15 (by decide) (fun h15 => ?_) (fun h15 => absurd h15 (by rw [hb]; decide))
  refine g_aload_n (pc := 21) 0 rfl rfl dX7_drop_21 ?_
  refine g_callV (pc := 22) (mc := mX7_note) (rest := []) lX7_147 iX7_note (kX7_note l E M hR hz) ⟨Nat.le_of_ble_eq_true rfl, Nat.le_of_ble_eq_true rfl⟩ hR.s0 (by decide) (by decide) rfl rfl rfl rfl (Nat.le_of_ble_eq_true rfl) ⟨Nat.zero_le _, Nat.zero_le _⟩ dX7_drop_22 (g_rU ?_)
  refine g_aload_n (pc := 25) 0 rfl rfl dX7_drop_25 ?_
  refine fX7_25 (pc := 26) 66 rfl hR.s0 (mR_2 hR mNt_2).r6 (by decide) dX7_drop_26 ?_
  refine g_bipush (pc := 29) (nI 10) (by decide) dX7_drop_29 ?_
  refine g_dup2 (pc := 31) rfl rfl dX7_drop_31 ?_
  refine g_iaload (pc := 32) hR.s6 (by rw [hR.l6]; omega) (by rw [hR.l6]; omega) dX7_drop_32 ?_
  refine g_topi (pc := 33) (x' := nI (M.1 66 10)) (mNt_o66 10) ?_
  refine g_iconst (pc := 33) (nI 1) (by decide) dX7_drop_33 ?_
  refine g_iload_n (pc := 34) 1 rfl rfl dX7_drop_34 ?_
  refine g_ishl1 (pc := 35) (by omega) dX7_drop_35 ?_
  refine g_iconst (pc := 36) ((-1)) (by decide) dX7_drop_36 ?_
  refine g_ixor (pc := 37) dX7_drop_37 ?_
  refine g_iand (pc := 38) dX7_drop_38 ?_
  refine g_topi (pc := 39) (x' := nI (M.1 66 10 &&& (1023 - 2 ^ j))) (nx_clr hsg (by omega)) ?_
  refine g_iastore (pc := 39) hR.s6 (by rw [hR.l6]; omega) (by rw [hR.l6]; omega) dX7_drop_39 ?_
  refine g_aload_n (pc := 40) 0 rfl rfl dX7_drop_40 ?_
  refine fX7_25 (pc := 41) 66 rfl hR.s0 (mR_2 hR mNt_2).r6 (by decide) dX7_drop_41 ?_
  refine g_bipush (pc := 44) (nI 10) (by decide) dX7_drop_44 ?_
  refine g_iaload (pc := 46) hR.s6 (by rw [hR.l6]; omega) (by rw [hR.l6]; omega) dX7_drop_46 ?_
  refine g_topi (pc := 47) (x' := nI (M.1 66 10 &&& (1023 - 2 ^ j))) (by simp [gU]) ?_
  refine g_callS (pc := 47) (mc := mX7_ones) (rest := []) lX7_111 iX7_ones (kX7_ones l E (gU (mNt M) 66 10 (M.1 66 10 &&& (1023 - 2 ^ j))) (M.1 66 10 &&& (1023 - 2 ^ j)) (Nat.lt_of_le_of_lt Nat.and_le_left (by omega))) ⟨Nat.le_of_ble_eq_true rfl, Nat.le_of_ble_eq_true rfl⟩ rfl rfl (Nat.le_of_ble_eq_true rfl) ⟨Nat.zero_le _, Nat.zero_le _⟩ dX7_drop_47 (g_rI ?_)
  exact g_iret (pc := 50) rfl dX7_drop_50 ⟨rfl, rfl⟩
set_option maxRecDepth 100000 in
set_option maxHeartbeats 4000000 in
theorem kX7_take (l : Launch) (E : gEnv) (M : gMem) (hR : mR E M) (hO : mO M) (hsg : M.1 66 10 < 1024) (hz : M.1 60 17 ≤ 6) : gMet l E mX7_take 6 [.ref (gAd E 60)] M (fun v u => v = some (.int (nI (sOnes (sBest (mV M) (M.1 60 11) (goodM (mV M) (M.1 60 11) (mH M) (M.1 60 12) (M.1 60 13) (M.1 60 14)) (2 ^ M.1 60 11))))) ∧ u = gU (mNt (gU M 60 21 (sPrice (mV M) (M.1 60 11) (sBest (mV M) (M.1 60 11) (goodM (mV M) (M.1 60 11) (mH M) (M.1 60 12) (M.1 60 13) (M.1 60 14)) (2 ^ M.1 60 11))))) 66 10 (sBest (mV M) (M.1 60 11) (goodM (mV M) (M.1 60 11) (mH M) (M.1 60 12) (M.1 60 13) (M.1 60 14)) (2 ^ M.1 60 11))) := by
  have hO' := hO
  obtain ⟨hn, hk, hft, hto, hU, hH⟩ := hO
  have hO := hO'
  have hp : 2 ^ M.1 60 11 ≤ 1024 := Nat.pow_le_pow_right (n := 2) (by decide) hn
  refine gMet_of (mm := mX7_take) (h := 6) (M := M) [(0, .ref (gAd E 60))] (by decide) (Nat.le_of_ble_eq_true rfl) rfl ?_
  refine g_aload_n (pc := 0) 0 rfl rfl dX7_take_0 ?_
  refine g_callV (pc := 1) (mc := mX7_findBest) (rest := []) lX7_180 iX7_findBest (kX7_findBest l E M hR hO) ⟨Nat.le_of_ble_eq_true rfl, Nat.le_of_ble_eq_true rfl⟩ hR.s0 (by decide) (by decide) rfl rfl rfl rfl (Nat.le_of_ble_eq_true rfl) ⟨Nat.zero_le _, Nat.zero_le _⟩ dX7_take_1 ?_
  intro v u hq
  obtain ⟨rfl, rfl⟩ := hq
  refine g_istore_n (pc := 4) rfl [(0, .ref (gAd E 60)), (1, .int (nI (sBest (mV M) (M.1 60 11) (goodM (mV M) (M.1 60 11) (mH M) (M.1 60 12) (M.1 60 13) (M.1 60 14)) (2 ^ M.1 60 11))))] dX7_take_4 (by decide) rfl rfl ?_
  refine g_aload_n (pc := 5) 0 rfl rfl dX7_take_5 ?_
  refine g_callV (pc := 6) (mc := mX7_note) (rest := []) lX7_147 iX7_note (kX7_note l E (gU M 60 21 (sPrice (mV M) (M.1 60 11) (sBest (mV M) (M.1 60 11) (goodM (mV M) (M.1 60 11) (mH M) (M.1 60 12) (M.1 60 13) (M.1 60 14)) (2 ^ M.1 60 11)))) hR hz) ⟨Nat.le_of_ble_eq_true rfl, Nat.le_of_ble_eq_true rfl⟩ hR.s0 (by decide) (by decide) rfl rfl rfl rfl (Nat.le_of_ble_eq_true rfl) ⟨Nat.zero_le _, Nat.zero_le _⟩ dX7_take_6 (g_rU ?_)
  refine g_aload_n (pc := 9) 0 rfl rfl dX7_take_9 ?_
  refine fX7_25 (pc := 10) 66 rfl hR.s0 (mR_2 (M := gU M 60 21 (sPrice (mV M) (M.1 60 11) (sBest (mV M) (M.1 60 11) (goodM (mV M) (M.1 60 11) (mH M) (M.1 60 12) (M.1 60 13) (M.1 60 14)) (2 ^ M.1 60 11)))) hR mNt_2).r6 (by decide) dX7_take_10 ?_
  refine g_bipush (pc := 13) (nI 10) (by decide) dX7_take_13 ?_
  refine g_iload_n (pc := 15) 1 rfl rfl dX7_take_15 ?_
  refine g_iastore (pc := 16) hR.s6 (by rw [hR.l6]; omega) (by rw [hR.l6]; omega) dX7_take_16 ?_
  refine g_iload_n (pc := 17) 1 rfl rfl dX7_take_17 ?_
  refine g_callS (pc := 18) (mc := mX7_ones) (rest := []) lX7_111 iX7_ones (kX7_ones l E (gU (mNt (gU M 60 21 (sPrice (mV M) (M.1 60 11) (sBest (mV M) (M.1 60 11) (goodM (mV M) (M.1 60 11) (mH M) (M.1 60 12) (M.1 60 13) (M.1 60 14)) (2 ^ M.1 60 11))))) 66 10 (sBest (mV M) (M.1 60 11) (goodM (mV M) (M.1 60 11) (mH M) (M.1 60 12) (M.1 60 13) (M.1 60 14)) (2 ^ M.1 60 11))) (sBest (mV M) (M.1 60 11) (goodM (mV M) (M.1 60 11) (mH M) (M.1 60 12) (M.1 60 13) (M.1 60 14)) (2 ^ M.1 60 11)) (by have := sBest_le (V := mV M) (n := M.1 60 11) (good := (goodM (mV M) (M.1 60 11) (mH M) (M.1 60 12) (M.1 60 13) (M.1 60 14))) (2 ^ M.1 60 11); omega)) ⟨Nat.le_of_ble_eq_true rfl, Nat.le_of_ble_eq_true rfl⟩ rfl rfl (Nat.le_of_ble_eq_true rfl) ⟨Nat.zero_le _, Nat.zero_le _⟩ dX7_take_18 (g_rI ?_)
  exact g_iret (pc := 21) rfl dX7_take_21 ⟨rfl, rfl⟩
set_option maxRecDepth 100000 in
set_option maxHeartbeats 4000000 in
theorem kX7_write_bad (l : Launch) (E : gEnv) (M : gMem) (hR : mR E M) (x : Int32) (hx : inG x 32 126 = false) : gMetI l E mX7_write 1 [.ref (gAd E 60), .int x] M (-1) := by
  refine gMet_of (mm := mX7_write) (h := 1) (M := M) [(0, .ref (gAd E 60)), (1, .int x)] (by decide) (Nat.le_of_ble_eq_true rfl) rfl ?_
  refine g_iload_n (pc := 0) 1 rfl rfl dX7_write_0 ?_
  refine g_bipush (pc := 1) (nI 32) (by decide) dX7_write_1 ?_
  refine g_bipush (pc := 3) (nI 126) (by decide) dX7_write_3 ?_
  refine g_callS (pc := 5) (mc := mX7_in) (rest := []) lX7_82 iX7_in (kX7_inG l E M (x) 32 126 (by omega) (by omega)) ⟨Nat.le_of_ble_eq_true rfl, Nat.le_of_ble_eq_true rfl⟩ rfl rfl (Nat.le_of_ble_eq_true rfl) ⟨Nat.zero_le _, Nat.zero_le _⟩ dX7_write_5 (g_rI ?_)
  refine g_ifB_ne (pc := 8) 13 dX7_write_8 (by decide) (fun h8 => absurd h8 (by rw [hx]; decide)) (fun h8 => ?_)
  refine g_iconst (pc := 11) ((-1)) (by decide) dX7_write_11 ?_
  exact g_iret (pc := 12) rfl dX7_write_12 ⟨rfl, rfl⟩
set_option maxRecDepth 100000 in
set_option maxHeartbeats 4000000 in
theorem kX7_write_full (l : Launch) (E : gEnv) (M : gMem) (hR : mR E M) (c : Nat) (hc1 : 32 ≤ c) (hc2 : c ≤ 126) (hL : M.1 60 1 = 200) : gMetI l E mX7_write 1 [.ref (gAd E 60), .int (nI c)] M (-3) := by
  refine gMet_of (mm := mX7_write) (h := 1) (M := M) [(0, .ref (gAd E 60)), (1, .int (nI c))] (by decide) (Nat.le_of_ble_eq_true rfl) rfl ?_
  refine g_iload_n (pc := 0) 1 rfl rfl dX7_write_0 ?_
  refine g_bipush (pc := 1) (nI 32) (by decide) dX7_write_1 ?_
  refine g_bipush (pc := 3) (nI 126) (by decide) dX7_write_3 ?_
  refine g_callS (pc := 5) (mc := mX7_in) (rest := []) lX7_82 iX7_in (kX7_inN l E M c 32 126 (by omega) (by omega) (by omega)) ⟨Nat.le_of_ble_eq_true rfl, Nat.le_of_ble_eq_true rfl⟩ rfl rfl (Nat.le_of_ble_eq_true rfl) ⟨Nat.zero_le _, Nat.zero_le _⟩ dX7_write_5 (g_rI ?_)
  refine g_ifB_ne (pc := 8) 13 dX7_write_8 (by decide) (fun h8 => ?_) (fun h8 => absurd h8 (by rw [decide_eq_true (show 32 ≤ c ∧ c ≤ 126 by omega)]; decide))
  refine g_aload_n (pc := 13) 0 rfl rfl dX7_write_13 ?_
  refine fX7_79 (pc := 14) rfl hR.s0 dX7_write_14 ?_
  refine g_sipush (pc := 17) (nI 200) (by decide) dX7_write_17 ?_
  refine g_icmpN_ne (pc := 20) 26 dX7_write_20 (by decide) (by omega) (by omega) (fun h20 => absurd h20 (by omega)) (fun h20 => ?_)
  refine g_bipush (pc := 23) ((-3)) (by decide) dX7_write_23 ?_
  exact g_iret (pc := 25) rfl dX7_write_25 ⟨rfl, rfl⟩
set_option maxRecDepth 100000 in
set_option maxHeartbeats 4000000 in
theorem kX7_write_ok (l : Launch) (E : gEnv) (M : gMem) (hR : mR E M) (c : Nat) (hc1 : 32 ≤ c) (hc2 : c ≤ 126) (hL : M.1 60 1 < 200) : gMet l E mX7_write 1 [.ref (gAd E 60), .int (nI c)] M (fun v u => v = some (.int (nI (M.1 60 1 + 1))) ∧ u = gU (gU M 61 (M.1 60 1) c) 60 1 (M.1 60 1 + 1)) := by
  refine gMet_of (mm := mX7_write) (h := 1) (M := M) [(0, .ref (gAd E 60)), (1, .int (nI c))] (by decide) (Nat.le_of_ble_eq_true rfl) rfl ?_
  refine g_iload_n (pc := 0) 1 rfl rfl dX7_write_0 ?_
  refine g_bipush (pc := 1) (nI 32) (by decide) dX7_write_1 ?_
  refine g_bipush (pc := 3) (nI 126) (by decide) dX7_write_3 ?_
  refine g_callS (pc := 5) (mc := mX7_in) (rest := []) lX7_82 iX7_in (kX7_inN l E M c 32 126 (by omega) (by omega) (by omega)) ⟨Nat.le_of_ble_eq_true rfl, Nat.le_of_ble_eq_true rfl⟩ rfl rfl (Nat.le_of_ble_eq_true rfl) ⟨Nat.zero_le _, Nat.zero_le _⟩ dX7_write_5 (g_rI ?_)
  refine g_ifB_ne (pc := 8) 13 dX7_write_8 (by decide) (fun h8 => ?_) (fun h8 => absurd h8 (by rw [decide_eq_true (show 32 ≤ c ∧ c ≤ 126 by omega)]; decide))
  refine g_aload_n (pc := 13) 0 rfl rfl dX7_write_13 ?_
  refine fX7_79 (pc := 14) rfl hR.s0 dX7_write_14 ?_
  refine g_sipush (pc := 17) (nI 200) (by decide) dX7_write_17 ?_
  refine g_icmpN_ne (pc := 20) 26 dX7_write_20 (by decide) (by omega) (by omega) (fun h20 => ?_) (fun h20 => absurd h20 (by omega))
  refine g_aload_n (pc := 26) 0 rfl rfl dX7_write_26 ?_
  refine fX7_7 (pc := 27) 61 rfl hR.s0 hR.r1 (by decide) dX7_write_27 ?_
  refine g_aload_n (pc := 30) 0 rfl rfl dX7_write_30 ?_
  refine fX7_79 (pc := 31) rfl hR.s0 dX7_write_31 ?_
  refine g_iload_n (pc := 34) 1 rfl rfl dX7_write_34 ?_
  refine g_iastore (pc := 35) hR.s1 (by rw [hR.l1]; omega) (by rw [hR.l1]; omega) dX7_write_35 ?_
  refine g_aload_n (pc := 36) 0 rfl rfl dX7_write_36 ?_
  refine g_dup (pc := 37) rfl dX7_write_37 ?_
  refine fX7_79 (pc := 38) rfl hR.s0 dX7_write_38 ?_
  refine g_topi (pc := 41) (x' := nI (M.1 60 1)) (by simp [gU, gUr]) ?_
  refine g_iconst (pc := 41) (nI 1) (by decide) dX7_write_41 ?_
  refine g_iaddN (pc := 42) dX7_write_42 ?_
  refine uX7_79 (pc := 43) rfl hR.s0 dX7_write_43 ?_
  refine g_aload_n (pc := 46) 0 rfl rfl dX7_write_46 ?_
  refine fX7_79 (pc := 47) rfl hR.s0 dX7_write_47 ?_
  refine g_topi (pc := 50) (x' := nI ((M.1 60 1) + 1)) (by simp [gU, gUr]) ?_
  exact g_iret (pc := 50) rfl dX7_write_50 ⟨rfl, rfl⟩
set_option maxRecDepth 100000 in
set_option maxHeartbeats 4000000 in
theorem kX7_wipe (l : Launch) (E : gEnv) (M : gMem) (hR : mR E M) : gMet l E mX7_wipe 0 [.ref (gAd E 60)] M (fun v u => v = some (.int (nI (M.1 60 1))) ∧ u = gU M 60 1 0) := by
  refine gMet_of (mm := mX7_wipe) (h := 0) (M := M) [(0, .ref (gAd E 60))] (by decide) (Nat.le_of_ble_eq_true rfl) rfl ?_
  refine g_aload_n (pc := 0) 0 rfl rfl dX7_wipe_0 ?_
  refine fX7_79 (pc := 1) rfl hR.s0 dX7_wipe_1 ?_
  refine g_istore_n (pc := 4) rfl [(0, .ref (gAd E 60)), (1, .int (nI (M.1 60 1)))] dX7_wipe_4 (by decide) rfl rfl ?_
  refine g_aload_n (pc := 5) 0 rfl rfl dX7_wipe_5 ?_
  refine g_iconst (pc := 6) (nI 0) (by decide) dX7_wipe_6 ?_
  refine uX7_79 (pc := 7) rfl hR.s0 dX7_wipe_7 ?_
  refine g_iload_n (pc := 10) 1 rfl rfl dX7_wipe_10 ?_
  exact g_iret (pc := 11) rfl dX7_wipe_11 ⟨rfl, rfl⟩
set_option maxRecDepth 100000 in
set_option maxHeartbeats 4000000 in
theorem kX7_undo_no (l : Launch) (E : gEnv) (M : gMem) (hR : mR E M) (hz : M.1 60 17 = 0) : gMetI l E mX7_undo 0 [.ref (gAd E 60)] M (-2) := by
  refine gMet_of (mm := mX7_undo) (h := 0) (M := M) [(0, .ref (gAd E 60))] (by decide) (Nat.le_of_ble_eq_true rfl) rfl ?_
  refine g_aload_n (pc := 0) 0 rfl rfl dX7_undo_0 ?_
  refine fX7_73 (pc := 1) rfl hR.s0 dX7_undo_1 ?_
  refine g_ifN_ne (pc := 4) 10 dX7_undo_4 (by decide) (by omega) (fun h4 => absurd h4 (by omega)) (fun h4 => ?_)
  refine g_bipush (pc := 7) ((-2)) (by decide) dX7_undo_7 ?_
  exact g_iret (pc := 9) rfl dX7_undo_9 ⟨rfl, rfl⟩
set_option maxRecDepth 100000 in
set_option maxHeartbeats 4000000 in
theorem kX7_undo_ok (l : Launch) (E : gEnv) (M : gMem) (hR : mR E M) (hz : M.1 60 17 ≤ 6) (hz0 : 0 < M.1 60 17) : gMet l E mX7_undo 0 [.ref (gAd E 60)] M (fun v u => v = some (.int (nI (M.1 60 17 - 1))) ∧ u = gRow (gU M 60 17 (M.1 60 17 - 1)) 66 (uCpy (M.1 66) (M.1 67) (M.1 60 17 - 1) 11)) := by
  refine gMet_of (mm := mX7_undo) (h := 0) (M := M) [(0, .ref (gAd E 60))] (by decide) (Nat.le_of_ble_eq_true rfl) rfl ?_
  refine g_aload_n (pc := 0) 0 rfl rfl dX7_undo_0 ?_
  refine fX7_73 (pc := 1) rfl hR.s0 dX7_undo_1 ?_
  refine g_ifN_ne (pc := 4) 10 dX7_undo_4 (by decide) (by omega) (fun h4 => ?_) (fun h4 => absurd h4 (by omega))
  refine g_aload_n (pc := 10) 0 rfl rfl dX7_undo_10 ?_
  refine g_dup (pc := 11) rfl dX7_undo_11 ?_
  refine fX7_73 (pc := 12) rfl hR.s0 dX7_undo_12 ?_
  refine g_iconst (pc := 15) (nI 1) (by decide) dX7_undo_15 ?_
  refine g_isubN (pc := 16) (by omega) dX7_undo_16 ?_
  refine uX7_73 (pc := 17) rfl hR.s0 dX7_undo_17 ?_
  refine g_iconst (pc := 20) (nI 0) (by decide) dX7_undo_20 ?_
  refine g_istore_n (pc := 21) rfl [(0, .ref (gAd E 60)), (1, .int (nI 0))] dX7_undo_21 (by decide) rfl rfl ?_
  have lp22 : ∀ k, k ≤ 11 → gG l (gV0 0 E (fun v u => v = some (.int (nI (M.1 60 17 - 1))) ∧ u = gRow (gU M 60 17 (M.1 60 17 - 1)) 66 (uCpy (M.1 66) (M.1 67) (M.1 60 17 - 1) 11))) mX7_undo E (0, 0) (gRow (gU M 60 17 (M.1 60 17 - 1)) 66 (uCpy (M.1 66) (M.1 67) (M.1 60 17 - 1) k)) 22 [(0, .ref (gAd E 60)), (1, .int (nI k))] [] := by
    refine gloop (fun k hik ihk => ?_)
    refine g_iload_n (pc := 22) 1 rfl rfl dX7_undo_22 ?_
    refine g_bipush (pc := 23) (nI 11) (by decide) dX7_undo_23 ?_
    refine g_icmpN_ge (pc := 25) 54 dX7_undo_25 (by decide) (by omega) (by omega) (fun h25 => ?_) (fun h25 => ?_)
    · refine g_aload_n (pc := 54) 0 rfl rfl dX7_undo_54 ?_
      refine fX7_73 (pc := 55) rfl hR.s0 dX7_undo_55 ?_
      refine g_topi (pc := 58) (x' := nI (M.1 60 17 - 1)) (by simp [gRow, gU]) ?_
      exact g_iret (pc := 58) rfl dX7_undo_58 ⟨rfl, by rw [show k = 11 by omega]⟩
    · refine g_aload_n (pc := 28) 0 rfl rfl dX7_undo_28 ?_
      refine fX7_25 (pc := 29) 66 rfl hR.s0 hR.r6 (by decide) dX7_undo_29 ?_
      refine g_iload_n (pc := 32) 1 rfl rfl dX7_undo_32 ?_
      refine g_aload_n (pc := 33) 0 rfl rfl dX7_undo_33 ?_
      refine fX7_28 (pc := 34) 67 rfl hR.s0 hR.r7 (by decide) dX7_undo_34 ?_
      refine g_bipush (pc := 37) (nI 11) (by decide) dX7_undo_37 ?_
      refine g_aload_n (pc := 39) 0 rfl rfl dX7_undo_39 ?_
      refine fX7_73 (pc := 40) rfl hR.s0 dX7_undo_40 ?_
      refine g_topi (pc := 43) (x' := nI (M.1 60 17 - 1)) (by simp [gRow, gU]) ?_
      refine g_imulN (pc := 43) dX7_undo_43 ?_
      refine g_iload_n (pc := 44) 1 rfl rfl dX7_undo_44 ?_
      refine g_iaddN (pc := 45) dX7_undo_45 ?_
      refine g_iaload (pc := 46) hR.s7 (by rw [hR.l7]; omega) (by rw [hR.l7]; omega) dX7_undo_46 ?_
      refine g_topi (pc := 47) (x' := nI (M.1 67 ((11 * (M.1 60 17 - 1)) + k))) (by simp [gRow, gU]) ?_
      refine g_iastore (pc := 47) hR.s6 (by rw [hR.l6]; omega) (by rw [hR.l6]; omega) dX7_undo_47 ?_
      refine g_iincN (pc := 48) 1 1 [(0, .ref (gAd E 60)), (1, .int (nI (k + 1)))] rfl dX7_undo_48 (by decide) rfl rfl ?_
      refine g_goto (pc := 51) 22 dX7_undo_51 (by decide) ?_
      refine g_mm (pc := 22) (M' := gRow (gU M 60 17 (M.1 60 17 - 1)) 66 (uCpy (M.1 66) (M.1 67) (M.1 60 17 - 1) (k + 1))) (by rw [gRow_U, uCpy_s]) ?_
      exact ihk (by omega)
  refine g_mm (pc := 22) (M' := gRow (gU M 60 17 (M.1 60 17 - 1)) 66 (uCpy (M.1 66) (M.1 67) (M.1 60 17 - 1) 0)) (by rw [uCpy_0, show M.1 66 = (gU M 60 17 (M.1 60 17 - 1)).1 66 from rfl, gRow_me]) ?_
  exact lp22 0 (by omega)
set_option maxRecDepth 100000 in
set_option maxHeartbeats 4000000 in
theorem kX7_move_bad1 (l : Launch) (E : gEnv) (M : gMem) (hR : mR E M) (hO : mO M) (hsg : M.1 66 10 < 1024) (x d : Int32) (hx : inR x (M.1 60 11) = false) : gMetI l E mX7_move 5 [.ref (gAd E 60), .int x, .int d] M (-1) := by
  have hO' := hO
  obtain ⟨hn, hk, hft, hto, hU, hH⟩ := hO
  have hO := hO'
  refine gMet_of (mm := mX7_move) (h := 5) (M := M) [(0, .ref (gAd E 60)), (1, .int x), (2, .int d)] (by decide) (Nat.le_of_ble_eq_true rfl) rfl ?_
  refine g_aload_n (pc := 0) 0 rfl rfl dX7_move_0 ?_
  refine g_iload_n (pc := 1) 1 rfl rfl dX7_move_1 ?_
  refine g_callV (pc := 2) (mc := mX7_isOffer) (rest := []) lX7_141 iX7_isOffer (kX7_isOffer l E M hR hO hsg (x)) ⟨Nat.le_of_ble_eq_true rfl, Nat.le_of_ble_eq_true rfl⟩ hR.s0 (by decide) (by decide) rfl rfl rfl rfl (Nat.le_of_ble_eq_true rfl) ⟨Nat.zero_le _, Nat.zero_le _⟩ dX7_move_2 (g_rI ?_)
  refine g_ifB_eq (pc := 5) 18 dX7_move_5 (by decide) (fun h5 => ?_) (fun h5 => absurd h5 (by rw [hx]; decide))
  refine g_iconst (pc := 18) ((-1)) (by decide) dX7_move_18 ?_
  exact g_iret (pc := 19) rfl dX7_move_19 ⟨rfl, rfl⟩
set_option maxRecDepth 100000 in
set_option maxHeartbeats 4000000 in
theorem kX7_move_bad2 (l : Launch) (E : gEnv) (M : gMem) (hR : mR E M) (hO : mO M) (hsg : M.1 66 10 < 1024) (j : Nat) (d : Int32) (hj : j < M.1 60 11) (hd : inR d 52 = false) : gMetI l E mX7_move 5 [.ref (gAd E 60), .int (nI j), .int d] M (-1) := by
  have hO' := hO
  obtain ⟨hn, hk, hft, hto, hU, hH⟩ := hO
  have hO := hO'
  have hx : inR (nI j) (M.1 60 11) = true := by rw [inR_nI (by omega)]; exact decide_eq_true hj
  refine gMet_of (mm := mX7_move) (h := 5) (M := M) [(0, .ref (gAd E 60)), (1, .int (nI j)), (2, .int d)] (by decide) (Nat.le_of_ble_eq_true rfl) rfl ?_
  refine g_aload_n (pc := 0) 0 rfl rfl dX7_move_0 ?_
  refine g_iload_n (pc := 1) 1 rfl rfl dX7_move_1 ?_
  refine g_callV (pc := 2) (mc := mX7_isOffer) (rest := []) lX7_141 iX7_isOffer (kX7_isOffer l E M hR hO hsg (nI j)) ⟨Nat.le_of_ble_eq_true rfl, Nat.le_of_ble_eq_true rfl⟩ hR.s0 (by decide) (by decide) rfl rfl rfl rfl (Nat.le_of_ble_eq_true rfl) ⟨Nat.zero_le _, Nat.zero_le _⟩ dX7_move_2 (g_rI ?_)
  refine g_ifB_eq (pc := 5) 18 dX7_move_5 (by decide) (fun h5 => absurd h5 (by rw [hx]; decide)) (fun h5 => ?_)
  refine g_iload_n (pc := 8) 2 rfl rfl dX7_move_8 ?_
  refine g_iconst (pc := 9) (nI 0) (by decide) dX7_move_9 ?_
  refine g_bipush (pc := 10) (nI 51) (by decide) dX7_move_10 ?_
  refine g_callS (pc := 12) (mc := mX7_in) (rest := []) lX7_82 iX7_in (kX7_inG l E M (d) 0 51 (by omega) (by omega)) ⟨Nat.le_of_ble_eq_true rfl, Nat.le_of_ble_eq_true rfl⟩ rfl rfl (Nat.le_of_ble_eq_true rfl) ⟨Nat.zero_le _, Nat.zero_le _⟩ dX7_move_12 (g_rI ?_)
  refine g_ifB_ne (pc := 15) 20 dX7_move_15 (by decide) (fun h15 => absurd h15 (by rw [inG_R, hd]; decide)) (fun h15 => ?_)
  refine g_iconst (pc := 18) ((-1)) (by decide) dX7_move_18 ?_
  exact g_iret (pc := 19) rfl dX7_move_19 ⟨rfl, rfl⟩
set_option maxRecDepth 100000 in
set_option maxHeartbeats 4000000 in
theorem kX7_move_no (l : Launch) (E : gEnv) (M : gMem) (hR : mR E M) (hO : mO M) (hsg : M.1 66 10 < 1024) (j d : Nat) (hj : j < M.1 60 11) (hd : d ≤ 51) (hno : (M.1 66 10).testBit j = true ∨ d = M.1 66 j ∨ 51 - M.1 64 (7 * j + 4) < d) : gMetI l E mX7_move 5 [.ref (gAd E 60), .int (nI j), .int (nI d)] M (-2) := by
  have hO' := hO
  obtain ⟨hn, hk, hft, hto, hU, hH⟩ := hO
  have hO := hO'
  have hx : inR (nI j) (M.1 60 11) = true := by rw [inR_nI (by omega)]; exact decide_eq_true hj
  have hl4 : M.1 64 (7 * j + 4) + M.1 66 j ≤ 51 := (hU j hj).2.2.2.2.1
  refine gMet_of (mm := mX7_move) (h := 5) (M := M) [(0, .ref (gAd E 60)), (1, .int (nI j)), (2, .int (nI d))] (by decide) (Nat.le_of_ble_eq_true rfl) rfl ?_
  refine g_aload_n (pc := 0) 0 rfl rfl dX7_move_0 ?_
  refine g_iload_n (pc := 1) 1 rfl rfl dX7_move_1 ?_
  refine g_callV (pc := 2) (mc := mX7_isOffer) (rest := []) lX7_141 iX7_isOffer (kX7_isOffer l E M hR hO hsg (nI j)) ⟨Nat.le_of_ble_eq_true rfl, Nat.le_of_ble_eq_true rfl⟩ hR.s0 (by decide) (by decide) rfl rfl rfl rfl (Nat.le_of_ble_eq_true rfl) ⟨Nat.zero_le _, Nat.zero_le _⟩ dX7_move_2 (g_rI ?_)
  refine g_ifB_eq (pc := 5) 18 dX7_move_5 (by decide) (fun h5 => absurd h5 (by rw [hx]; decide)) (fun h5 => ?_)
  refine g_iload_n (pc := 8) 2 rfl rfl dX7_move_8 ?_
  refine g_iconst (pc := 9) (nI 0) (by decide) dX7_move_9 ?_
  refine g_bipush (pc := 10) (nI 51) (by decide) dX7_move_10 ?_
  refine g_callS (pc := 12) (mc := mX7_in) (rest := []) lX7_82 iX7_in (kX7_inN l E M d 0 51 (by omega) (by omega) (by omega)) ⟨Nat.le_of_ble_eq_true rfl, Nat.le_of_ble_eq_true rfl⟩ rfl rfl (Nat.le_of_ble_eq_true rfl) ⟨Nat.zero_le _, Nat.zero_le _⟩ dX7_move_12 (g_rI ?_)
  refine g_ifB_ne (pc := 15) 20 dX7_move_15 (by decide) (fun h15 => ?_) (fun h15 => absurd h15 (by rw [decide_eq_true (show 0 ≤ d ∧ d ≤ 51 by omega)]; decide))
  refine g_aload_n (pc := 20) 0 rfl rfl dX7_move_20 ?_
  refine fX7_25 (pc := 21) 66 rfl hR.s0 hR.r6 (by decide) dX7_move_21 ?_
  refine g_iload_n (pc := 24) 1 rfl rfl dX7_move_24 ?_
  refine g_iaload (pc := 25) hR.s6 (by rw [hR.l6]; omega) (by rw [hR.l6]; omega) dX7_move_25 ?_
  refine g_istore_n (pc := 26) rfl [(0, .ref (gAd E 60)), (1, .int (nI j)), (2, .int (nI d)), (3, .int (nI (M.1 66 j)))] dX7_move_26 (by decide) rfl rfl ?_
  refine g_aload_n (pc := 27) 0 rfl rfl dX7_move_27 ?_
  refine g_iload_n (pc := 28) 1 rfl rfl dX7_move_28 ?_
  refine g_callV (pc := 29) (mc := mX7_isSigned) (rest := []) lX7_125 iX7_isSigned (kX7_isSigned l E M hR hsg j (by omega)) ⟨Nat.le_of_ble_eq_true rfl, Nat.le_of_ble_eq_true rfl⟩ hR.s0 (by decide) (by decide) rfl rfl rfl rfl (Nat.le_of_ble_eq_true rfl) ⟨Nat.zero_le _, Nat.zero_le _⟩ dX7_move_29 (g_rI ?_)
  refine g_ifB_ne (pc := 32) 58 dX7_move_32 (by decide) (fun h32 => ?_) (fun h32 => ?_)
  · refine g_bipush (pc := 58) ((-2)) (by decide) dX7_move_58 ?_
    exact g_iret (pc := 60) rfl dX7_move_60 ⟨rfl, rfl⟩
  · refine g_iload_n (pc := 35) 3 rfl rfl dX7_move_35 ?_
    refine g_iload_n (pc := 36) 2 rfl rfl dX7_move_36 ?_
    refine g_icmpN_eq (pc := 37) 58 dX7_move_37 (by decide) (by omega) (by omega) (fun h37 => ?_) (fun h37 => ?_)
    · refine g_bipush (pc := 58) ((-2)) (by decide) dX7_move_58 ?_
      exact g_iret (pc := 60) rfl dX7_move_60 ⟨rfl, rfl⟩
    · refine g_aload_n (pc := 40) 0 rfl rfl dX7_move_40 ?_
      refine fX7_19 (pc := 41) 64 rfl hR.s0 hR.r4 (by decide) dX7_move_41 ?_
      refine g_bipush (pc := 44) (nI 7) (by decide) dX7_move_44 ?_
      refine g_iload_n (pc := 46) 1 rfl rfl dX7_move_46 ?_
      refine g_imulN (pc := 47) dX7_move_47 ?_
      refine g_iconst (pc := 48) (nI 4) (by decide) dX7_move_48 ?_
      refine g_iaddN (pc := 49) dX7_move_49 ?_
      refine g_iaload (pc := 50) hR.s4 (by rw [hR.l4]; omega) (by rw [hR.l4]; omega) dX7_move_50 ?_
      refine g_iload_n (pc := 51) 2 rfl rfl dX7_move_51 ?_
      refine g_iaddN (pc := 52) dX7_move_52 ?_
      refine g_bipush (pc := 53) (nI 51) (by decide) dX7_move_53 ?_
      refine g_icmpN_le (pc := 55) 61 dX7_move_55 (by decide) (by omega) (by omega) (fun h55 => absurd h55 (by rcases hno with q | q | q <;> first | omega | (rw [h32] at q; cases q))) (fun h55 => ?_)
      refine g_bipush (pc := 58) ((-2)) (by decide) dX7_move_58 ?_
      exact g_iret (pc := 60) rfl dX7_move_60 ⟨rfl, rfl⟩
set_option maxRecDepth 100000 in
set_option maxHeartbeats 4000000 in
theorem kX7_move_ok (l : Launch) (E : gEnv) (M : gMem) (hR : mR E M) (hO : mO M) (hsg : M.1 66 10 < 1024) (hz : M.1 60 17 ≤ 6) (j d : Nat) (hj : j < M.1 60 11) (hd : d ≤ 51) (h1 : (M.1 66 10).testBit j = false) (h2 : d ≠ M.1 66 j) (h3 : d ≤ 51 - M.1 64 (7 * j + 4)) : gMet l E mX7_move 5 [.ref (gAd E 60), .int (nI j), .int (nI d)] M (fun v u => v = some (.int (nI (M.1 66 j))) ∧ u = gU (mNt M) 66 j d) := by
  have hO' := hO
  obtain ⟨hn, hk, hft, hto, hU, hH⟩ := hO
  have hO := hO'
  have hx : inR (nI j) (M.1 60 11) = true := by rw [inR_nI (by omega)]; exact decide_eq_true hj
  have hl4 : M.1 64 (7 * j + 4) + M.1 66 j ≤ 51 := (hU j hj).2.2.2.2.1
  refine gMet_of (mm := mX7_move) (h := 5) (M := M) [(0, .ref (gAd E 60)), (1, .int (nI j)), (2, .int (nI d))] (by decide) (Nat.le_of_ble_eq_true rfl) rfl ?_
  refine g_aload_n (pc := 0) 0 rfl rfl dX7_move_0 ?_
  refine g_iload_n (pc := 1) 1 rfl rfl dX7_move_1 ?_
  refine g_callV (pc := 2) (mc := mX7_isOffer) (rest := []) lX7_141 iX7_isOffer (kX7_isOffer l E M hR hO hsg (nI j)) ⟨Nat.le_of_ble_eq_true rfl, Nat.le_of_ble_eq_true rfl⟩ hR.s0 (by decide) (by decide) rfl rfl rfl rfl (Nat.le_of_ble_eq_true rfl) ⟨Nat.zero_le _, Nat.zero_le _⟩ dX7_move_2 (g_rI ?_)
  refine g_ifB_eq (pc := 5) 18 dX7_move_5 (by decide) (fun h5 => absurd h5 (by rw [hx]; decide)) (fun h5 => ?_)
  refine g_iload_n (pc := 8) 2 rfl rfl dX7_move_8 ?_
  refine g_iconst (pc := 9) (nI 0) (by decide) dX7_move_9 ?_
  refine g_bipush (pc := 10) (nI 51) (by decide) dX7_move_10 ?_
  refine g_callS (pc := 12) (mc := mX7_in) (rest := []) lX7_82 iX7_in (kX7_inN l E M d 0 51 (by omega) (by omega) (by omega)) ⟨Nat.le_of_ble_eq_true rfl, Nat.le_of_ble_eq_true rfl⟩ rfl rfl (Nat.le_of_ble_eq_true rfl) ⟨Nat.zero_le _, Nat.zero_le _⟩ dX7_move_12 (g_rI ?_)
  refine g_ifB_ne (pc := 15) 20 dX7_move_15 (by decide) (fun h15 => ?_) (fun h15 => absurd h15 (by rw [decide_eq_true (show 0 ≤ d ∧ d ≤ 51 by omega)]; decide))
  refine g_aload_n (pc := 20) 0 rfl rfl dX7_move_20 ?_
  refine fX7_25 (pc := 21) 66 rfl hR.s0 hR.r6 (by decide) dX7_move_21 ?_
  refine g_iload_n (pc := 24) 1 rfl rfl dX7_move_24 ?_
  refine g_iaload (pc := 25) hR.s6 (by rw [hR.l6]; omega) (by rw [hR.l6]; omega) dX7_move_25 ?_
  refine g_istore_n (pc := 26) rfl [(0, .ref (gAd E 60)), (1, .int (nI j)), (2, .int (nI d)), (3, .int (nI (M.1 66 j)))] dX7_move_26 (by decide) rfl rfl ?_
  refine g_aload_n (pc := 27) 0 rfl rfl dX7_move_27 ?_
  refine g_iload_n (pc := 28) 1 rfl rfl dX7_move_28 ?_
  refine g_callV (pc := 29) (mc := mX7_isSigned) (rest := []) lX7_125 iX7_isSigned (kX7_isSigned l E M hR hsg j (by omega)) ⟨Nat.le_of_ble_eq_true rfl, Nat.le_of_ble_eq_true rfl⟩ hR.s0 (by decide) (by decide) rfl rfl rfl rfl (Nat.le_of_ble_eq_true rfl) ⟨Nat.zero_le _, Nat.zero_le _⟩ dX7_move_29 (g_rI ?_)
  refine g_ifB_ne (pc := 32) 58 dX7_move_32 (by decide) (fun h32 => absurd h32 (by rw [h1]; decide)) (fun h32 => ?_)
  refine g_iload_n (pc := 35) 3 rfl rfl dX7_move_35 ?_
  refine g_iload_n (pc := 36) 2 rfl rfl dX7_move_36 ?_
  refine g_icmpN_eq (pc := 37) 58 dX7_move_37 (by decide) (by omega) (by omega) (fun h37 => absurd h37 (by omega)) (fun h37 => ?_)
  refine g_aload_n (pc := 40) 0 rfl rfl dX7_move_40 ?_
  refine fX7_19 (pc := 41) 64 rfl hR.s0 hR.r4 (by decide) dX7_move_41 ?_
  refine g_bipush (pc := 44) (nI 7) (by decide) dX7_move_44 ?_
  refine g_iload_n (pc := 46) 1 rfl rfl dX7_move_46 ?_
  refine g_imulN (pc := 47) dX7_move_47 ?_
  refine g_iconst (pc := 48) (nI 4) (by decide) dX7_move_48 ?_
  refine g_iaddN (pc := 49) dX7_move_49 ?_
  refine g_iaload (pc := 50) hR.s4 (by rw [hR.l4]; omega) (by rw [hR.l4]; omega) dX7_move_50 ?_
  refine g_iload_n (pc := 51) 2 rfl rfl dX7_move_51 ?_
  refine g_iaddN (pc := 52) dX7_move_52 ?_
  refine g_bipush (pc := 53) (nI 51) (by decide) dX7_move_53 ?_
  refine g_icmpN_le (pc := 55) 61 dX7_move_55 (by decide) (by omega) (by omega) (fun h55 => ?_) (fun h55 => absurd h55 (by omega))
  refine g_aload_n (pc := 61) 0 rfl rfl dX7_move_61 ?_
  refine g_callV (pc := 62) (mc := mX7_note) (rest := []) lX7_147 iX7_note (kX7_note l E M hR hz) ⟨Nat.le_of_ble_eq_true rfl, Nat.le_of_ble_eq_true rfl⟩ hR.s0 (by decide) (by decide) rfl rfl rfl rfl (Nat.le_of_ble_eq_true rfl) ⟨Nat.zero_le _, Nat.zero_le _⟩ dX7_move_62 (g_rU ?_)
  refine g_aload_n (pc := 65) 0 rfl rfl dX7_move_65 ?_
  refine fX7_25 (pc := 66) 66 rfl hR.s0 (mR_2 hR mNt_2).r6 (by decide) dX7_move_66 ?_
  refine g_iload_n (pc := 69) 1 rfl rfl dX7_move_69 ?_
  refine g_iload_n (pc := 70) 2 rfl rfl dX7_move_70 ?_
  refine g_iastore (pc := 71) hR.s6 (by rw [hR.l6]; omega) (by rw [hR.l6]; omega) dX7_move_71 ?_
  refine g_iload_n (pc := 72) 3 rfl rfl dX7_move_72 ?_
  exact g_iret (pc := 73) rfl dX7_move_73 ⟨rfl, rfl⟩
set_option maxRecDepth 100000 in
set_option maxHeartbeats 4000000 in
theorem kX7_soonest_bad (l : Launch) (E : gEnv) (M : gMem) (hR : mR E M) (hO : mO M) (hsg : M.1 66 10 < 1024) (x : Int32) (hx : inR x (M.1 60 11) = false) : gMetI l E mX7_soonest 5 [.ref (gAd E 60), .int x] M (-1) := by
  have hO' := hO
  obtain ⟨hn, hk, hft, hto, hU, hH⟩ := hO
  have hO := hO'
  refine gMet_of (mm := mX7_soonest) (h := 5) (M := M) [(0, .ref (gAd E 60)), (1, .int x)] (by decide) (Nat.le_of_ble_eq_true rfl) rfl ?_
  refine g_aload_n (pc := 0) 0 rfl rfl dX7_soonest_0 ?_
  refine g_iload_n (pc := 1) 1 rfl rfl dX7_soonest_1 ?_
  refine g_callV (pc := 2) (mc := mX7_isOffer) (rest := []) lX7_141 iX7_isOffer (kX7_isOffer l E M hR hO hsg (x)) ⟨Nat.le_of_ble_eq_true rfl, Nat.le_of_ble_eq_true rfl⟩ hR.s0 (by decide) (by decide) rfl rfl rfl rfl (Nat.le_of_ble_eq_true rfl) ⟨Nat.zero_le _, Nat.zero_le _⟩ dX7_soonest_2 (g_rI ?_)
  refine g_ifB_ne (pc := 5) 10 dX7_soonest_5 (by decide) (fun h5 => absurd h5 (by rw [hx]; decide)) (fun h5 => ?_)
  refine g_iconst (pc := 8) ((-1)) (by decide) dX7_soonest_8 ?_
  exact g_iret (pc := 9) rfl dX7_soonest_9 ⟨rfl, rfl⟩
set_option maxRecDepth 100000 in
set_option maxHeartbeats 4000000 in
theorem kX7_soonest_no (l : Launch) (E : gEnv) (M : gMem) (hR : mR E M) (hO : mO M) (hsg : M.1 66 10 < 1024) (j : Nat) (hj : j < M.1 60 11) (hb : (M.1 66 10).testBit j = true) : gMetI l E mX7_soonest 5 [.ref (gAd E 60), .int (nI j)] M (-2) := by
  have hO' := hO
  obtain ⟨hn, hk, hft, hto, hU, hH⟩ := hO
  have hO := hO'
  have hx : inR (nI j) (M.1 60 11) = true := by rw [inR_nI (by omega)]; exact decide_eq_true hj
  refine gMet_of (mm := mX7_soonest) (h := 5) (M := M) [(0, .ref (gAd E 60)), (1, .int (nI j))] (by decide) (Nat.le_of_ble_eq_true rfl) rfl ?_
  refine g_aload_n (pc := 0) 0 rfl rfl dX7_soonest_0 ?_
  refine g_iload_n (pc := 1) 1 rfl rfl dX7_soonest_1 ?_
  refine g_callV (pc := 2) (mc := mX7_isOffer) (rest := []) lX7_141 iX7_isOffer (kX7_isOffer l E M hR hO hsg (nI j)) ⟨Nat.le_of_ble_eq_true rfl, Nat.le_of_ble_eq_true rfl⟩ hR.s0 (by decide) (by decide) rfl rfl rfl rfl (Nat.le_of_ble_eq_true rfl) ⟨Nat.zero_le _, Nat.zero_le _⟩ dX7_soonest_2 (g_rI ?_)
  refine g_ifB_ne (pc := 5) 10 dX7_soonest_5 (by decide) (fun h5 => ?_) (fun h5 => absurd h5 (by rw [hx]; decide))
  refine g_aload_n (pc := 10) 0 rfl rfl dX7_soonest_10 ?_
  refine g_iload_n (pc := 11) 1 rfl rfl dX7_soonest_11 ?_
  refine g_callV (pc := 12) (mc := mX7_isSigned) (rest := []) lX7_125 iX7_isSigned (kX7_isSigned l E M hR hsg j (by omega)) ⟨Nat.le_of_ble_eq_true rfl, Nat.le_of_ble_eq_true rfl⟩ hR.s0 (by decide) (by decide) rfl rfl rfl rfl (Nat.le_of_ble_eq_true rfl) ⟨Nat.zero_le _, Nat.zero_le _⟩ dX7_soonest_12 (g_rI ?_)
  refine g_ifB_eq (pc := 15) 21 dX7_soonest_15 (by decide) (fun h15 => absurd h15 (by rw [hb]; decide)) (fun h15 => ?_)
  refine g_bipush (pc := 18) ((-2)) (by decide) dX7_soonest_18 ?_
  exact g_iret (pc := 20) rfl dX7_soonest_20 ⟨rfl, rfl⟩
set_option maxRecDepth 100000 in
set_option maxHeartbeats 4000000 in
theorem kX7_soonest_ok (l : Launch) (E : gEnv) (M : gMem) (hR : mR E M) (hO : mO M) (hsg : M.1 66 10 < 1024) (j : Nat) (hj : j < M.1 60 11) (hb : (M.1 66 10).testBit j = false) : gMetI l E mX7_soonest 5 [.ref (gAd E 60), .int (nI j)] M (oN (sFr (fun z => sWhy (mV (gU M 66 j z)) ((gU M 66 j z).1 60 11) (mH (gU M 66 j z)) ((gU M 66 j z).1 60 12) ((gU M 66 j z).1 60 13) ((gU M 66 j z).1 60 14) ((gU M 66 j z).1 66 10) j == 0) (M.1 66 j) (52 - M.1 64 (7 * j + 4) - M.1 66 j))) := by
  have hO' := hO
  obtain ⟨hn, hk, hft, hto, hU, hH⟩ := hO
  have hO := hO'
  have hx : inR (nI j) (M.1 60 11) = true := by rw [inR_nI (by omega)]; exact decide_eq_true hj
  have hl4 : M.1 64 (7 * j + 4) + M.1 66 j ≤ 51 := (hU j hj).2.2.2.2.1
  refine gMet_of (mm := mX7_soonest) (h := 5) (M := M) [(0, .ref (gAd E 60)), (1, .int (nI j))] (by decide) (Nat.le_of_ble_eq_true rfl) rfl ?_
  refine g_aload_n (pc := 0) 0 rfl rfl dX7_soonest_0 ?_
  refine g_iload_n (pc := 1) 1 rfl rfl dX7_soonest_1 ?_
  refine g_callV (pc := 2) (mc := mX7_isOffer) (rest := []) lX7_141 iX7_isOffer (kX7_isOffer l E M hR hO hsg (nI j)) ⟨Nat.le_of_ble_eq_true rfl, Nat.le_of_ble_eq_true rfl⟩ hR.s0 (by decide) (by decide) rfl rfl rfl rfl (Nat.le_of_ble_eq_true rfl) ⟨Nat.zero_le _, Nat.zero_le _⟩ dX7_soonest_2 (g_rI ?_)
  refine g_ifB_ne (pc := 5) 10 dX7_soonest_5 (by decide) (fun h5 => ?_) (fun h5 => absurd h5 (by rw [hx]; decide))
  refine g_aload_n (pc := 10) 0 rfl rfl dX7_soonest_10 ?_
  refine g_iload_n (pc := 11) 1 rfl rfl dX7_soonest_11 ?_
  refine g_callV (pc := 12) (mc := mX7_isSigned) (rest := []) lX7_125 iX7_isSigned (kX7_isSigned l E M hR hsg j (by omega)) ⟨Nat.le_of_ble_eq_true rfl, Nat.le_of_ble_eq_true rfl⟩ hR.s0 (by decide) (by decide) rfl rfl rfl rfl (Nat.le_of_ble_eq_true rfl) ⟨Nat.zero_le _, Nat.zero_le _⟩ dX7_soonest_12 (g_rI ?_)
  refine g_ifB_eq (pc := 15) 21 dX7_soonest_15 (by decide) (fun h15 => ?_) (fun h15 => absurd h15 (by rw [hb]; decide))
  refine g_aload_n (pc := 21) 0 rfl rfl dX7_soonest_21 ?_
  refine fX7_25 (pc := 22) 66 rfl hR.s0 hR.r6 (by decide) dX7_soonest_22 ?_
  refine g_iload_n (pc := 25) 1 rfl rfl dX7_soonest_25 ?_
  refine g_iaload (pc := 26) hR.s6 (by rw [hR.l6]; omega) (by rw [hR.l6]; omega) dX7_soonest_26 ?_
  refine g_istore_n (pc := 27) rfl [(0, .ref (gAd E 60)), (1, .int (nI j)), (2, .int (nI (M.1 66 j)))] dX7_soonest_27 (by decide) rfl rfl ?_
  refine g_bipush (pc := 28) ((-4)) (by decide) dX7_soonest_28 ?_
  refine g_istore_n (pc := 30) rfl [(0, .ref (gAd E 60)), (1, .int (nI j)), (2, .int (nI (M.1 66 j))), (3, .int ((-4)))] dX7_soonest_30 (by decide) rfl rfl ?_
  refine g_iload_n (pc := 31) 2 rfl rfl dX7_soonest_31 ?_
  refine g_istore (pc := 32) [(0, .ref (gAd E 60)), (1, .int (nI j)), (2, .int (nI (M.1 66 j))), (3, .int ((-4))), (4, .int (nI (M.1 66 j)))] dX7_soonest_32 (by decide) rfl rfl ?_
  have lp34 : ∀ d, d ≤ 52 - M.1 64 (7 * j + 4) → ∀ m : Nat, (M.1 66 j ≤ d) → (sFr (fun z => sWhy (mV (gU M 66 j z)) ((gU M 66 j z).1 60 11) (mH (gU M 66 j z)) ((gU M 66 j z).1 60 12) ((gU M 66 j z).1 60 13) ((gU M 66 j z).1 60 14) ((gU M 66 j z).1 66 10) j == 0) (M.1 66 j) (52 - M.1 64 (7 * j + 4) - M.1 66 j) = sFr (fun z => sWhy (mV (gU M 66 j z)) ((gU M 66 j z).1 60 11) (mH (gU M 66 j z)) ((gU M 66 j z).1 60 12) ((gU M 66 j z).1 60 13) ((gU M 66 j z).1 60 14) ((gU M 66 j z).1 66 10) j == 0) d (52 - M.1 64 (7 * j + 4) - d)) → gG l (gV0 5 E (fun v u => v = some (.int (oN (sFr (fun z => sWhy (mV (gU M 66 j z)) ((gU M 66 j z).1 60 11) (mH (gU M 66 j z)) ((gU M 66 j z).1 60 12) ((gU M 66 j z).1 60 13) ((gU M 66 j z).1 60 14) ((gU M 66 j z).1 66 10) j == 0) (M.1 66 j) (52 - M.1 64 (7 * j + 4) - M.1 66 j)))) ∧ u = M)) mX7_soonest E (0, 0) (gU M 66 j m) 34 [(0, .ref (gAd E 60)), (1, .int (nI j)), (2, .int (nI (M.1 66 j))), (3, .int ((-4))), (4, .int (nI d))] [] := by
    refine gloop (fun d hid ihd => ?_)
    intro m
    intro hd0
    intro he
    refine g_aload_n (pc := 34) 0 rfl rfl dX7_soonest_34 ?_
    refine fX7_19 (pc := 35) 64 rfl hR.s0 hR.r4 (by decide) dX7_soonest_35 ?_
    refine g_bipush (pc := 38) (nI 7) (by decide) dX7_soonest_38 ?_
    refine g_iload_n (pc := 40) 1 rfl rfl dX7_soonest_40 ?_
    refine g_imulN (pc := 41) dX7_soonest_41 ?_
    refine g_iconst (pc := 42) (nI 4) (by decide) dX7_soonest_42 ?_
    refine g_iaddN (pc := 43) dX7_soonest_43 ?_
    refine g_iaload (pc := 44) hR.s4 (by rw [hR.l4]; omega) (by rw [hR.l4]; omega) dX7_soonest_44 ?_
    refine g_topi (pc := 45) (x' := nI (M.1 64 ((7 * j) + 4))) rfl ?_
    refine g_iload (pc := 45) 4 rfl dX7_soonest_45 ?_
    refine g_iaddN (pc := 47) dX7_soonest_47 ?_
    refine g_bipush (pc := 48) (nI 51) (by decide) dX7_soonest_48 ?_
    refine g_icmpN_gt (pc := 50) 89 dX7_soonest_50 (by decide) (by omega) (by omega) (fun h50 => ?_) (fun h50 => ?_)
    · refine g_aload_n (pc := 89) 0 rfl rfl dX7_soonest_89 ?_
      refine fX7_25 (pc := 90) 66 rfl hR.s0 hR.r6 (by decide) dX7_soonest_90 ?_
      refine g_iload_n (pc := 93) 1 rfl rfl dX7_soonest_93 ?_
      refine g_iload_n (pc := 94) 2 rfl rfl dX7_soonest_94 ?_
      refine g_iastore (pc := 95) hR.s6 (by rw [hR.l6]; omega) (by rw [hR.l6]; omega) dX7_soonest_95 ?_
      refine g_iload_n (pc := 96) 3 rfl rfl dX7_soonest_96 ?_
      exact g_iret (pc := 97) rfl dX7_soonest_97 ⟨congrArg (fun z => some (Value.int z)) (by rw [he, show 52 - M.1 64 (7 * j + 4) - d = 0 by omega]; rfl), by rw [gU_gU]; exact gU_me⟩
    · refine g_iload_n (pc := 53) 3 rfl rfl dX7_soonest_53 ?_
      refine g_bipush (pc := 54) ((-4)) (by decide) dX7_soonest_54 ?_
      refine g_icmp_ne (pc := 56) 89 dX7_soonest_56 (by decide) (fun h56 => absurd h56 (fun q => q rfl)) (fun h56 => ?_)
      refine g_aload_n (pc := 59) 0 rfl rfl dX7_soonest_59 ?_
      refine fX7_25 (pc := 60) 66 rfl hR.s0 hR.r6 (by decide) dX7_soonest_60 ?_
      refine g_iload_n (pc := 63) 1 rfl rfl dX7_soonest_63 ?_
      refine g_iload (pc := 64) 4 rfl dX7_soonest_64 ?_
      refine g_iastore (pc := 66) hR.s6 (by rw [hR.l6]; omega) (by rw [hR.l6]; omega) dX7_soonest_66 ?_
      refine g_mm (pc := 67) (M' := gU M 66 j d) gU_gU ?_
      have hO := mO_mv hO' hj (d := d) (by omega)
      have hsg : (gU M 66 j d).1 66 10 < 1024 := by rw [gU_k (by omega)]; exact hsg
      refine g_aload_n (pc := 67) 0 rfl rfl dX7_soonest_67 ?_
      refine g_iload_n (pc := 68) 1 rfl rfl dX7_soonest_68 ?_
      refine g_callV (pc := 69) (mc := mX7_whyOf) (rest := []) lX7_144 iX7_whyOf (kX7_whyOf l E (gU M 66 j d) hR hO hsg j hj) ⟨Nat.le_of_ble_eq_true rfl, Nat.le_of_ble_eq_true rfl⟩ hR.s0 (by decide) (by decide) rfl rfl rfl rfl (Nat.le_of_ble_eq_true rfl) ⟨Nat.zero_le _, Nat.zero_le _⟩ dX7_soonest_69 (g_rI ?_)
      refine g_ifN_ne (pc := 72) 80 dX7_soonest_72 (by decide) (Nat.lt_of_le_of_lt sWhy_le (by decide)) (fun h72 => ?_) (fun h72 => ?_)
      · refine g_bipush (pc := 80) ((-4)) (by decide) dX7_soonest_80 ?_
        refine g_istore_n (pc := 82) rfl [(0, .ref (gAd E 60)), (1, .int (nI j)), (2, .int (nI (M.1 66 j))), (3, .int ((-4))), (4, .int (nI d))] dX7_soonest_82 (by decide) rfl rfl ?_
        refine g_iincN (pc := 83) 1 4 [(0, .ref (gAd E 60)), (1, .int (nI j)), (2, .int (nI (M.1 66 j))), (3, .int ((-4))), (4, .int (nI (d + 1)))] rfl dX7_soonest_83 (by decide) rfl rfl ?_
        refine g_goto (pc := 86) 34 dX7_soonest_86 (by decide) ?_
        exact ihd (by omega) d (by omega) (by rw [he, sFr_step (by omega), if_neg (by simp only [beq_iff_eq]; omega)])
      · refine g_iload (pc := 75) 4 rfl dX7_soonest_75 ?_
        refine g_goto (pc := 77) 82 dX7_soonest_77 (by decide) ?_
        refine g_istore_n (pc := 82) rfl [(0, .ref (gAd E 60)), (1, .int (nI j)), (2, .int (nI (M.1 66 j))), (3, .int (nI d)), (4, .int (nI d))] dX7_soonest_82 (by decide) rfl rfl ?_
        refine g_iincN (pc := 83) 1 4 [(0, .ref (gAd E 60)), (1, .int (nI j)), (2, .int (nI (M.1 66 j))), (3, .int (nI d)), (4, .int (nI (d + 1)))] rfl dX7_soonest_83 (by decide) rfl rfl ?_
        refine g_goto (pc := 86) 34 dX7_soonest_86 (by decide) ?_
        refine g_aload_n (pc := 34) 0 rfl rfl dX7_soonest_34 ?_
        refine fX7_19 (pc := 35) 64 rfl hR.s0 hR.r4 (by decide) dX7_soonest_35 ?_
        refine g_bipush (pc := 38) (nI 7) (by decide) dX7_soonest_38 ?_
        refine g_iload_n (pc := 40) 1 rfl rfl dX7_soonest_40 ?_
        refine g_imulN (pc := 41) dX7_soonest_41 ?_
        refine g_iconst (pc := 42) (nI 4) (by decide) dX7_soonest_42 ?_
        refine g_iaddN (pc := 43) dX7_soonest_43 ?_
        refine g_iaload (pc := 44) hR.s4 (by rw [hR.l4]; omega) (by rw [hR.l4]; omega) dX7_soonest_44 ?_
        refine g_topi (pc := 45) (x' := nI (M.1 64 ((7 * j) + 4))) rfl ?_
        refine g_iload (pc := 45) 4 rfl dX7_soonest_45 ?_
        refine g_iaddN (pc := 47) dX7_soonest_47 ?_
        refine g_bipush (pc := 48) (nI 51) (by decide) dX7_soonest_48 ?_
        refine g_icmpN_gt (pc := 50) 89 dX7_soonest_50 (by decide) (by omega) (by omega) (fun h50 => ?_) (fun h50 => ?_)
        · refine g_aload_n (pc := 89) 0 rfl rfl dX7_soonest_89 ?_
          refine fX7_25 (pc := 90) 66 rfl hR.s0 hR.r6 (by decide) dX7_soonest_90 ?_
          refine g_iload_n (pc := 93) 1 rfl rfl dX7_soonest_93 ?_
          refine g_iload_n (pc := 94) 2 rfl rfl dX7_soonest_94 ?_
          refine g_iastore (pc := 95) hR.s6 (by rw [hR.l6]; omega) (by rw [hR.l6]; omega) dX7_soonest_95 ?_
          refine g_iload_n (pc := 96) 3 rfl rfl dX7_soonest_96 ?_
          exact g_iret (pc := 97) rfl dX7_soonest_97 ⟨congrArg (fun z => some (Value.int z)) (by rw [he, sFr_step (by omega), if_pos (by simp only [beq_iff_eq]; exact h72)]; rfl), by rw [gU_gU]; exact gU_me⟩
        · refine g_iload_n (pc := 53) 3 rfl rfl dX7_soonest_53 ?_
          refine g_bipush (pc := 54) ((-4)) (by decide) dX7_soonest_54 ?_
          refine g_icmp_ne (pc := 56) 89 dX7_soonest_56 (by decide) (fun h56 => ?_) (fun h56 => absurd h56 (oN_ne (x := d) (by omega)))
          refine g_aload_n (pc := 89) 0 rfl rfl dX7_soonest_89 ?_
          refine fX7_25 (pc := 90) 66 rfl hR.s0 hR.r6 (by decide) dX7_soonest_90 ?_
          refine g_iload_n (pc := 93) 1 rfl rfl dX7_soonest_93 ?_
          refine g_iload_n (pc := 94) 2 rfl rfl dX7_soonest_94 ?_
          refine g_iastore (pc := 95) hR.s6 (by rw [hR.l6]; omega) (by rw [hR.l6]; omega) dX7_soonest_95 ?_
          refine g_iload_n (pc := 96) 3 rfl rfl dX7_soonest_96 ?_
          exact g_iret (pc := 97) rfl dX7_soonest_97 ⟨congrArg (fun z => some (Value.int z)) (by rw [he, sFr_step (by omega), if_pos (by simp only [beq_iff_eq]; exact h72)]; rfl), by rw [gU_gU]; exact gU_me⟩
  refine g_mm (pc := 34) (M' := gU M 66 j (M.1 66 j)) gU_me.symm ?_
  exact lp34 (M.1 66 j) (by omega) (M.1 66 j) (Nat.le_refl _) rfl
