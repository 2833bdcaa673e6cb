theorem rIm_t {t : Nat → Nat} {L a : Nat} {nf : Nat → Nat} {s : aB} : rIm 116 t L a nf s = (if (mN t L 2 0 a nf).1 = true ∧ (mN t L 2 0 a nf).2.2 0 ≤ (mN t L 2 0 a nf).2.2 1 ∧ (mN t L 2 0 a nf).2.2 1 ≤ 51 then some ((mN t L 2 0 a nf).2.1, (mN t L 2 0 a nf).2.2, (s.1, s.2.1, (mN t L 2 0 a nf).2.2 0, (mN t L 2 0 a nf).2.2 1)) else none) := by simp only [rIm, if_true]
theorem rIm_o {t : Nat → Nat} {L a : Nat} {nf : Nat → Nat} {s : aB} : rIm 111 t L a nf s = (if s.1.1 < 10 ∧ (mN t L 7 0 a nf).1 = true ∧ oOk (mN t L 7 0 a nf).2.2 = true then some ((mN t L 7 0 a nf).2.1, (mN t L 7 0 a nf).2.2, ((s.1.1 + 1, updR s.1.2 s.1.1 (mN t L 7 0 a nf).2.2), s.2)) else none) := by
  unfold rIm; rw [if_neg (by decide), if_pos rfl]
theorem rIm_h {t : Nat → Nat} {L a : Nat} {nf : Nat → Nat} {s : aB} : rIm 104 t L a nf s = (if s.2.1.1 < 4 ∧ (mN t L 3 0 a nf).1 = true ∧ hTold (mN t L 3 0 a nf).2.2 = true then some ((mN t L 3 0 a nf).2.1, (mN t L 3 0 a nf).2.2, (s.1, (s.2.1.1 + 1, updR s.2.1.2 s.2.1.1 (mN t L 3 0 a nf).2.2), s.2.2)) else none) := by
  unfold rIm; rw [if_neg (by decide), if_neg (by decide), if_pos rfl]
theorem fRm_po {M u : gMem} {f : Nat → Nat} (h : fRm M u) : fRm M (mPO u f) := by
  unfold mPO
  exact fRm_U (fRm_U (fRm_U (fRm_U (fRm_U (fRm_U (fRm_U (fRm_U h (Or.inl rfl)) (Or.inl rfl)) (Or.inl rfl)) (Or.inl rfl)) (Or.inl rfl)) (Or.inl rfl)) (Or.inl rfl)) (by decide)
theorem fRm_ph {M u : gMem} {f : Nat → Nat} (h : fRm M u) : fRm M (mPH u f) := by
  unfold mPH
  exact fRm_U (fRm_U (fRm_U (fRm_U h (Or.inr (Or.inl rfl))) (Or.inr (Or.inl rfl))) (Or.inr (Or.inl rfl))) (by decide)
set_option maxRecDepth 100000 in
set_option maxHeartbeats 4000000 in
theorem kX7_readTerm (l : Launch) (E : gEnv) (M : gMem) (hR : mR E M) (hL : M.1 60 1 ≤ 200) (ha : M.1 60 2 ≤ M.1 60 1) (hT : ∀ p, p < M.1 60 1 → M.1 61 p ≤ 126) (hN : ∀ i, M.1 68 i < 100) (st : aB) (hst : aOk st) (hRp : mRep M st) : gMet l E mX7_readTerm 3 [.ref (gAd E 60)] M (fun v u => fRm M u ∧ (∀ i, u.1 68 i < 100) ∧ qItm (rIm 116 (M.1 61) (M.1 60 1) (M.1 60 2) (M.1 68) st) v u) := by
  refine gMet_of (mm := mX7_readTerm) (h := 3) (M := M) [(0, .ref (gAd E 60))] (by decide) (Nat.le_of_ble_eq_true rfl) rfl ?_
  refine g_aload_n (pc := 0) 0 rfl rfl dX7_readTerm_0 ?_
  refine g_iconst (pc := 1) (nI 2) (by decide) dX7_readTerm_1 ?_
  refine g_callV (pc := 2) (mc := mX7_readNumbers) (rest := []) lX7_90 iX7_readNumbers (kX7_readNumbers l E M hR hL ha hT 2 (by decide)) ⟨Nat.le_of_ble_eq_true rfl, Nat.le_of_ble_eq_true rfl⟩ hR.s0 (by decide) (by decide) rfl rfl rfl rfl (Nat.le_of_ble_eq_true rfl) ⟨Nat.zero_le _, Nat.zero_le _⟩ dX7_readTerm_2 ?_
  intro v u hq
  obtain ⟨rfl, rfl⟩ := hq
  have hle := mN_le (t := M.1 61) (L := M.1 60 1) 2 0 (M.1 60 2) (M.1 68) ha hN
  obtain ⟨bb, a2, nf, hA⟩ : ∃ bb a2 nf, mN (M.1 61) (M.1 60 1) 2 0 (M.1 60 2) (M.1 68) = (bb, a2, nf) := ⟨_, _, _, rfl⟩
  rw [hA] at hle ⊢
  have n0 : nf 0 < 100 := hle.2 0
  have n1 : nf 1 < 100 := hle.2 1
  have n2 : nf 2 < 100 := hle.2 2
  have n3 : nf 3 < 100 := hle.2 3
  have n4 : nf 4 < 100 := hle.2 4
  have n5 : nf 5 < 100 := hle.2 5
  have n6 : nf 6 < 100 := hle.2 6
  have hle2 : ∀ i, nf i < 100 := hle.2
  show gG l (gV0 3 E _) mX7_readTerm E (0, 0) (mAt M a2 nf) 5 [(0, .ref (gAd E 60))] [.int (gb bb)]
  refine g_ifB_eq (pc := 5) 34 dX7_readTerm_5 (by decide) (fun h5 => ?_) (fun h5 => ?_)
  · refine g_iconst (pc := 34) (nI 0) (by decide) dX7_readTerm_34 ?_
    refine g_topi (pc := 35) (x' := gb false) (by decide) ?_
    exact g_zret (pc := 35) rfl dX7_readTerm_35 ⟨fRm_at M a2 nf, hle2, qM_n (by rw [rIm_t, hA]; exact if_neg (fun z => by have z1 : bb = true := z.1; rw [h5] at z1; cases z1))⟩
  · refine g_aload_n (pc := 8) 0 rfl rfl dX7_readTerm_8 ?_
    refine fX7_31 (pc := 9) 68 rfl hR.s0 hR.r8 (by decide) dX7_readTerm_9 ?_
    refine g_iconst (pc := 12) (nI 1) (by decide) dX7_readTerm_12 ?_
    refine g_iaload (pc := 13) hR.s8 (by rw [hR.l8]; omega) (by rw [hR.l8]; omega) dX7_readTerm_13 ?_
    refine g_topi (pc := 14) (x' := nI (nf 1)) rfl ?_
    refine g_bipush (pc := 14) (nI 51) (by decide) dX7_readTerm_14 ?_
    refine g_icmpN_gt (pc := 16) 34 dX7_readTerm_16 (by decide) (by omega) (by omega) (fun h16 => ?_) (fun h16 => ?_)
    · refine g_iconst (pc := 34) (nI 0) (by decide) dX7_readTerm_34 ?_
      refine g_topi (pc := 35) (x' := gb false) (by decide) ?_
      exact g_zret (pc := 35) rfl dX7_readTerm_35 ⟨fRm_at M a2 nf, hle2, qM_n (by rw [rIm_t, hA]; exact if_neg (fun z => by have z3 : nf 1 ≤ 51 := z.2.2; omega))⟩
    · refine g_aload_n (pc := 19) 0 rfl rfl dX7_readTerm_19 ?_
      refine fX7_31 (pc := 20) 68 rfl hR.s0 hR.r8 (by decide) dX7_readTerm_20 ?_
      refine g_iconst (pc := 23) (nI 0) (by decide) dX7_readTerm_23 ?_
      refine g_iaload (pc := 24) hR.s8 (by rw [hR.l8]; omega) (by rw [hR.l8]; omega) dX7_readTerm_24 ?_
      refine g_topi (pc := 25) (x' := nI (nf 0)) rfl ?_
      refine g_aload_n (pc := 25) 0 rfl rfl dX7_readTerm_25 ?_
      refine fX7_31 (pc := 26) 68 rfl hR.s0 hR.r8 (by decide) dX7_readTerm_26 ?_
      refine g_iconst (pc := 29) (nI 1) (by decide) dX7_readTerm_29 ?_
      refine g_iaload (pc := 30) hR.s8 (by rw [hR.l8]; omega) (by rw [hR.l8]; omega) dX7_readTerm_30 ?_
      refine g_topi (pc := 31) (x' := nI (nf 1)) rfl ?_
      refine g_icmpN_le (pc := 31) 36 dX7_readTerm_31 (by decide) (by omega) (by omega) (fun h31 => ?_) (fun h31 => ?_)
      · refine g_aload_n (pc := 36) 0 rfl rfl dX7_readTerm_36 ?_
        refine g_aload_n (pc := 37) 0 rfl rfl dX7_readTerm_37 ?_
        refine fX7_31 (pc := 38) 68 rfl hR.s0 hR.r8 (by decide) dX7_readTerm_38 ?_
        refine g_iconst (pc := 41) (nI 0) (by decide) dX7_readTerm_41 ?_
        refine g_iaload (pc := 42) hR.s8 (by rw [hR.l8]; omega) (by rw [hR.l8]; omega) dX7_readTerm_42 ?_
        refine g_topi (pc := 43) (x' := nI (nf 0)) rfl ?_
        refine uX7_37 (pc := 43) rfl hR.s0 dX7_readTerm_43 ?_
        refine g_aload_n (pc := 46) 0 rfl rfl dX7_readTerm_46 ?_
        refine g_aload_n (pc := 47) 0 rfl rfl dX7_readTerm_47 ?_
        refine fX7_31 (pc := 48) 68 rfl hR.s0 hR.r8 (by decide) dX7_readTerm_48 ?_
        refine g_iconst (pc := 51) (nI 1) (by decide) dX7_readTerm_51 ?_
        refine g_iaload (pc := 52) hR.s8 (by rw [hR.l8]; omega) (by rw [hR.l8]; omega) dX7_readTerm_52 ?_
        refine g_topi (pc := 53) (x' := nI (nf 1)) rfl ?_
        refine uX7_41 (pc := 53) rfl hR.s0 dX7_readTerm_53 ?_
        refine g_iconst (pc := 56) (nI 1) (by decide) dX7_readTerm_56 ?_
        refine g_topi (pc := 57) (x' := gb true) (by decide) ?_
        exact g_zret (pc := 57) rfl dX7_readTerm_57 ⟨fRm_U (fRm_U (fRm_at M a2 nf) (by decide)) (by decide), hle2, qM_s (by rw [rIm_t, hA]; exact if_pos ⟨h5, h31, h16⟩) (mRep_t (mRep_at hRp)) rfl rfl⟩
      · refine g_iconst (pc := 34) (nI 0) (by decide) dX7_readTerm_34 ?_
        refine g_topi (pc := 35) (x' := gb false) (by decide) ?_
        exact g_zret (pc := 35) rfl dX7_readTerm_35 ⟨fRm_at M a2 nf, hle2, qM_n (by rw [rIm_t, hA]; exact if_neg (fun z => by have z2 : nf 0 ≤ nf 1 := z.2.1; omega))⟩
set_option maxRecDepth 100000 in
set_option maxHeartbeats 4000000 in
theorem kX7_readOffer (l : Launch) (E : gEnv) (M : gMem) (hR : mR E M) (hL : M.1 60 1 ≤ 200) (ha : M.1 60 2 ≤ M.1 60 1) (hT : ∀ p, p < M.1 60 1 → M.1 61 p ≤ 126) (hN : ∀ i, M.1 68 i < 100) (st : aB) (hst : aOk st) (hRp : mRep M st) : gMet l E mX7_readOffer 3 [.ref (gAd E 60)] M (fun v u => fRm M u ∧ (∀ i, u.1 68 i < 100) ∧ qItm (rIm 111 (M.1 61) (M.1 60 1) (M.1 60 2) (M.1 68) st) v u) := by
  refine gMet_of (mm := mX7_readOffer) (h := 3) (M := M) [(0, .ref (gAd E 60))] (by decide) (Nat.le_of_ble_eq_true rfl) rfl ?_
  have hn1 := hRp.1
  have hn10 := hst.1
  refine g_aload_n (pc := 0) 0 rfl rfl dX7_readOffer_0 ?_
  refine fX7_55 (pc := 1) rfl hR.s0 dX7_readOffer_1 ?_
  refine g_bipush (pc := 4) (nI 10) (by decide) dX7_readOffer_4 ?_
  refine g_icmpN_eq (pc := 6) 63 dX7_readOffer_6 (by decide) (by omega) (by omega) (fun h6 => ?_) (fun h6 => ?_)
  · refine g_iconst (pc := 63) (nI 0) (by decide) dX7_readOffer_63 ?_
    refine g_topi (pc := 64) (x' := gb false) (by decide) ?_
    exact g_zret (pc := 64) rfl dX7_readOffer_64 ⟨fRm_rf M, hN, qM_n (by rw [rIm_o]; exact if_neg (fun z => by have := z.1; omega))⟩
  · refine g_aload_n (pc := 9) 0 rfl rfl dX7_readOffer_9 ?_
    refine g_bipush (pc := 10) (nI 7) (by decide) dX7_readOffer_10 ?_
    refine g_callV (pc := 12) (mc := mX7_readNumbers) (rest := []) lX7_90 iX7_readNumbers (kX7_readNumbers l E M hR hL ha hT 7 (by decide)) ⟨Nat.le_of_ble_eq_true rfl, Nat.le_of_ble_eq_true rfl⟩ hR.s0 (by decide) (by decide) rfl rfl rfl rfl (Nat.le_of_ble_eq_true rfl) ⟨Nat.zero_le _, Nat.zero_le _⟩ dX7_readOffer_12 ?_
    intro v u hq
    obtain ⟨rfl, rfl⟩ := hq
    have hle := mN_le (t := M.1 61) (L := M.1 60 1) 7 0 (M.1 60 2) (M.1 68) ha hN
    obtain ⟨bb, a2, nf, hA⟩ : ∃ bb a2 nf, mN (M.1 61) (M.1 60 1) 7 0 (M.1 60 2) (M.1 68) = (bb, a2, nf) := ⟨_, _, _, rfl⟩
    rw [hA] at hle ⊢
    have n0 : nf 0 < 100 := hle.2 0
    have n1 : nf 1 < 100 := hle.2 1
    have n2 : nf 2 < 100 := hle.2 2
    have n3 : nf 3 < 100 := hle.2 3
    have n4 : nf 4 < 100 := hle.2 4
    have n5 : nf 5 < 100 := hle.2 5
    have n6 : nf 6 < 100 := hle.2 6
    have hle2 : ∀ i, nf i < 100 := hle.2
    show gG l (gV0 3 E _) mX7_readOffer E (0, 0) (mAt M a2 nf) 15 [(0, .ref (gAd E 60))] [.int (gb bb)]
    refine g_ifB_eq (pc := 15) 63 dX7_readOffer_15 (by decide) (fun h15 => ?_) (fun h15 => ?_)
    · refine g_iconst (pc := 63) (nI 0) (by decide) dX7_readOffer_63 ?_
      refine g_topi (pc := 64) (x' := gb false) (by decide) ?_
      exact g_zret (pc := 64) rfl dX7_readOffer_64 ⟨fRm_at M a2 nf, hle2, qM_n (by rw [rIm_o, hA]; exact if_neg (fun z => by have z1 : bb = true := z.2.1; rw [h15] at z1; cases z1))⟩
    · refine g_aload_n (pc := 18) 0 rfl rfl dX7_readOffer_18 ?_
      refine fX7_31 (pc := 19) 68 rfl hR.s0 hR.r8 (by decide) dX7_readOffer_19 ?_
      refine g_iconst (pc := 22) (nI 0) (by decide) dX7_readOffer_22 ?_
      refine g_iaload (pc := 23) hR.s8 (by rw [hR.l8]; omega) (by rw [hR.l8]; omega) dX7_readOffer_23 ?_
      refine g_topi (pc := 24) (x' := nI (nf 0)) rfl ?_
      refine g_iconst (pc := 24) (nI 1) (by decide) dX7_readOffer_24 ?_
      refine g_bipush (pc := 25) (nI 63) (by decide) dX7_readOffer_25 ?_
      refine g_callS (pc := 27) (mc := mX7_in) (rest := []) lX7_82 iX7_in (kX7_inN l E (mAt M a2 nf) (nf 0) 1 63 (by omega) (by omega) (by omega)) ⟨Nat.le_of_ble_eq_true rfl, Nat.le_of_ble_eq_true rfl⟩ rfl rfl (Nat.le_of_ble_eq_true rfl) ⟨Nat.zero_le _, Nat.zero_le _⟩ dX7_readOffer_27 (g_rI ?_)
      refine g_ifB_eq (pc := 30) 63 dX7_readOffer_30 (by decide) (fun h30 => ?_) (fun h30 => ?_)
      · refine g_iconst (pc := 63) (nI 0) (by decide) dX7_readOffer_63 ?_
        refine g_topi (pc := 64) (x' := gb false) (by decide) ?_
        exact g_zret (pc := 64) rfl dX7_readOffer_64 ⟨fRm_at M a2 nf, hle2, qM_n (by rw [rIm_o, hA]; exact if_neg (fun z => by have z3 := of_decide_eq_true (show oOk nf = true from z.2.2); have := of_decide_eq_false h30; omega))⟩
      · refine g_aload_n (pc := 33) 0 rfl rfl dX7_readOffer_33 ?_
        refine fX7_31 (pc := 34) 68 rfl hR.s0 hR.r8 (by decide) dX7_readOffer_34 ?_
        refine g_iconst (pc := 37) (nI 1) (by decide) dX7_readOffer_37 ?_
        refine g_iaload (pc := 38) hR.s8 (by rw [hR.l8]; omega) (by rw [hR.l8]; omega) dX7_readOffer_38 ?_
        refine g_topi (pc := 39) (x' := nI (nf 1)) rfl ?_
        refine g_iconst (pc := 39) (nI 1) (by decide) dX7_readOffer_39 ?_
        refine g_bipush (pc := 40) (nI 15) (by decide) dX7_readOffer_40 ?_
        refine g_callS (pc := 42) (mc := mX7_in) (rest := []) lX7_82 iX7_in (kX7_inN l E (mAt M a2 nf) (nf 1) 1 15 (by omega) (by omega) (by omega)) ⟨Nat.le_of_ble_eq_true rfl, Nat.le_of_ble_eq_true rfl⟩ rfl rfl (Nat.le_of_ble_eq_true rfl) ⟨Nat.zero_le _, Nat.zero_le _⟩ dX7_readOffer_42 (g_rI ?_)
        refine g_ifB_eq (pc := 45) 63 dX7_readOffer_45 (by decide) (fun h45 => ?_) (fun h45 => ?_)
        · refine g_iconst (pc := 63) (nI 0) (by decide) dX7_readOffer_63 ?_
          refine g_topi (pc := 64) (x' := gb false) (by decide) ?_
          exact g_zret (pc := 64) rfl dX7_readOffer_64 ⟨fRm_at M a2 nf, hle2, qM_n (by rw [rIm_o, hA]; exact if_neg (fun z => by have z3 := of_decide_eq_true (show oOk nf = true from z.2.2); have := of_decide_eq_false h45; omega))⟩
        · refine g_aload_n (pc := 48) 0 rfl rfl dX7_readOffer_48 ?_
          refine fX7_31 (pc := 49) 68 rfl hR.s0 hR.r8 (by decide) dX7_readOffer_49 ?_
          refine g_iconst (pc := 52) (nI 2) (by decide) dX7_readOffer_52 ?_
          refine g_iaload (pc := 53) hR.s8 (by rw [hR.l8]; omega) (by rw [hR.l8]; omega) dX7_readOffer_53 ?_
          refine g_topi (pc := 54) (x' := nI (nf 2)) rfl ?_
          refine g_iconst (pc := 54) (nI 1) (by decide) dX7_readOffer_54 ?_
          refine g_bipush (pc := 55) (nI 15) (by decide) dX7_readOffer_55 ?_
          refine g_callS (pc := 57) (mc := mX7_in) (rest := []) lX7_82 iX7_in (kX7_inN l E (mAt M a2 nf) (nf 2) 1 15 (by omega) (by omega) (by omega)) ⟨Nat.le_of_ble_eq_true rfl, Nat.le_of_ble_eq_true rfl⟩ rfl rfl (Nat.le_of_ble_eq_true rfl) ⟨Nat.zero_le _, Nat.zero_le _⟩ dX7_readOffer_57 (g_rI ?_)
          refine g_ifB_ne (pc := 60) 65 dX7_readOffer_60 (by decide) (fun h60 => ?_) (fun h60 => ?_)
          · refine g_aload_n (pc := 65) 0 rfl rfl dX7_readOffer_65 ?_
            refine fX7_31 (pc := 66) 68 rfl hR.s0 hR.r8 (by decide) dX7_readOffer_66 ?_
            refine g_iconst (pc := 69) (nI 4) (by decide) dX7_readOffer_69 ?_
            refine g_iaload (pc := 70) hR.s8 (by rw [hR.l8]; omega) (by rw [hR.l8]; omega) dX7_readOffer_70 ?_
            refine g_topi (pc := 71) (x' := nI (nf 4)) rfl ?_
            refine g_bipush (pc := 71) (nI 51) (by decide) dX7_readOffer_71 ?_
            refine g_icmpN_gt (pc := 73) 112 dX7_readOffer_73 (by decide) (by omega) (by omega) (fun h73 => ?_) (fun h73 => ?_)
            · refine g_iconst (pc := 112) (nI 0) (by decide) dX7_readOffer_112 ?_
              refine g_topi (pc := 113) (x' := gb false) (by decide) ?_
              exact g_zret (pc := 113) rfl dX7_readOffer_113 ⟨fRm_at M a2 nf, hle2, qM_n (by rw [rIm_o, hA]; exact if_neg (fun z => by have z3 := of_decide_eq_true (show oOk nf = true from z.2.2); omega))⟩
            · refine g_aload_n (pc := 76) 0 rfl rfl dX7_readOffer_76 ?_
              refine fX7_31 (pc := 77) 68 rfl hR.s0 hR.r8 (by decide) dX7_readOffer_77 ?_
              refine g_iconst (pc := 80) (nI 3) (by decide) dX7_readOffer_80 ?_
              refine g_iaload (pc := 81) hR.s8 (by rw [hR.l8]; omega) (by rw [hR.l8]; omega) dX7_readOffer_81 ?_
              refine g_topi (pc := 82) (x' := nI (nf 3)) rfl ?_
              refine g_aload_n (pc := 82) 0 rfl rfl dX7_readOffer_82 ?_
              refine fX7_31 (pc := 83) 68 rfl hR.s0 hR.r8 (by decide) dX7_readOffer_83 ?_
              refine g_iconst (pc := 86) (nI 4) (by decide) dX7_readOffer_86 ?_
              refine g_iaload (pc := 87) hR.s8 (by rw [hR.l8]; omega) (by rw [hR.l8]; omega) dX7_readOffer_87 ?_
              refine g_topi (pc := 88) (x' := nI (nf 4)) rfl ?_
              refine g_icmpN_gt (pc := 88) 112 dX7_readOffer_88 (by decide) (by omega) (by omega) (fun h88 => ?_) (fun h88 => ?_)
              · refine g_iconst (pc := 112) (nI 0) (by decide) dX7_readOffer_112 ?_
                refine g_topi (pc := 113) (x' := gb false) (by decide) ?_
                exact g_zret (pc := 113) rfl dX7_readOffer_113 ⟨fRm_at M a2 nf, hle2, qM_n (by rw [rIm_o, hA]; exact if_neg (fun z => by have z3 := of_decide_eq_true (show oOk nf = true from z.2.2); omega))⟩
              · refine g_aload_n (pc := 91) 0 rfl rfl dX7_readOffer_91 ?_
                refine fX7_31 (pc := 92) 68 rfl hR.s0 hR.r8 (by decide) dX7_readOffer_92 ?_
                refine g_iconst (pc := 95) (nI 5) (by decide) dX7_readOffer_95 ?_
                refine g_iaload (pc := 96) hR.s8 (by rw [hR.l8]; omega) (by rw [hR.l8]; omega) dX7_readOffer_96 ?_
                refine g_topi (pc := 97) (x' := nI (nf 5)) rfl ?_
                refine g_iconst (pc := 97) (nI 1) (by decide) dX7_readOffer_97 ?_
                refine g_icmpN_gt (pc := 98) 112 dX7_readOffer_98 (by decide) (by omega) (by omega) (fun h98 => ?_) (fun h98 => ?_)
                · refine g_iconst (pc := 112) (nI 0) (by decide) dX7_readOffer_112 ?_
                  refine g_topi (pc := 113) (x' := gb false) (by decide) ?_
                  exact g_zret (pc := 113) rfl dX7_readOffer_113 ⟨fRm_at M a2 nf, hle2, qM_n (by rw [rIm_o, hA]; exact if_neg (fun z => by have z3 := of_decide_eq_true (show oOk nf = true from z.2.2); omega))⟩
                · refine g_aload_n (pc := 101) 0 rfl rfl dX7_readOffer_101 ?_
                  refine fX7_31 (pc := 102) 68 rfl hR.s0 hR.r8 (by decide) dX7_readOffer_102 ?_
                  refine g_bipush (pc := 105) (nI 6) (by decide) dX7_readOffer_105 ?_
                  refine g_iaload (pc := 107) hR.s8 (by rw [hR.l8]; omega) (by rw [hR.l8]; omega) dX7_readOffer_107 ?_
                  refine g_topi (pc := 108) (x' := nI (nf 6)) rfl ?_
                  refine g_iconst (pc := 108) (nI 1) (by decide) dX7_readOffer_108 ?_
                  refine g_icmpN_ge (pc := 109) 114 dX7_readOffer_109 (by decide) (by omega) (by omega) (fun h109 => ?_) (fun h109 => ?_)
                  · refine g_aload_n (pc := 114) 0 rfl rfl dX7_readOffer_114 ?_
                    refine g_aload_n (pc := 115) 0 rfl rfl dX7_readOffer_115 ?_
                    refine fX7_31 (pc := 116) 68 rfl hR.s0 hR.r8 (by decide) dX7_readOffer_116 ?_
                    refine g_iconst (pc := 119) (nI 0) (by decide) dX7_readOffer_119 ?_
                    refine g_iaload (pc := 120) hR.s8 (by rw [hR.l8]; omega) (by rw [hR.l8]; omega) dX7_readOffer_120 ?_
                    refine g_topi (pc := 121) (x' := nI (nf 0)) rfl ?_
                    refine g_aload_n (pc := 121) 0 rfl rfl dX7_readOffer_121 ?_
                    refine fX7_31 (pc := 122) 68 rfl hR.s0 hR.r8 (by decide) dX7_readOffer_122 ?_
                    refine g_iconst (pc := 125) (nI 1) (by decide) dX7_readOffer_125 ?_
                    refine g_iaload (pc := 126) hR.s8 (by rw [hR.l8]; omega) (by rw [hR.l8]; omega) dX7_readOffer_126 ?_
                    refine g_topi (pc := 127) (x' := nI (nf 1)) rfl ?_
                    refine g_aload_n (pc := 127) 0 rfl rfl dX7_readOffer_127 ?_
                    refine fX7_31 (pc := 128) 68 rfl hR.s0 hR.r8 (by decide) dX7_readOffer_128 ?_
                    refine g_iconst (pc := 131) (nI 2) (by decide) dX7_readOffer_131 ?_
                    refine g_iaload (pc := 132) hR.s8 (by rw [hR.l8]; omega) (by rw [hR.l8]; omega) dX7_readOffer_132 ?_
                    refine g_topi (pc := 133) (x' := nI (nf 2)) rfl ?_
                    refine g_aload_n (pc := 133) 0 rfl rfl dX7_readOffer_133 ?_
                    refine fX7_31 (pc := 134) 68 rfl hR.s0 hR.r8 (by decide) dX7_readOffer_134 ?_
                    refine g_iconst (pc := 137) (nI 3) (by decide) dX7_readOffer_137 ?_
                    refine g_iaload (pc := 138) hR.s8 (by rw [hR.l8]; omega) (by rw [hR.l8]; omega) dX7_readOffer_138 ?_
                    refine g_topi (pc := 139) (x' := nI (nf 3)) rfl ?_
                    refine g_aload_n (pc := 139) 0 rfl rfl dX7_readOffer_139 ?_
                    refine fX7_31 (pc := 140) 68 rfl hR.s0 hR.r8 (by decide) dX7_readOffer_140 ?_
                    refine g_iconst (pc := 143) (nI 4) (by decide) dX7_readOffer_143 ?_
                    refine g_iaload (pc := 144) hR.s8 (by rw [hR.l8]; omega) (by rw [hR.l8]; omega) dX7_readOffer_144 ?_
                    refine g_topi (pc := 145) (x' := nI (nf 4)) rfl ?_
                    refine g_aload_n (pc := 145) 0 rfl rfl dX7_readOffer_145 ?_
                    refine fX7_31 (pc := 146) 68 rfl hR.s0 hR.r8 (by decide) dX7_readOffer_146 ?_
                    refine g_iconst (pc := 149) (nI 5) (by decide) dX7_readOffer_149 ?_
                    refine g_iaload (pc := 150) hR.s8 (by rw [hR.l8]; omega) (by rw [hR.l8]; omega) dX7_readOffer_150 ?_
                    refine g_topi (pc := 151) (x' := nI (nf 5)) rfl ?_
                    refine g_aload_n (pc := 151) 0 rfl rfl dX7_readOffer_151 ?_
                    refine fX7_31 (pc := 152) 68 rfl hR.s0 hR.r8 (by decide) dX7_readOffer_152 ?_
                    refine g_bipush (pc := 155) (nI 6) (by decide) dX7_readOffer_155 ?_
                    refine g_iaload (pc := 157) hR.s8 (by rw [hR.l8]; omega) (by rw [hR.l8]; omega) dX7_readOffer_157 ?_
                    refine g_topi (pc := 158) (x' := nI (nf 6)) rfl ?_
                    refine g_callV (pc := 158) (mc := mX7_putOffer) (rest := []) lX7_44 iX7_putOffer (kX7_putOffer l E (mAt M a2 nf) hR nf (show M.1 60 5 < 10 by omega)) ⟨Nat.le_of_ble_eq_true rfl, Nat.le_of_ble_eq_true rfl⟩ hR.s0 (by decide) (by decide) rfl rfl rfl rfl (Nat.le_of_ble_eq_true rfl) ⟨Nat.zero_le _, Nat.zero_le _⟩ dX7_readOffer_158 (g_rU ?_)
                    refine g_iconst (pc := 161) (nI 1) (by decide) dX7_readOffer_161 ?_
                    refine g_topi (pc := 162) (x' := gb true) (by decide) ?_
                    exact g_zret (pc := 162) rfl dX7_readOffer_162 ⟨fRm_po (fRm_at M a2 nf), hle2, qM_s (by rw [rIm_o, hA]; exact if_pos ⟨by omega, h15, decide_eq_true (by have q0 := of_decide_eq_true h30; have q1 := of_decide_eq_true h45; have q2 := of_decide_eq_true h60; show 1 ≤ nf 0 ∧ nf 0 < 64 ∧ 1 ≤ nf 1 ∧ nf 1 < 16 ∧ 1 ≤ nf 2 ∧ nf 2 < 16 ∧ nf 3 ≤ nf 4 ∧ nf 4 ≤ 51 ∧ nf 5 < 2 ∧ 1 ≤ nf 6 ∧ nf 6 ≤ 99; omega)⟩) (mRep_o (mRep_at hRp)) rfl rfl⟩
                  · refine g_iconst (pc := 112) (nI 0) (by decide) dX7_readOffer_112 ?_
                    refine g_topi (pc := 113) (x' := gb false) (by decide) ?_
                    exact g_zret (pc := 113) rfl dX7_readOffer_113 ⟨fRm_at M a2 nf, hle2, qM_n (by rw [rIm_o, hA]; exact if_neg (fun z => by have z3 := of_decide_eq_true (show oOk nf = true from z.2.2); omega))⟩
          · refine g_iconst (pc := 63) (nI 0) (by decide) dX7_readOffer_63 ?_
            refine g_topi (pc := 64) (x' := gb false) (by decide) ?_
            exact g_zret (pc := 64) rfl dX7_readOffer_64 ⟨fRm_at M a2 nf, hle2, qM_n (by rw [rIm_o, hA]; exact if_neg (fun z => by have z3 := of_decide_eq_true (show oOk nf = true from z.2.2); have := of_decide_eq_false h60; omega))⟩
set_option maxRecDepth 100000 in
set_option maxHeartbeats 4000000 in
theorem kX7_readHold (l : Launch) (E : gEnv) (M : gMem) (hR : mR E M) (hL : M.1 60 1 ≤ 200) (ha : M.1 60 2 ≤ M.1 60 1) (hT : ∀ p, p < M.1 60 1 → M.1 61 p ≤ 126) (hN : ∀ i, M.1 68 i < 100) (st : aB) (hst : aOk st) (hRp : mRep M st) : gMet l E mX7_readHold 3 [.ref (gAd E 60)] M (fun v u => fRm M u ∧ (∀ i, u.1 68 i < 100) ∧ qItm (rIm 104 (M.1 61) (M.1 60 1) (M.1 60 2) (M.1 68) st) v u) := by
  refine gMet_of (mm := mX7_readHold) (h := 3) (M := M) [(0, .ref (gAd E 60))] (by decide) (Nat.le_of_ble_eq_true rfl) rfl ?_
  have hn1 := hRp.2.1
  have hn10 := hst.2.1
  refine g_aload_n (pc := 0) 0 rfl rfl dX7_readHold_0 ?_
  refine fX7_58 (pc := 1) rfl hR.s0 dX7_readHold_1 ?_
  refine g_iconst (pc := 4) (nI 4) (by decide) dX7_readHold_4 ?_
  refine g_icmpN_eq (pc := 5) 66 dX7_readHold_5 (by decide) (by omega) (by omega) (fun h5 => ?_) (fun h5 => ?_)
  · refine g_iconst (pc := 66) (nI 0) (by decide) dX7_readHold_66 ?_
    refine g_topi (pc := 67) (x' := gb false) (by decide) ?_
    exact g_zret (pc := 67) rfl dX7_readHold_67 ⟨fRm_rf M, hN, qM_n (by rw [rIm_h]; exact if_neg (fun z => by have := z.1; omega))⟩
  · refine g_aload_n (pc := 8) 0 rfl rfl dX7_readHold_8 ?_
    refine g_iconst (pc := 9) (nI 3) (by decide) dX7_readHold_9 ?_
    refine g_callV (pc := 10) (mc := mX7_readNumbers) (rest := []) lX7_90 iX7_readNumbers (kX7_readNumbers l E M hR hL ha hT 3 (by decide)) ⟨Nat.le_of_ble_eq_true rfl, Nat.le_of_ble_eq_true rfl⟩ hR.s0 (by decide) (by decide) rfl rfl rfl rfl (Nat.le_of_ble_eq_true rfl) ⟨Nat.zero_le _, Nat.zero_le _⟩ dX7_readHold_10 ?_
    intro v u hq
    obtain ⟨rfl, rfl⟩ := hq
    have hle := mN_le (t := M.1 61) (L := M.1 60 1) 3 0 (M.1 60 2) (M.1 68) ha hN
    obtain ⟨bb, a2, nf, hA⟩ : ∃ bb a2 nf, mN (M.1 61) (M.1 60 1) 3 0 (M.1 60 2) (M.1 68) = (bb, a2, nf) := ⟨_, _, _, rfl⟩
    rw [hA] at hle ⊢
    have n0 : nf 0 < 100 := hle.2 0
    have n1 : nf 1 < 100 := hle.2 1
    have n2 : nf 2 < 100 := hle.2 2
    have n3 : nf 3 < 100 := hle.2 3
    have n4 : nf 4 < 100 := hle.2 4
    have n5 : nf 5 < 100 := hle.2 5
    have n6 : nf 6 < 100 := hle.2 6
    have hle2 : ∀ i, nf i < 100 := hle.2
    show gG l (gV0 3 E _) mX7_readHold E (0, 0) (mAt M a2 nf) 13 [(0, .ref (gAd E 60))] [.int (gb bb)]
    refine g_ifB_eq (pc := 13) 66 dX7_readHold_13 (by decide) (fun h13 => ?_) (fun h13 => ?_)
    · refine g_iconst (pc := 66) (nI 0) (by decide) dX7_readHold_66 ?_
      refine g_topi (pc := 67) (x' := gb false) (by decide) ?_
      exact g_zret (pc := 67) rfl dX7_readHold_67 ⟨fRm_at M a2 nf, hle2, qM_n (by rw [rIm_h, hA]; exact if_neg (fun z => by have z1 : bb = true := z.2.1; rw [h13] at z1; cases z1))⟩
    · refine g_aload_n (pc := 16) 0 rfl rfl dX7_readHold_16 ?_
      refine fX7_31 (pc := 17) 68 rfl hR.s0 hR.r8 (by decide) dX7_readHold_17 ?_
      refine g_iconst (pc := 20) (nI 0) (by decide) dX7_readHold_20 ?_
      refine g_iaload (pc := 21) hR.s8 (by rw [hR.l8]; omega) (by rw [hR.l8]; omega) dX7_readHold_21 ?_
      refine g_topi (pc := 22) (x' := nI (nf 0)) rfl ?_
      refine g_iconst (pc := 22) (nI 3) (by decide) dX7_readHold_22 ?_
      refine g_icmpN_gt (pc := 23) 66 dX7_readHold_23 (by decide) (by omega) (by omega) (fun h23 => ?_) (fun h23 => ?_)
      · refine g_iconst (pc := 66) (nI 0) (by decide) dX7_readHold_66 ?_
        refine g_topi (pc := 67) (x' := gb false) (by decide) ?_
        exact g_zret (pc := 67) rfl dX7_readHold_67 ⟨fRm_at M a2 nf, hle2, qM_n (by rw [rIm_h, hA]; exact if_neg (fun z => by have z3 := of_decide_eq_true (show hTold nf = true from z.2.2); omega))⟩
      · refine g_aload_n (pc := 26) 0 rfl rfl dX7_readHold_26 ?_
        refine fX7_31 (pc := 27) 68 rfl hR.s0 hR.r8 (by decide) dX7_readHold_27 ?_
        refine g_iconst (pc := 30) (nI 1) (by decide) dX7_readHold_30 ?_
        refine g_iaload (pc := 31) hR.s8 (by rw [hR.l8]; omega) (by rw [hR.l8]; omega) dX7_readHold_31 ?_
        refine g_topi (pc := 32) (x' := nI (nf 1)) rfl ?_
        refine g_iconst (pc := 32) (nI 3) (by decide) dX7_readHold_32 ?_
        refine g_icmpN_gt (pc := 33) 66 dX7_readHold_33 (by decide) (by omega) (by omega) (fun h33 => ?_) (fun h33 => ?_)
        · refine g_iconst (pc := 66) (nI 0) (by decide) dX7_readHold_66 ?_
          refine g_topi (pc := 67) (x' := gb false) (by decide) ?_
          exact g_zret (pc := 67) rfl dX7_readHold_67 ⟨fRm_at M a2 nf, hle2, qM_n (by rw [rIm_h, hA]; exact if_neg (fun z => by have z3 := of_decide_eq_true (show hTold nf = true from z.2.2); omega))⟩
        · refine g_aload_n (pc := 36) 0 rfl rfl dX7_readHold_36 ?_
          refine fX7_31 (pc := 37) 68 rfl hR.s0 hR.r8 (by decide) dX7_readHold_37 ?_
          refine g_iconst (pc := 40) (nI 0) (by decide) dX7_readHold_40 ?_
          refine g_iaload (pc := 41) hR.s8 (by rw [hR.l8]; omega) (by rw [hR.l8]; omega) dX7_readHold_41 ?_
          refine g_topi (pc := 42) (x' := nI (nf 0)) rfl ?_
          refine g_aload_n (pc := 42) 0 rfl rfl dX7_readHold_42 ?_
          refine fX7_31 (pc := 43) 68 rfl hR.s0 hR.r8 (by decide) dX7_readHold_43 ?_
          refine g_iconst (pc := 46) (nI 1) (by decide) dX7_readHold_46 ?_
          refine g_iaload (pc := 47) hR.s8 (by rw [hR.l8]; omega) (by rw [hR.l8]; omega) dX7_readHold_47 ?_
          refine g_topi (pc := 48) (x' := nI (nf 1)) rfl ?_
          refine g_icmpN_eq (pc := 48) 66 dX7_readHold_48 (by decide) (by omega) (by omega) (fun h48 => ?_) (fun h48 => ?_)
          · refine g_iconst (pc := 66) (nI 0) (by decide) dX7_readHold_66 ?_
            refine g_topi (pc := 67) (x' := gb false) (by decide) ?_
            exact g_zret (pc := 67) rfl dX7_readHold_67 ⟨fRm_at M a2 nf, hle2, qM_n (by rw [rIm_h, hA]; exact if_neg (fun z => by have z3 := of_decide_eq_true (show hTold nf = true from z.2.2); omega))⟩
          · refine g_aload_n (pc := 51) 0 rfl rfl dX7_readHold_51 ?_
            refine fX7_31 (pc := 52) 68 rfl hR.s0 hR.r8 (by decide) dX7_readHold_52 ?_
            refine g_iconst (pc := 55) (nI 2) (by decide) dX7_readHold_55 ?_
            refine g_iaload (pc := 56) hR.s8 (by rw [hR.l8]; omega) (by rw [hR.l8]; omega) dX7_readHold_56 ?_
            refine g_topi (pc := 57) (x' := nI (nf 2)) rfl ?_
            refine g_iconst (pc := 57) (nI 1) (by decide) dX7_readHold_57 ?_
            refine g_bipush (pc := 58) (nI 51) (by decide) dX7_readHold_58 ?_
            refine g_callS (pc := 60) (mc := mX7_in) (rest := []) lX7_82 iX7_in (kX7_inN l E (mAt M a2 nf) (nf 2) 1 51 (by omega) (by omega) (by omega)) ⟨Nat.le_of_ble_eq_true rfl, Nat.le_of_ble_eq_true rfl⟩ rfl rfl (Nat.le_of_ble_eq_true rfl) ⟨Nat.zero_le _, Nat.zero_le _⟩ dX7_readHold_60 (g_rI ?_)
            refine g_ifB_ne (pc := 63) 68 dX7_readHold_63 (by decide) (fun h63 => ?_) (fun h63 => ?_)
            · refine g_aload_n (pc := 68) 0 rfl rfl dX7_readHold_68 ?_
              refine g_aload_n (pc := 69) 0 rfl rfl dX7_readHold_69 ?_
              refine fX7_31 (pc := 70) 68 rfl hR.s0 hR.r8 (by decide) dX7_readHold_70 ?_
              refine g_iconst (pc := 73) (nI 0) (by decide) dX7_readHold_73 ?_
              refine g_iaload (pc := 74) hR.s8 (by rw [hR.l8]; omega) (by rw [hR.l8]; omega) dX7_readHold_74 ?_
              refine g_topi (pc := 75) (x' := nI (nf 0)) rfl ?_
              refine g_aload_n (pc := 75) 0 rfl rfl dX7_readHold_75 ?_
              refine fX7_31 (pc := 76) 68 rfl hR.s0 hR.r8 (by decide) dX7_readHold_76 ?_
              refine g_iconst (pc := 79) (nI 1) (by decide) dX7_readHold_79 ?_
              refine g_iaload (pc := 80) hR.s8 (by rw [hR.l8]; omega) (by rw [hR.l8]; omega) dX7_readHold_80 ?_
              refine g_topi (pc := 81) (x' := nI (nf 1)) rfl ?_
              refine g_aload_n (pc := 81) 0 rfl rfl dX7_readHold_81 ?_
              refine fX7_31 (pc := 82) 68 rfl hR.s0 hR.r8 (by decide) dX7_readHold_82 ?_
              refine g_iconst (pc := 85) (nI 2) (by decide) dX7_readHold_85 ?_
              refine g_iaload (pc := 86) hR.s8 (by rw [hR.l8]; omega) (by rw [hR.l8]; omega) dX7_readHold_86 ?_
              refine g_topi (pc := 87) (x' := nI (nf 2)) rfl ?_
              refine g_callV (pc := 87) (mc := mX7_putHold) (rest := []) lX7_48 iX7_putHold (kX7_putHold l E (mAt M a2 nf) hR nf (show M.1 60 6 < 4 by omega)) ⟨Nat.le_of_ble_eq_true rfl, Nat.le_of_ble_eq_true rfl⟩ hR.s0 (by decide) (by decide) rfl rfl rfl rfl (Nat.le_of_ble_eq_true rfl) ⟨Nat.zero_le _, Nat.zero_le _⟩ dX7_readHold_87 (g_rU ?_)
              refine g_iconst (pc := 90) (nI 1) (by decide) dX7_readHold_90 ?_
              refine g_topi (pc := 91) (x' := gb true) (by decide) ?_
              exact g_zret (pc := 91) rfl dX7_readHold_91 ⟨fRm_ph (fRm_at M a2 nf), hle2, qM_s (by rw [rIm_h, hA]; exact if_pos ⟨by omega, h13, decide_eq_true (by have q0 := of_decide_eq_true h63; show nf 0 ≠ nf 1 ∧ nf 0 < 4 ∧ nf 1 < 4 ∧ 1 ≤ nf 2 ∧ nf 2 ≤ 51; omega)⟩) (mRep_h (mRep_at hRp)) rfl rfl⟩
            · refine g_iconst (pc := 66) (nI 0) (by decide) dX7_readHold_66 ?_
              refine g_topi (pc := 67) (x' := gb false) (by decide) ?_
              exact g_zret (pc := 67) rfl dX7_readHold_67 ⟨fRm_at M a2 nf, hle2, qM_n (by rw [rIm_h, hA]; exact if_neg (fun z => by have z3 := of_decide_eq_true (show hTold nf = true from z.2.2); have := of_decide_eq_false h63; omega))⟩
