def s00 : aB := ((0, fun _ _ => 0), (0, fun _ _ => 0), 0, 51)
theorem s00_ok : aOk s00 := ⟨by decide, by decide, by decide, by decide, fun i hi => absurd hi (Nat.not_lt_zero i), fun i hi => absurd hi (Nat.not_lt_zero i)⟩
theorem s00_rep (M : gMem) (b : Nat) : bRep (gU (gU (gU (gU M b 1 0) b 3 0) b 4 0) b 5 51) b s00 :=
  ⟨by simp [gU, s00], by simp [gU, s00], by simp [gU, s00], by simp [gU, s00], fun i w hi _ => absurd hi (Nat.not_lt_zero i), fun i hi => absurd hi (Nat.not_lt_zero i), fun i w hi _ => absurd hi (Nat.not_lt_zero i)⟩
theorem rP_e {t : Nat → Nat} {L p st : Nat} {nf : Nat → Nat} {s : aB} (h : L ≤ p) : rP t L (L - p) p st nf s = (if st < L then some st else none, s) := by
  rw [show L - p = 0 by omega]; rfl
theorem rP_n {t : Nat → Nat} {L p st : Nat} {nf : Nat → Nat} {s : aB} (h : p < L) (h1 : t p ≠ 59) : rP t L (L - p) p st nf s = rP t L (L - (p + 1)) (p + 1) st nf s := by
  rw [show L - p = (L - (p + 1)) + 1 by omega]
  simp only [rP]
  rw [if_neg h1]
theorem rP_f {t : Nat → Nat} {L p st : Nat} {nf : Nat → Nat} {s : aB} (h : p < L) (h1 : t p = 59) (h2 : rI (t st) (aN t (p - (st + 1)) (st + 1) 0 nf 0 0).1 (aN t (p - (st + 1)) (st + 1) 0 nf 0 0).2 s = none) : rP t L (L - p) p st nf s = (some st, s) := by
  rw [show L - p = (L - (p + 1)) + 1 by omega]
  simp only [rP]
  rw [if_pos h1, h2]
theorem rP_s {t : Nat → Nat} {L p st : Nat} {nf : Nat → Nat} {s s' : aB} (h : p < L) (h1 : t p = 59) (h2 : rI (t st) (aN t (p - (st + 1)) (st + 1) 0 nf 0 0).1 (aN t (p - (st + 1)) (st + 1) 0 nf 0 0).2 s = some s') : rP t L (L - p) p st nf s = rP t L (L - (p + 1)) (p + 1) (p + 1) (aN t (p - (st + 1)) (st + 1) 0 nf 0 0).2 s' := by
  rw [show L - p = (L - (p + 1)) + 1 by omega]
  simp only [rP]
  rw [if_pos h1, h2]
theorem cS_2 {E : gEnv} {M u : gMem} {b b' : Nat} (h : cS E M b b') (h2 : u.2 = M.2) : cS E u b b' := by
  unfold cS cBr at h ⊢
  rw [h2]; exact h
set_option maxRecDepth 100000 in
set_option maxHeartbeats 4000000 in
theorem kX5_readInto (l : Launch) (E : gEnv) (M : gMem) (b b' : Nat) (hS : cS E M b b') (L : Nat) (hL : L ≤ 200) (hT : ∀ p, p < L → M.1 2 p ≤ 126) (hN0 : ∀ i, M.1 4 i < 100) : gMet l E mX5_readInto 4 [.ref (gAd E 3), .ref (gAd E b'), .ref (gAd E 2), .int (nI L)] M (fun v u => fRd M u b' ∧ (∀ i, u.1 4 i < 100) ∧ v = some (.int (oN (rP (M.1 2) L L 0 0 (M.1 4) s00).1)) ∧ ((rP (M.1 2) L L 0 0 (M.1 4) s00).1 = none → bRep u b' (rP (M.1 2) L L 0 0 (M.1 4) s00).2 ∧ aOk (rP (M.1 2) L L 0 0 (M.1 4) s00).2)) := by
  have hbb := hS.2.2.2.2.1
  have hS0 := hS
  refine gMet_of (mm := mX5_readInto) (h := 4) (M := M) [(0, .ref (gAd E 3)), (1, .ref (gAd E b')), (2, .ref (gAd E 2)), (3, .int (nI L))] (by decide) (Nat.le_of_ble_eq_true rfl) rfl ?_
  refine g_aload_n (pc := 0) 1 rfl rfl dX5_readInto_0 ?_
  refine g_callV (pc := 1) (mc := mX0_clear) (rest := []) lX5_15 iX0_clear (kX0_clear l E M b' hS.D) ⟨Nat.le_of_ble_eq_true rfl, Nat.le_of_ble_eq_true rfl⟩ hS.D.1.1 (by decide) (by decide) rfl rfl rfl rfl (Nat.le_of_ble_eq_true rfl) ⟨Nat.zero_le _, Nat.zero_le _⟩ dX5_readInto_1 (g_rU ?_)
  refine g_iconst (pc := 4) (nI 0) (by decide) dX5_readInto_4 ?_
  refine g_istore (pc := 5) [(0, .ref (gAd E 3)), (1, .ref (gAd E b')), (2, .ref (gAd E 2)), (3, .int (nI L)), (4, .int (nI 0))] dX5_readInto_5 (by decide) rfl rfl ?_
  refine g_iconst (pc := 7) (nI 0) (by decide) dX5_readInto_7 ?_
  refine g_istore (pc := 8) [(0, .ref (gAd E 3)), (1, .ref (gAd E b')), (2, .ref (gAd E 2)), (3, .int (nI L)), (4, .int (nI 0)), (5, .int (nI 0))] dX5_readInto_8 (by decide) rfl rfl ?_
  have lp10 : ∀ p, p ≤ L → ∀ (st : Nat) (u : gMem) (sb : aB), (st ≤ p) → (fRd M u b') → (bRep u b' sb) → (aOk sb) → (∀ i, u.1 4 i < 100) → (rP (M.1 2) L L 0 0 (M.1 4) s00 = rP (M.1 2) L (L - p) p st (u.1 4) sb) → gG l (gV0 4 E (fun v u => fRd M u b' ∧ (∀ i, u.1 4 i < 100) ∧ v = some (.int (oN (rP (M.1 2) L L 0 0 (M.1 4) s00).1)) ∧ ((rP (M.1 2) L L 0 0 (M.1 4) s00).1 = none → bRep u b' (rP (M.1 2) L L 0 0 (M.1 4) s00).2 ∧ aOk (rP (M.1 2) L L 0 0 (M.1 4) s00).2))) mX5_readInto E (0, 0) u 10 [(0, .ref (gAd E 3)), (1, .ref (gAd E b')), (2, .ref (gAd E 2)), (3, .int (nI L)), (4, .int (nI st)), (5, .int (nI p))] [] := by
    refine gloop (fun p hip ihp => ?_)
    intro st u sb
    intro hsp
    intro hF
    intro hR
    intro hA
    intro hN
    intro he
    refine g_iload (pc := 10) 5 rfl dX5_readInto_10 ?_
    refine g_iload_n (pc := 12) 3 rfl rfl dX5_readInto_12 ?_
    refine g_icmpN_ge (pc := 13) 53 dX5_readInto_13 (by decide) (by omega) (by omega) (fun h13 => ?_) (fun h13 => ?_)
    · refine g_iload (pc := 53) 4 rfl dX5_readInto_53 ?_
      refine g_iload_n (pc := 55) 3 rfl rfl dX5_readInto_55 ?_
      refine g_icmpN_ge (pc := 56) 64 dX5_readInto_56 (by decide) (by omega) (by omega) (fun h56 => ?_) (fun h56 => ?_)
      · refine g_bipush (pc := 64) ((-4)) (by decide) dX5_readInto_64 ?_
        exact g_iret (pc := 66) rfl dX5_readInto_66 ⟨hF, hN, congrArg (fun z => some (Value.int z)) (by rw [he, rP_e (by omega)]; show _ = oN (if st < L then some st else none); rw [if_neg (by omega)]; rfl), fun z => by rw [he, rP_e (by omega)] at z ⊢; exact ⟨hR, hA⟩⟩
      · refine g_iload (pc := 59) 4 rfl dX5_readInto_59 ?_
        refine g_goto (pc := 61) 66 dX5_readInto_61 (by decide) ?_
        exact g_iret (pc := 66) rfl dX5_readInto_66 ⟨hF, hN, congrArg (fun z => some (Value.int z)) (by rw [he, rP_e (by omega)]; show _ = oN (if st < L then some st else none); rw [if_pos (by omega)]; rfl), fun z => by rw [he, rP_e (by omega)] at z ⊢; exact ⟨hR, hA⟩⟩
    · have hu2 : u.1 2 = M.1 2 := funext fun i => hF.1 2 i (by decide) (by omega)
      have hS := cS_2 hS0 hF.2
      have hc := hT p h13
      refine g_aload_n (pc := 16) 2 rfl rfl dX5_readInto_16 ?_
      refine g_iload (pc := 17) 5 rfl dX5_readInto_17 ?_
      refine g_caload (pc := 19) hS.s2 (by rw [hS.l2]; omega) (by rw [hS.l2]; omega) dX5_readInto_19 ?_
      refine g_topi (pc := 20) (x' := nI (M.1 2 p)) (by rw [hu2]) ?_
      refine g_bipush (pc := 20) (nI 59) (by decide) dX5_readInto_20 ?_
      refine g_icmpN_ne (pc := 22) 47 dX5_readInto_22 (by decide) (by omega) (by omega) (fun h22 => ?_) (fun h22 => ?_)
      · refine g_iincN (pc := 47) 1 5 [(0, .ref (gAd E 3)), (1, .ref (gAd E b')), (2, .ref (gAd E 2)), (3, .int (nI L)), (4, .int (nI st)), (5, .int (nI (p + 1)))] rfl dX5_readInto_47 (by decide) rfl rfl ?_
        refine g_goto (pc := 50) 10 dX5_readInto_50 (by decide) ?_
        exact ihp (by omega) st u sb (by omega) hF hR hA hN (by rw [he, rP_n h13 h22])
      · refine g_aload_n (pc := 25) 0 rfl rfl dX5_readInto_25 ?_
        refine g_aload_n (pc := 26) 1 rfl rfl dX5_readInto_26 ?_
        refine g_aload_n (pc := 27) 2 rfl rfl dX5_readInto_27 ?_
        refine g_iload (pc := 28) 4 rfl dX5_readInto_28 ?_
        refine g_iload (pc := 30) 5 rfl dX5_readInto_30 ?_
        refine g_callV (pc := 32) (mc := mX5_readItem) (rest := []) lX5_20 iX5_readItem (kX5_readItem l E u b b' hS st p sb hsp (by omega) (fun z hz => by rw [hu2]; exact hT z (by omega)) hN hA hR) ⟨Nat.le_of_ble_eq_true rfl, Nat.le_of_ble_eq_true rfl⟩ hS.s3 (by decide) (by decide) rfl rfl rfl rfl (Nat.le_of_ble_eq_true rfl) ⟨Nat.zero_le _, Nat.zero_le _⟩ dX5_readInto_32 ?_
        intro v u2 hq
        obtain ⟨hF2, hF3, hI⟩ := hq
        rw [hu2] at hI hF3
        cases hr : rI (M.1 2 st) (aN (M.1 2) (p - (st + 1)) (st + 1) 0 (u.1 4) 0 0).1 (aN (M.1 2) (p - (st + 1)) (st + 1) 0 (u.1 4) 0 0).2 sb with
        | none =>
          rw [hr] at hI
          have hI : v = some (.int (gb false)) := hI
          subst hI
          refine g_ifB_ne (pc := 35) 41 dX5_readInto_35 (by decide) (fun h35 => absurd h35 (by decide)) (fun h35 => ?_)
          refine g_iload (pc := 38) 4 rfl dX5_readInto_38 ?_
          exact g_iret (pc := 40) rfl dX5_readInto_40 ⟨fRd_tr hF hF2, by rw [hF3]; exact (aN_le _ _ _ _ _ _ (by omega) (fun _ => rfl) (fun _ => by omega) ⟨by omega, by omega⟩ hN).2, by rw [he, rP_f h13 h22 hr]; rfl, fun z => by rw [he, rP_f h13 h22 hr] at z; cases z⟩
        | some sb2 =>
          rw [hr] at hI
          obtain ⟨hI, hR2⟩ := hI
          subst hI
          refine g_ifB_ne (pc := 35) 41 dX5_readInto_35 (by decide) (fun h35 => ?_) (fun h35 => absurd h35 (by decide))
          refine g_iload (pc := 41) 5 rfl dX5_readInto_41 ?_
          refine g_iconst (pc := 43) (nI 1) (by decide) dX5_readInto_43 ?_
          refine g_iaddN (pc := 44) dX5_readInto_44 ?_
          refine g_istore (pc := 45) [(0, .ref (gAd E 3)), (1, .ref (gAd E b')), (2, .ref (gAd E 2)), (3, .int (nI L)), (4, .int (nI (p + 1))), (5, .int (nI p))] dX5_readInto_45 (by decide) rfl rfl ?_
          refine g_iincN (pc := 47) 1 5 [(0, .ref (gAd E 3)), (1, .ref (gAd E b')), (2, .ref (gAd E 2)), (3, .int (nI L)), (4, .int (nI (p + 1))), (5, .int (nI (p + 1)))] rfl dX5_readInto_47 (by decide) rfl rfl ?_
          refine g_goto (pc := 50) 10 dX5_readInto_50 (by decide) ?_
          exact ihp (by omega) (p + 1) u2 sb2 (Nat.le_refl _) (fRd_tr hF hF2) hR2 (rI_ok hr hA) (by rw [hF3]; exact (aN_le _ _ _ _ _ _ (by omega) (fun _ => rfl) (fun _ => by omega) ⟨by omega, by omega⟩ hN).2) (by rw [he, rP_s h13 h22 hr, hF3])
  refine g_mm (pc := 10) (M' := gU (gU (gU (gU M b' 1 0) b' 3 0) b' 4 0) b' 5 51) rfl ?_
  exact lp10 0 (by omega) 0 (gU (gU (gU (gU M b' 1 0) b' 3 0) b' 4 0) b' 5 51) s00 (by omega) (fRd_U (fRd_U (fRd_U (fRd_U (fRd_rf M b') (by omega) (by omega)) (by omega) (by omega)) (by omega) (by omega)) (by omega) (by omega)) (s00_rep M b') s00_ok (fun i => by rw [gU_o (by omega), gU_o (by omega), gU_o (by omega), gU_o (by omega)]; exact hN0 i) (by rw [show (gU (gU (gU (gU M b' 1 0) b' 3 0) b' 4 0) b' 5 51).1 4 = M.1 4 from funext fun i => by rw [gU_o (by omega), gU_o (by omega), gU_o (by omega), gU_o (by omega)]]; rfl)
