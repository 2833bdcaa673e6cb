theorem rIm_ok {kind : Nat} {t : Nat → Nat} {L a : Nat} {nf : Nat → Nat} {s : aB} {q : Nat × (Nat → Nat) × aB} (h : rIm kind t L a nf s = some q) (hs : aOk s) (ha : a ≤ L) : aOk q.2.2 ∧ q.1 ≤ L ∧ a ≤ q.1 := by
  have hmono : ∀ r k a nf, a ≤ (mN t L r k a nf).2.1 := by
    intro r
    induction r with
    | zero => intro k a nf; exact Nat.le_refl _
    | succ r ih =>
      intro k a nf
      have hna : a ≤ mNa t L a := by unfold mNa; split <;> omega
      unfold mN
      split
      · by_cases h3 : mNa t L a ≠ L ∧ t (mNa t L a) = (if r = 0 then 59 else 44)
        · rw [if_pos h3]; exact Nat.le_trans (by omega) (ih _ _ _)
        · rw [if_neg h3]; exact hna
      · exact Nat.le_refl _
  have hle : ∀ r k a nf, a ≤ L → (mN t L r k a nf).2.1 ≤ L := by
    intro r
    induction r with
    | zero => intro k a nf h; exact h
    | succ r ih =>
      intro k a nf h
      unfold mN
      split
      · rename_i hd
        have hd := of_decide_eq_true hd
        have hna : mNa t L a ≤ L := by
          unfold mNa
          split
          · rename_i h2
            have h2 := of_decide_eq_true h2
            omega
          · omega
        by_cases h3 : mNa t L a ≠ L ∧ t (mNa t L a) = (if r = 0 then 59 else 44)
        · rw [if_pos h3]; exact ih _ _ _ (by omega)
        · rw [if_neg h3]; exact hna
      · exact h
  obtain ⟨h1, h2, h3, h4, h5, h6⟩ := hs
  unfold rIm at h
  split at h
  · split at h
    · rename_i z; cases h; exact ⟨⟨h1, h2, z.2.1, z.2.2, h5, h6⟩, hle _ _ _ _ ha, hmono _ _ _ _⟩
    · cases h
  · split at h
    · split at h
      · rename_i z; cases h
        refine ⟨⟨by show s.1.1 + 1 ≤ 10; omega, h2, h3, h4, fun i hi => ?_, h6⟩, hle _ _ _ _ ha, hmono _ _ _ _⟩
        show oOk (updR s.1.2 s.1.1 _ i) = true
        have hi : i < s.1.1 + 1 := hi
        simp only [updR]
        split
        · exact z.2.2
        · exact h5 i (by omega)
      · cases h
    · split at h
      · split at h
        · rename_i z; cases h
          refine ⟨⟨h1, by show s.2.1.1 + 1 ≤ 4; omega, h3, h4, h5, fun i hi => ?_⟩, hle _ _ _ _ ha, hmono _ _ _ _⟩
          show hTold (updR s.2.1.2 s.2.1.1 _ i) = true
          have hi : i < s.2.1.1 + 1 := hi
          simp only [updR]
          split
          · exact z.2.2
          · exact h6 i (by omega)
        · cases h
      · cases h
theorem rMt_s {t : Nat → Nat} {L d a : Nat} {nf : Nat → Nat} {s : aB} {q : Nat × (Nat → Nat) × aB} (h : a < L) (hr : rIm (t a) t L (a + 1) nf s = some q) : rMt t L (d + 1) a nf s = rMt t L d q.1 q.2.1 q.2.2 := by
  simp only [rMt]; rw [if_pos h, hr]
theorem rMt_n {t : Nat → Nat} {L d a : Nat} {nf : Nat → Nat} {s : aB} (h : a < L) (hr : rIm (t a) t L (a + 1) nf s = none) : rMt t L (d + 1) a nf s = (some a, s) := by
  simp only [rMt]; rw [if_pos h, hr]
theorem rMt_e {t : Nat → Nat} {L d a : Nat} {nf : Nat → Nat} {s : aB} (h : L ≤ a) : rMt t L (d + 1) a nf s = (none, s) := by
  simp only [rMt]; rw [if_neg (by omega)]
theorem s00_mrep (M : gMem) : mRep (gU (gU (gU (gU (gU M 60 5 0) 60 6 0) 60 7 0) 60 8 51) 60 2 0) s00 :=
  ⟨by simp [gU, s00], by simp [gU, s00], by simp [gU, s00], by simp [gU, s00], fun i w hi _ => absurd hi (Nat.not_lt_zero i), fun i w hi _ => absurd hi (Nat.not_lt_zero i)⟩
set_option maxRecDepth 100000 in
set_option maxHeartbeats 4000000 in
theorem kX7_readText (l : Launch) (E : gEnv) (M : gMem) (hR : mR E M) (hL : M.1 60 1 ≤ 200) (hT : ∀ p, p < M.1 60 1 → M.1 61 p ≤ 126) (hN : ∀ i, M.1 68 i < 100) : gMet l E mX7_readText 4 [.ref (gAd E 60)] M (fun v u => fRm M u ∧ (∀ i, u.1 68 i < 100) ∧ v = some (.int (oN (rMt (M.1 61) (M.1 60 1) 201 0 (M.1 68) s00).1)) ∧ ((rMt (M.1 61) (M.1 60 1) 201 0 (M.1 68) s00).1 = none → mRep u (rMt (M.1 61) (M.1 60 1) 201 0 (M.1 68) s00).2 ∧ aOk (rMt (M.1 61) (M.1 60 1) 201 0 (M.1 68) s00).2)) := by
  have hR0 := hR
  refine gMet_of (mm := mX7_readText) (h := 4) (M := M) [(0, .ref (gAd E 60))] (by decide) (Nat.le_of_ble_eq_true rfl) rfl ?_
  refine g_aload_n (pc := 0) 0 rfl rfl dX7_readText_0 ?_
  refine g_callV (pc := 1) (mc := mX7_beginRead) (rest := []) lX7_34 iX7_beginRead (kX7_beginRead l E M hR) ⟨Nat.le_of_ble_eq_true rfl, Nat.le_of_ble_eq_true rfl⟩ hR.s0 (by decide) (by decide) rfl rfl rfl rfl (Nat.le_of_ble_eq_true rfl) ⟨Nat.zero_le _, Nat.zero_le _⟩ dX7_readText_1 (g_rU ?_)
  refine g_aload_n (pc := 4) 0 rfl rfl dX7_readText_4 ?_
  refine g_iconst (pc := 5) (nI 0) (by decide) dX7_readText_5 ?_
  refine uX7_76 (pc := 6) rfl hR.s0 dX7_readText_6 ?_
  have lp : ∀ (d a : Nat) (u : gMem) (sb : aB), M.1 60 1 - a < d → a ≤ M.1 60 1 → fRm M u → mRep u sb → aOk sb → (∀ i, u.1 68 i < 100) → u.1 60 2 = a → rMt (M.1 61) (M.1 60 1) 201 0 (M.1 68) s00 = rMt (M.1 61) (M.1 60 1) d a (u.1 68) sb → gG l (gV0 4 E (fun v u => fRm M u ∧ (∀ i, u.1 68 i < 100) ∧ v = some (.int (oN (rMt (M.1 61) (M.1 60 1) 201 0 (M.1 68) s00).1)) ∧ ((rMt (M.1 61) (M.1 60 1) 201 0 (M.1 68) s00).1 = none → mRep u (rMt (M.1 61) (M.1 60 1) 201 0 (M.1 68) s00).2 ∧ aOk (rMt (M.1 61) (M.1 60 1) 201 0 (M.1 68) s00).2))) mX7_readText E (0, 0) u 9 [(0, .ref (gAd E 60))] [] := by
    intro d
    induction d with
    | zero => intro a u sb h1; exact absurd h1 (Nat.not_lt_zero _)
    | succ d ih =>
      intro a u sb hd haL hF hRp hst hN hat he
      have hu61 : u.1 61 = M.1 61 := funext fun i => hF.1 61 i (by decide) (by decide) (by decide) (by simp)
      have hu1 : u.1 60 1 = M.1 60 1 := hF.1 60 1 (by decide) (by decide) (by decide) (by simp)
      have hR := mR_2 hR0 hF.2
      refine g_aload_n (pc := 9) 0 rfl rfl dX7_readText_9 ?_
      refine fX7_76 (pc := 10) rfl hR.s0 dX7_readText_10 ?_
      refine g_topi (pc := 13) (x' := nI (a)) (by rw [hat]) ?_
      refine g_aload_n (pc := 13) 0 rfl rfl dX7_readText_13 ?_
      refine fX7_79 (pc := 14) rfl hR.s0 dX7_readText_14 ?_
      refine g_topi (pc := 17) (x' := nI (M.1 60 1)) (by rw [hu1]) ?_
      refine g_icmpN_ge (pc := 17) 99 dX7_readText_17 (by decide) (by omega) (by omega) (fun h17 => ?_) (fun h17 => ?_)
      · refine g_bipush (pc := 99) ((-4)) (by decide) dX7_readText_99 ?_
        exact g_iret (pc := 101) rfl dX7_readText_101 ⟨hF, hN, congrArg (fun z => some (Value.int z)) (by rw [he, rMt_e h17]; rfl), fun z => by rw [he, rMt_e h17]; exact ⟨hRp, hst⟩⟩
      · have htl := hT a h17
        refine g_aload_n (pc := 20) 0 rfl rfl dX7_readText_20 ?_
        refine fX7_76 (pc := 21) rfl hR.s0 dX7_readText_21 ?_
        refine g_topi (pc := 24) (x' := nI (a)) (by rw [hat]) ?_
        refine g_istore_n (pc := 24) rfl [(0, .ref (gAd E 60)), (1, .int (nI a))] dX7_readText_24 (by decide) rfl rfl ?_
        refine g_aload_n (pc := 25) 0 rfl rfl dX7_readText_25 ?_
        refine fX7_7 (pc := 26) 61 rfl hR.s0 hR.r1 (by decide) dX7_readText_26 ?_
        refine g_aload_n (pc := 29) 0 rfl rfl dX7_readText_29 ?_
        refine fX7_76 (pc := 30) rfl hR.s0 dX7_readText_30 ?_
        refine g_topi (pc := 33) (x' := nI (a)) (by rw [hat]) ?_
        refine g_iaload (pc := 33) hR.s1 (by rw [hR.l1]; omega) (by rw [hR.l1]; omega) dX7_readText_33 ?_
        refine g_topi (pc := 34) (x' := nI (M.1 61 a)) (by rw [hu61]) ?_
        refine g_istore_n (pc := 34) rfl [(0, .ref (gAd E 60)), (1, .int (nI a)), (2, .int (nI (M.1 61 a)))] dX7_readText_34 (by decide) rfl rfl ?_
        refine g_aload_n (pc := 35) 0 rfl rfl dX7_readText_35 ?_
        refine g_dup (pc := 36) rfl dX7_readText_36 ?_
        refine fX7_76 (pc := 37) rfl hR.s0 dX7_readText_37 ?_
        refine g_topi (pc := 40) (x' := nI (a)) (by rw [hat]) ?_
        refine g_iconst (pc := 40) (nI 1) (by decide) dX7_readText_40 ?_
        refine g_iaddN (pc := 41) dX7_readText_41 ?_
        refine uX7_76 (pc := 42) rfl hR.s0 dX7_readText_42 ?_
        refine g_iload_n (pc := 45) 2 rfl rfl dX7_readText_45 ?_
        refine g_bipush (pc := 46) (nI 116) (by decide) dX7_readText_46 ?_
        refine g_icmpN_ne (pc := 48) 58 dX7_readText_48 (by decide) (by omega) (by omega) (fun h48 => ?_) (fun h48 => ?_)
        · refine g_iload_n (pc := 58) 2 rfl rfl dX7_readText_58 ?_
          refine g_bipush (pc := 59) (nI 111) (by decide) dX7_readText_59 ?_
          refine g_icmpN_ne (pc := 61) 71 dX7_readText_61 (by decide) (by omega) (by omega) (fun h61 => ?_) (fun h61 => ?_)
          · refine g_iload_n (pc := 71) 2 rfl rfl dX7_readText_71 ?_
            refine g_bipush (pc := 72) (nI 104) (by decide) dX7_readText_72 ?_
            refine g_icmpN_ne (pc := 74) 88 dX7_readText_74 (by decide) (by omega) (by omega) (fun h74 => ?_) (fun h74 => ?_)
            · have hkd : rIm (M.1 61 a) (M.1 61) (M.1 60 1) (a + 1) (u.1 68) sb = none := by unfold rIm; rw [if_neg h48, if_neg h61, if_neg h74]
              refine g_iconst (pc := 88) (nI 0) (by decide) dX7_readText_88 ?_
              refine g_istore_n (pc := 89) rfl [(0, .ref (gAd E 60)), (1, .int (nI a)), (2, .int (nI (M.1 61 a))), (3, .int (nI 0))] dX7_readText_89 (by decide) rfl rfl ?_
              refine g_iload_n (pc := 90) 3 rfl rfl dX7_readText_90 ?_
              refine g_ifN_ne (pc := 91) 96 dX7_readText_91 (by decide) (by omega) (fun h91 => absurd h91 (by omega)) (fun h91 => ?_)
              refine g_iload_n (pc := 94) 1 rfl rfl dX7_readText_94 ?_
              exact g_iret (pc := 95) rfl dX7_readText_95 ⟨fRm_U hF (Or.inr (Or.inr ⟨rfl, Or.inl rfl⟩)), hN, congrArg (fun z => some (Value.int z)) (by rw [he, rMt_n h17 hkd]; rfl), fun z => by rw [he, rMt_n h17 hkd] at z; cases z⟩
            · refine g_aload_n (pc := 77) 0 rfl rfl dX7_readText_77 ?_
              refine g_callV (pc := 78) (mc := mX7_readHold) (rest := []) lX7_100 iX7_readHold (kX7_readHold l E (gU u 60 2 (a + 1)) hR (by show u.1 60 1 ≤ 200; omega) (by rw [gU_s]; show a + 1 ≤ u.1 60 1; omega) (by show ∀ p, p < u.1 60 1 → u.1 61 p ≤ 126; rw [hu61, hu1]; exact hT) hN sb hst hRp) ⟨Nat.le_of_ble_eq_true rfl, Nat.le_of_ble_eq_true rfl⟩ hR.s0 (by decide) (by decide) rfl rfl rfl rfl (Nat.le_of_ble_eq_true rfl) ⟨Nat.zero_le _, Nat.zero_le _⟩ dX7_readText_78 ?_
              intro v u2 hq
              obtain ⟨hF2, hN2, hI⟩ := hq
              have hI : qItm (rIm 104 (u.1 61) (u.1 60 1) (a + 1) (u.1 68) sb) v u2 := by have e : (gU u 60 2 (a + 1)).1 60 2 = a + 1 := gU_s; rw [e] at hI; exact hI
              rw [hu61, hu1] at hI
              have hF3 : fRm M u2 := fRm_tr (fRm_U hF (Or.inr (Or.inr ⟨rfl, Or.inl rfl⟩))) hF2
              have hkd : rIm (M.1 61 a) (M.1 61) (M.1 60 1) (a + 1) (u.1 68) sb = rIm 104 (M.1 61) (M.1 60 1) (a + 1) (u.1 68) sb := by rw [h74]
              cases hr : rIm 104 (M.1 61) (M.1 60 1) (a + 1) (u.1 68) sb with
              | none =>
                rw [hr] at hI hkd
                have hI : v = some (.int (gb false)) := hI
                subst hI
                refine g_ifB_eq (pc := 81) 88 dX7_readText_81 (by decide) (fun h81 => ?_) (fun h81 => absurd h81 (by decide))
                refine g_iconst (pc := 88) (nI 0) (by decide) dX7_readText_88 ?_
                refine g_istore_n (pc := 89) rfl [(0, .ref (gAd E 60)), (1, .int (nI a)), (2, .int (nI (M.1 61 a))), (3, .int (nI 0))] dX7_readText_89 (by decide) rfl rfl ?_
                refine g_iload_n (pc := 90) 3 rfl rfl dX7_readText_90 ?_
                refine g_ifN_ne (pc := 91) 96 dX7_readText_91 (by decide) (by omega) (fun h91 => absurd h91 (by omega)) (fun h91 => ?_)
                refine g_iload_n (pc := 94) 1 rfl rfl dX7_readText_94 ?_
                exact g_iret (pc := 95) rfl dX7_readText_95 ⟨hF3, hN2, congrArg (fun z => some (Value.int z)) (by rw [he, rMt_n h17 hkd]; rfl), fun z => by rw [he, rMt_n h17 hkd] at z; cases z⟩
              | some qq =>
                rw [hr] at hI hkd
                obtain ⟨hI, hR2, hat2, h68⟩ := hI
                subst hI
                have hok := rIm_ok hr hst (by omega)
                refine g_ifB_eq (pc := 81) 88 dX7_readText_81 (by decide) (fun h81 => absurd h81 (by decide)) (fun h81 => ?_)
                refine g_iconst (pc := 84) (nI 1) (by decide) dX7_readText_84 ?_
                refine g_goto (pc := 85) 89 dX7_readText_85 (by decide) ?_
                refine g_istore_n (pc := 89) rfl [(0, .ref (gAd E 60)), (1, .int (nI a)), (2, .int (nI (M.1 61 a))), (3, .int (nI 1))] dX7_readText_89 (by decide) rfl rfl ?_
                refine g_iload_n (pc := 90) 3 rfl rfl dX7_readText_90 ?_
                refine g_ifN_ne (pc := 91) 96 dX7_readText_91 (by decide) (by omega) (fun h91 => ?_) (fun h91 => absurd h91 (by omega))
                refine g_goto (pc := 96) 9 dX7_readText_96 (by decide) ?_
                refine g_pick (pc := 9) [0] [(0, .ref (gAd E 60))] rfl ?_
                exact ih qq.1 u2 qq.2.2 (by omega) hok.2.1 hF3 hR2 hok.1 hN2 hat2 (by rw [he, rMt_s h17 hkd, h68])
          · refine g_aload_n (pc := 64) 0 rfl rfl dX7_readText_64 ?_
            refine g_callV (pc := 65) (mc := mX7_readOffer) (rest := []) lX7_97 iX7_readOffer (kX7_readOffer l E (gU u 60 2 (a + 1)) hR (by show u.1 60 1 ≤ 200; omega) (by rw [gU_s]; show a + 1 ≤ u.1 60 1; omega) (by show ∀ p, p < u.1 60 1 → u.1 61 p ≤ 126; rw [hu61, hu1]; exact hT) hN sb hst hRp) ⟨Nat.le_of_ble_eq_true rfl, Nat.le_of_ble_eq_true rfl⟩ hR.s0 (by decide) (by decide) rfl rfl rfl rfl (Nat.le_of_ble_eq_true rfl) ⟨Nat.zero_le _, Nat.zero_le _⟩ dX7_readText_65 ?_
            intro v u2 hq
            obtain ⟨hF2, hN2, hI⟩ := hq
            have hI : qItm (rIm 111 (u.1 61) (u.1 60 1) (a + 1) (u.1 68) sb) v u2 := by have e : (gU u 60 2 (a + 1)).1 60 2 = a + 1 := gU_s; rw [e] at hI; exact hI
            rw [hu61, hu1] at hI
            have hF3 : fRm M u2 := fRm_tr (fRm_U hF (Or.inr (Or.inr ⟨rfl, Or.inl rfl⟩))) hF2
            have hkd : rIm (M.1 61 a) (M.1 61) (M.1 60 1) (a + 1) (u.1 68) sb = rIm 111 (M.1 61) (M.1 60 1) (a + 1) (u.1 68) sb := by rw [h61]
            cases hr : rIm 111 (M.1 61) (M.1 60 1) (a + 1) (u.1 68) sb with
            | none =>
              rw [hr] at hI hkd
              have hI : v = some (.int (gb false)) := hI
              subst hI
              refine g_goto (pc := 68) 89 dX7_readText_68 (by decide) ?_
              refine g_istore_n (pc := 89) rfl [(0, .ref (gAd E 60)), (1, .int (nI a)), (2, .int (nI (M.1 61 a))), (3, .int (gb false))] dX7_readText_89 (by decide) rfl rfl ?_
              refine g_iload_n (pc := 90) 3 rfl rfl dX7_readText_90 ?_
              refine g_ifB_ne (pc := 91) 96 dX7_readText_91 (by decide) (fun h91 => absurd h91 (by decide)) (fun h91 => ?_)
              refine g_iload_n (pc := 94) 1 rfl rfl dX7_readText_94 ?_
              exact g_iret (pc := 95) rfl dX7_readText_95 ⟨hF3, hN2, congrArg (fun z => some (Value.int z)) (by rw [he, rMt_n h17 hkd]; rfl), fun z => by rw [he, rMt_n h17 hkd] at z; cases z⟩
            | some qq =>
              rw [hr] at hI hkd
              obtain ⟨hI, hR2, hat2, h68⟩ := hI
              subst hI
              have hok := rIm_ok hr hst (by omega)
              refine g_goto (pc := 68) 89 dX7_readText_68 (by decide) ?_
              refine g_istore_n (pc := 89) rfl [(0, .ref (gAd E 60)), (1, .int (nI a)), (2, .int (nI (M.1 61 a))), (3, .int (gb true))] dX7_readText_89 (by decide) rfl rfl ?_
              refine g_iload_n (pc := 90) 3 rfl rfl dX7_readText_90 ?_
              refine g_ifB_ne (pc := 91) 96 dX7_readText_91 (by decide) (fun h91 => ?_) (fun h91 => absurd h91 (by decide))
              refine g_goto (pc := 96) 9 dX7_readText_96 (by decide) ?_
              refine g_pick (pc := 9) [0] [(0, .ref (gAd E 60))] rfl ?_
              exact ih qq.1 u2 qq.2.2 (by omega) hok.2.1 hF3 hR2 hok.1 hN2 hat2 (by rw [he, rMt_s h17 hkd, h68])
        · refine g_aload_n (pc := 51) 0 rfl rfl dX7_readText_51 ?_
          refine g_callV (pc := 52) (mc := mX7_readTerm) (rest := []) lX7_94 iX7_readTerm (kX7_readTerm l E (gU u 60 2 (a + 1)) hR (by show u.1 60 1 ≤ 200; omega) (by rw [gU_s]; show a + 1 ≤ u.1 60 1; omega) (by show ∀ p, p < u.1 60 1 → u.1 61 p ≤ 126; rw [hu61, hu1]; exact hT) hN sb hst hRp) ⟨Nat.le_of_ble_eq_true rfl, Nat.le_of_ble_eq_true rfl⟩ hR.s0 (by decide) (by decide) rfl rfl rfl rfl (Nat.le_of_ble_eq_true rfl) ⟨Nat.zero_le _, Nat.zero_le _⟩ dX7_readText_52 ?_
          intro v u2 hq
          obtain ⟨hF2, hN2, hI⟩ := hq
          have hI : qItm (rIm 116 (u.1 61) (u.1 60 1) (a + 1) (u.1 68) sb) v u2 := by have e : (gU u 60 2 (a + 1)).1 60 2 = a + 1 := gU_s; rw [e] at hI; exact hI
          rw [hu61, hu1] at hI
          have hF3 : fRm M u2 := fRm_tr (fRm_U hF (Or.inr (Or.inr ⟨rfl, Or.inl rfl⟩))) hF2
          have hkd : rIm (M.1 61 a) (M.1 61) (M.1 60 1) (a + 1) (u.1 68) sb = rIm 116 (M.1 61) (M.1 60 1) (a + 1) (u.1 68) sb := by rw [h48]
          cases hr : rIm 116 (M.1 61) (M.1 60 1) (a + 1) (u.1 68) sb with
          | none =>
            rw [hr] at hI hkd
            have hI : v = some (.int (gb false)) := hI
            subst hI
            refine g_goto (pc := 55) 89 dX7_readText_55 (by decide) ?_
            refine g_istore_n (pc := 89) rfl [(0, .ref (gAd E 60)), (1, .int (nI a)), (2, .int (nI (M.1 61 a))), (3, .int (gb false))] dX7_readText_89 (by decide) rfl rfl ?_
            refine g_iload_n (pc := 90) 3 rfl rfl dX7_readText_90 ?_
            refine g_ifB_ne (pc := 91) 96 dX7_readText_91 (by decide) (fun h91 => absurd h91 (by decide)) (fun h91 => ?_)
            refine g_iload_n (pc := 94) 1 rfl rfl dX7_readText_94 ?_
            exact g_iret (pc := 95) rfl dX7_readText_95 ⟨hF3, hN2, congrArg (fun z => some (Value.int z)) (by rw [he, rMt_n h17 hkd]; rfl), fun z => by rw [he, rMt_n h17 hkd] at z; cases z⟩
          | some qq =>
            rw [hr] at hI hkd
            obtain ⟨hI, hR2, hat2, h68⟩ := hI
            subst hI
            have hok := rIm_ok hr hst (by omega)
            refine g_goto (pc := 55) 89 dX7_readText_55 (by decide) ?_
            refine g_istore_n (pc := 89) rfl [(0, .ref (gAd E 60)), (1, .int (nI a)), (2, .int (nI (M.1 61 a))), (3, .int (gb true))] dX7_readText_89 (by decide) rfl rfl ?_
            refine g_iload_n (pc := 90) 3 rfl rfl dX7_readText_90 ?_
            refine g_ifB_ne (pc := 91) 96 dX7_readText_91 (by decide) (fun h91 => ?_) (fun h91 => absurd h91 (by decide))
            refine g_goto (pc := 96) 9 dX7_readText_96 (by decide) ?_
            refine g_pick (pc := 9) [0] [(0, .ref (gAd E 60))] rfl ?_
            exact ih qq.1 u2 qq.2.2 (by omega) hok.2.1 hF3 hR2 hok.1 hN2 hat2 (by rw [he, rMt_s h17 hkd, h68])
  exact lp 201 0 _ s00 (by omega) (by omega) (fRm_U (fRm_U (fRm_U (fRm_U (fRm_U (fRm_rf M) (by decide)) (by decide)) (by decide)) (by decide)) (by decide)) (s00_mrep M) s00_ok hN rfl rfl
set_option maxRecDepth 100000 in
set_option maxHeartbeats 4000000 in
theorem kX7_fault (l : Launch) (E : gEnv) (M : gMem) (hR : mR E M) (hL : M.1 60 1 ≤ 200) (hT : ∀ p, p < M.1 60 1 → M.1 61 p ≤ 126) (hN : ∀ i, M.1 68 i < 100) : gMet l E mX7_fault 5 [.ref (gAd E 60)] M (fun v u => fRm M u ∧ (∀ i, u.1 68 i < 100) ∧ v = some (.int (oN (rMt (M.1 61) (M.1 60 1) 201 0 (M.1 68) s00).1))) := by
  refine gMet_of (mm := mX7_fault) (h := 5) (M := M) [(0, .ref (gAd E 60))] (by decide) (Nat.le_of_ble_eq_true rfl) rfl ?_
  refine g_aload_n (pc := 0) 0 rfl rfl dX7_fault_0 ?_
  refine g_callV (pc := 1) (mc := mX7_readText) (rest := []) lX7_103 iX7_readText (kX7_readText l E M hR hL hT hN) ⟨Nat.le_of_ble_eq_true rfl, Nat.le_of_ble_eq_true rfl⟩ hR.s0 (by decide) (by decide) rfl rfl rfl rfl (Nat.le_of_ble_eq_true rfl) ⟨Nat.zero_le _, Nat.zero_le _⟩ dX7_fault_1 ?_
  intro v u hq
  obtain ⟨hF, hN1, rfl, hI⟩ := hq
  exact g_iret (pc := 4) rfl dX7_fault_4 ⟨hF, hN1, rfl⟩
theorem rMt_lt {t : Nat → Nat} {L : Nat} : ∀ d a nf s x, (rMt t L d a nf s).1 = some x → x < L := by
  intro d
  induction d with
  | zero => intro a nf s x h; cases h
  | succ d ih =>
    intro a nf s x h
    simp only [rMt] at h
    split at h
    · split at h
      · cases h; assumption
      · exact ih _ _ _ _ h
    · cases h
set_option maxRecDepth 100000 in
set_option maxHeartbeats 4000000 in
theorem kX7_lay_no (l : Launch) (E : gEnv) (M : gMem) (hR : mR E M) (hL : M.1 60 1 ≤ 200) (hT : ∀ p, p < M.1 60 1 → M.1 61 p ≤ 126) (hN : ∀ i, M.1 68 i < 100) (hno : (rMt (M.1 61) (M.1 60 1) 201 0 (M.1 68) s00).1 ≠ none ∨ (rMt (M.1 61) (M.1 60 1) 201 0 (M.1 68) s00).2.1.1 = 0) : gMet l E mX7_lay 5 [.ref (gAd E 60)] M (fun v u => fRm M u ∧ (∀ i, u.1 68 i < 100) ∧ v = some (.int (-2))) := by
  refine gMet_of (mm := mX7_lay) (h := 5) (M := M) [(0, .ref (gAd E 60))] (by decide) (Nat.le_of_ble_eq_true rfl) rfl ?_
  refine g_aload_n (pc := 0) 0 rfl rfl dX7_lay_0 ?_
  refine g_callV (pc := 1) (mc := mX7_readText) (rest := []) lX7_103 iX7_readText (kX7_readText l E M hR hL hT hN) ⟨Nat.le_of_ble_eq_true rfl, Nat.le_of_ble_eq_true rfl⟩ hR.s0 (by decide) (by decide) rfl rfl rfl rfl (Nat.le_of_ble_eq_true rfl) ⟨Nat.zero_le _, Nat.zero_le _⟩ dX7_lay_1 ?_
  intro v u hq
  obtain ⟨hF, hN1, rfl, hI⟩ := hq
  have hR := mR_2 hR hF.2
  have hlt := rMt_lt (t := M.1 61) (L := M.1 60 1) 201 0 (M.1 68) s00
  refine g_bipush (pc := 4) ((-4)) (by decide) dX7_lay_4 ?_
  refine g_icmp_ne (pc := 6) 16 dX7_lay_6 (by decide) (fun h6 => ?_) (fun h6 => ?_)
  · refine g_bipush (pc := 16) ((-2)) (by decide) dX7_lay_16 ?_
    exact g_iret (pc := 18) rfl dX7_lay_18 ⟨hF, hN1, rfl⟩
  · refine g_aload_n (pc := 9) 0 rfl rfl dX7_lay_9 ?_
    refine fX7_55 (pc := 10) rfl hR.s0 dX7_lay_10 ?_
    have hnn := (oN_none (fun x hx => by have := hlt x hx; omega) h6)
    obtain ⟨hRp, hA⟩ := hI hnn
    refine g_topi (pc := 13) (x' := nI 0) (by rw [hRp.1]; rcases hno with z | z; exact absurd hnn z; rw [z]) ?_
    refine g_ifN_ne (pc := 13) 19 dX7_lay_13 (by decide) (by omega) (fun h13 => absurd h13 (by omega)) (fun h13 => ?_)
    refine g_bipush (pc := 16) ((-2)) (by decide) dX7_lay_16 ?_
    exact g_iret (pc := 18) rfl dX7_lay_18 ⟨hF, hN1, rfl⟩
set_option maxRecDepth 100000 in
set_option maxHeartbeats 4000000 in
theorem kX7_lay_ok (l : Launch) (E : gEnv) (M : gMem) (hR : mR E M) (hL : M.1 60 1 ≤ 200) (hT : ∀ p, p < M.1 60 1 → M.1 61 p ≤ 126) (hN : ∀ i, M.1 68 i < 100) (hok : (rMt (M.1 61) (M.1 60 1) 201 0 (M.1 68) s00).1 = none) (hn0 : (rMt (M.1 61) (M.1 60 1) 201 0 (M.1 68) s00).2.1.1 ≠ 0) : gMet l E mX7_lay 5 [.ref (gAd E 60)] M (fun v u => v = some (.int (nI (rMt (M.1 61) (M.1 60 1) 201 0 (M.1 68) s00).2.1.1)) ∧ ∃ u0, fRm M u0 ∧ (∀ i, u0.1 68 i < 100) ∧ mRep u0 (rMt (M.1 61) (M.1 60 1) 201 0 (M.1 68) s00).2 ∧ aOk (rMt (M.1 61) (M.1 60 1) 201 0 (M.1 68) s00).2 ∧ u = mTk u0) := by
  refine gMet_of (mm := mX7_lay) (h := 5) (M := M) [(0, .ref (gAd E 60))] (by decide) (Nat.le_of_ble_eq_true rfl) rfl ?_
  refine g_aload_n (pc := 0) 0 rfl rfl dX7_lay_0 ?_
  refine g_callV (pc := 1) (mc := mX7_readText) (rest := []) lX7_103 iX7_readText (kX7_readText l E M hR hL hT hN) ⟨Nat.le_of_ble_eq_true rfl, Nat.le_of_ble_eq_true rfl⟩ hR.s0 (by decide) (by decide) rfl rfl rfl rfl (Nat.le_of_ble_eq_true rfl) ⟨Nat.zero_le _, Nat.zero_le _⟩ dX7_lay_1 ?_
  intro v u hq
  obtain ⟨hF, hN1, rfl, hI⟩ := hq
  have hR := mR_2 hR hF.2
  have hlt := rMt_lt (t := M.1 61) (L := M.1 60 1) 201 0 (M.1 68) s00
  refine g_bipush (pc := 4) ((-4)) (by decide) dX7_lay_4 ?_
  refine g_icmp_ne (pc := 6) 16 dX7_lay_6 (by decide) (fun h6 => absurd h6 (fun q => q (by rw [hok]; rfl))) (fun h6 => ?_)
  refine g_aload_n (pc := 9) 0 rfl rfl dX7_lay_9 ?_
  refine fX7_55 (pc := 10) rfl hR.s0 dX7_lay_10 ?_
  obtain ⟨hRp, hA⟩ := hI hok
  have hn10 := hA.1
  refine g_topi (pc := 13) (x' := nI (rMt (M.1 61) (M.1 60 1) 201 0 (M.1 68) s00).2.1.1) (by rw [hRp.1]) ?_
  refine g_ifN_ne (pc := 13) 19 dX7_lay_13 (by decide) (by omega) (fun h13 => ?_) (fun h13 => absurd h13 (by omega))
  refine g_aload_n (pc := 19) 0 rfl rfl dX7_lay_19 ?_
  refine g_callV (pc := 20) (mc := mX7_takeRead) (rest := []) lX7_52 iX7_takeRead (kX7_takeRead l E u hR) ⟨Nat.le_of_ble_eq_true rfl, Nat.le_of_ble_eq_true rfl⟩ hR.s0 (by decide) (by decide) rfl rfl rfl rfl (Nat.le_of_ble_eq_true rfl) ⟨Nat.zero_le _, Nat.zero_le _⟩ dX7_lay_20 (g_rU ?_)
  refine g_aload_n (pc := 23) 0 rfl rfl dX7_lay_23 ?_
  refine fX7_61 (pc := 24) rfl hR.s0 dX7_lay_24 ?_
  refine g_topi (pc := 27) (x' := nI (rMt (M.1 61) (M.1 60 1) 201 0 (M.1 68) s00).2.1.1) (by rw [← hRp.1]; rfl) ?_
  exact g_iret (pc := 27) rfl dX7_lay_27 ⟨rfl, u, hF, hN1, hRp, hA, rfl⟩
