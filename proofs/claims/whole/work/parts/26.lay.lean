theorem rP_lt {t : Nat → Nat} {L : Nat} : ∀ k p st nf s x, st ≤ p → p + k ≤ L → (rP t L k p st nf s).1 = some x → x ≤ L := by
  intro k
  induction k with
  | zero =>
    intro p st nf s x h1 h2 h
    simp only [rP] at h
    split at h
    · cases h; omega
    · cases h
  | succ k ih =>
    intro p st nf s x h1 h2 h
    simp only [rP] at h
    split at h
    · split at h
      · cases h; omega
      · exact ih _ _ _ _ _ (Nat.le_refl _) (by omega) h
    · exact ih _ _ _ _ _ (by omega) (by omega) h
set_option maxRecDepth 100000 in
set_option maxHeartbeats 4000000 in
theorem kX6_fault (l : Launch) (E : gEnv) (M : gMem) (b b' : Nat) (hS : cS E M b b') (hL : M.1 1 1 ≤ 200) (hT : ∀ p, p < M.1 1 1 → M.1 2 p ≤ 126) (hN0 : ∀ i, M.1 4 i < 100) : gMet l E mX6_fault 5 [.ref (gAd E 1)] M (fun v u => fRd M u b' ∧ (∀ i, u.1 4 i < 100) ∧ v = some (.int (oN (rP (M.1 2) (M.1 1 1) (M.1 1 1) 0 0 (M.1 4) s00).1))) := by
  have hB := hS.B
  refine gMet_of (mm := mX6_fault) (h := 5) (M := M) [(0, .ref (gAd E 1))] (by decide) (Nat.le_of_ble_eq_true rfl) rfl ?_
  refine g_aload_n (pc := 0) 0 rfl rfl dX6_fault_0 ?_
  refine fX6_16 (pc := 1) 3 rfl hS.s1 hS.rr (by decide) dX6_fault_1 ?_
  refine g_aload_n (pc := 4) 0 rfl rfl dX6_fault_4 ?_
  refine fX6_27 (pc := 5) b' rfl hS.s1 hS.rd hS.d0 dX6_fault_5 ?_
  refine g_aload_n (pc := 8) 0 rfl rfl dX6_fault_8 ?_
  refine fX6_9 (pc := 9) 2 rfl hS.s1 hS.rt (by decide) dX6_fault_9 ?_
  refine g_aload_n (pc := 12) 0 rfl rfl dX6_fault_12 ?_
  refine fX6_49 (pc := 13) rfl hS.s1 dX6_fault_13 ?_
  refine g_callV (pc := 16) (mc := mX5_readInto) (rest := []) lX6_56 iX5_readInto (kX5_readInto l E M b b' hS (M.1 1 1) hL hT hN0) ⟨Nat.le_of_ble_eq_true rfl, Nat.le_of_ble_eq_true rfl⟩ hS.s3 (by decide) (by decide) rfl rfl rfl rfl (Nat.le_of_ble_eq_true rfl) ⟨Nat.zero_le _, Nat.zero_le _⟩ dX6_fault_16 ?_
  intro v u hq
  obtain ⟨hF, hN1, rfl, hI⟩ := hq
  exact g_iret (pc := 19) rfl dX6_fault_19 ⟨hF, hN1, rfl⟩
set_option maxRecDepth 100000 in
set_option maxHeartbeats 4000000 in
theorem kX6_layText_no (l : Launch) (E : gEnv) (M : gMem) (b b' : Nat) (hS : cS E M b b') (hL : M.1 1 1 ≤ 200) (hT : ∀ p, p < M.1 1 1 → M.1 2 p ≤ 126) (hN0 : ∀ i, M.1 4 i < 100) (hno : (rP (M.1 2) (M.1 1 1) (M.1 1 1) 0 0 (M.1 4) s00).1 ≠ none ∨ (rP (M.1 2) (M.1 1 1) (M.1 1 1) 0 0 (M.1 4) s00).2.1.1 = 0) : gMet l E mX6_layText 5 [.ref (gAd E 1)] M (fun v u => fRd M u b' ∧ (∀ i, u.1 4 i < 100) ∧ v = some (.int (-2))) := by
  have hB := hS.B
  refine gMet_of (mm := mX6_layText) (h := 5) (M := M) [(0, .ref (gAd E 1))] (by decide) (Nat.le_of_ble_eq_true rfl) rfl ?_
  refine g_aload_n (pc := 0) 0 rfl rfl dX6_layText_0 ?_
  refine fX6_16 (pc := 1) 3 rfl hS.s1 hS.rr (by decide) dX6_layText_1 ?_
  refine g_aload_n (pc := 4) 0 rfl rfl dX6_layText_4 ?_
  refine fX6_27 (pc := 5) b' rfl hS.s1 hS.rd hS.d0 dX6_layText_5 ?_
  refine g_aload_n (pc := 8) 0 rfl rfl dX6_layText_8 ?_
  refine fX6_9 (pc := 9) 2 rfl hS.s1 hS.rt (by decide) dX6_layText_9 ?_
  refine g_aload_n (pc := 12) 0 rfl rfl dX6_layText_12 ?_
  refine fX6_49 (pc := 13) rfl hS.s1 dX6_layText_13 ?_
  refine g_callV (pc := 16) (mc := mX5_readInto) (rest := []) lX6_56 iX5_readInto (kX5_readInto l E M b b' hS (M.1 1 1) hL hT hN0) ⟨Nat.le_of_ble_eq_true rfl, Nat.le_of_ble_eq_true rfl⟩ hS.s3 (by decide) (by decide) rfl rfl rfl rfl (Nat.le_of_ble_eq_true rfl) ⟨Nat.zero_le _, Nat.zero_le _⟩ dX6_layText_16 ?_
  intro v u hq
  obtain ⟨hF, hN1, rfl, hI⟩ := hq
  have hS := cS_2 hS hF.2
  have hlt := rP_lt (t := M.1 2) (L := M.1 1 1) (M.1 1 1) 0 0 (M.1 4) s00
  refine g_bipush (pc := 19) ((-4)) (by decide) dX6_layText_19 ?_
  refine g_icmp_ne (pc := 21) 34 dX6_layText_21 (by decide) (fun h21 => ?_) (fun h21 => ?_)
  · refine g_bipush (pc := 34) ((-2)) (by decide) dX6_layText_34 ?_
    exact g_iret (pc := 36) rfl dX6_layText_36 ⟨hF, hN1, rfl⟩
  · refine g_aload_n (pc := 24) 0 rfl rfl dX6_layText_24 ?_
    refine fX6_27 (pc := 25) b' rfl hS.s1 hS.rd hS.d0 dX6_layText_25 ?_
    refine fX6_60 (pc := 28) rfl hS.D.1.1 dX6_layText_28 ?_
    have hnn := (oN_none (fun x hx => by have := hlt x (Nat.le_refl _) (by omega) hx; omega) h21)
    obtain ⟨hR, hA⟩ := hI hnn
    refine g_topi (pc := 31) (x' := nI 0) (by rw [hR.1]; rcases hno with z | z; exact absurd hnn z; rw [z]) ?_
    refine g_ifN_ne (pc := 31) 37 dX6_layText_31 (by decide) (by omega) (fun h31 => absurd h31 (by omega)) (fun h31 => ?_)
    refine g_bipush (pc := 34) ((-2)) (by decide) dX6_layText_34 ?_
    exact g_iret (pc := 36) rfl dX6_layText_36 ⟨hF, hN1, rfl⟩
set_option maxRecDepth 100000 in
set_option maxHeartbeats 4000000 in
theorem kX6_layText_ok (l : Launch) (E : gEnv) (M : gMem) (b b' : Nat) (hS : cS E M b b') (hL : M.1 1 1 ≤ 200) (hT : ∀ p, p < M.1 1 1 → M.1 2 p ≤ 126) (hN0 : ∀ i, M.1 4 i < 100) (hok : (rP (M.1 2) (M.1 1 1) (M.1 1 1) 0 0 (M.1 4) s00).1 = none) (hn0 : (rP (M.1 2) (M.1 1 1) (M.1 1 1) 0 0 (M.1 4) s00).2.1.1 ≠ 0) : gMet l E mX6_layText 5 [.ref (gAd E 1)] M (fun v u => v = some (.int (nI (rP (M.1 2) (M.1 1 1) (M.1 1 1) 0 0 (M.1 4) s00).2.1.1)) ∧ ∃ u0, fRd M u0 b' ∧ (∀ i, u0.1 4 i < 100) ∧ bRep u0 b' (rP (M.1 2) (M.1 1 1) (M.1 1 1) 0 0 (M.1 4) s00).2 ∧ aOk (rP (M.1 2) (M.1 1 1) (M.1 1 1) 0 0 (M.1 4) s00).2 ∧ u = gU (gU (gUr (gUr u0 1 3 b') 1 4 b) 1 5 0) 5 1 0) := by
  have hB := hS.B
  have hbb := hS.2.2.2.2.1
  have hb5 : ¬ b' = 5 := by omega
  have hb1 : ¬ b' = 1 := by omega
  refine gMet_of (mm := mX6_layText) (h := 5) (M := M) [(0, .ref (gAd E 1))] (by decide) (Nat.le_of_ble_eq_true rfl) rfl ?_
  refine g_aload_n (pc := 0) 0 rfl rfl dX6_layText_0 ?_
  refine fX6_16 (pc := 1) 3 rfl hS.s1 hS.rr (by decide) dX6_layText_1 ?_
  refine g_aload_n (pc := 4) 0 rfl rfl dX6_layText_4 ?_
  refine fX6_27 (pc := 5) b' rfl hS.s1 hS.rd hS.d0 dX6_layText_5 ?_
  refine g_aload_n (pc := 8) 0 rfl rfl dX6_layText_8 ?_
  refine fX6_9 (pc := 9) 2 rfl hS.s1 hS.rt (by decide) dX6_layText_9 ?_
  refine g_aload_n (pc := 12) 0 rfl rfl dX6_layText_12 ?_
  refine fX6_49 (pc := 13) rfl hS.s1 dX6_layText_13 ?_
  refine g_callV (pc := 16) (mc := mX5_readInto) (rest := []) lX6_56 iX5_readInto (kX5_readInto l E M b b' hS (M.1 1 1) hL hT hN0) ⟨Nat.le_of_ble_eq_true rfl, Nat.le_of_ble_eq_true rfl⟩ hS.s3 (by decide) (by decide) rfl rfl rfl rfl (Nat.le_of_ble_eq_true rfl) ⟨Nat.zero_le _, Nat.zero_le _⟩ dX6_layText_16 ?_
  intro v u hq
  obtain ⟨hF, hN1, rfl, hI⟩ := hq
  have hS := cS_2 hS hF.2
  have hlt := rP_lt (t := M.1 2) (L := M.1 1 1) (M.1 1 1) 0 0 (M.1 4) s00
  refine g_bipush (pc := 19) ((-4)) (by decide) dX6_layText_19 ?_
  refine g_icmp_ne (pc := 21) 34 dX6_layText_21 (by decide) (fun h21 => absurd h21 (fun q => q (by rw [hok]; rfl))) (fun h21 => ?_)
  refine g_aload_n (pc := 24) 0 rfl rfl dX6_layText_24 ?_
  refine fX6_27 (pc := 25) b' rfl hS.s1 hS.rd hS.d0 dX6_layText_25 ?_
  refine fX6_60 (pc := 28) rfl hS.D.1.1 dX6_layText_28 ?_
  obtain ⟨hR, hA⟩ := hI hok
  have hn10 := hA.1
  refine g_topi (pc := 31) (x' := nI (rP (M.1 2) (M.1 1 1) (M.1 1 1) 0 0 (M.1 4) s00).2.1.1) (by rw [hR.1]) ?_
  refine g_ifN_ne (pc := 31) 37 dX6_layText_31 (by decide) (by omega) (fun h31 => ?_) (fun h31 => absurd h31 (by omega))
  refine g_aload_n (pc := 37) 0 rfl rfl dX6_layText_37 ?_
  refine fX6_23 (pc := 38) b rfl hS.s1 hS.rb hS.b0 dX6_layText_38 ?_
  refine g_astore_n (pc := 41) rfl [(0, .ref (gAd E 1)), (1, .ref (gAd E b))] dX6_layText_41 (by decide) rfl rfl ?_
  refine g_aload_n (pc := 42) 0 rfl rfl dX6_layText_42 ?_
  refine g_aload_n (pc := 43) 0 rfl rfl dX6_layText_43 ?_
  refine fX6_27 (pc := 44) b' rfl hS.s1 hS.rd hS.d0 dX6_layText_44 ?_
  refine uX6_23 (pc := 47) rfl hS.s1 hS.d0 dX6_layText_47 ?_
  refine g_aload_n (pc := 50) 0 rfl rfl dX6_layText_50 ?_
  refine g_aload_n (pc := 51) 1 rfl rfl dX6_layText_51 ?_
  refine uX6_27 (pc := 52) rfl hS.s1 hS.b0 dX6_layText_52 ?_
  refine g_aload_n (pc := 55) 0 rfl rfl dX6_layText_55 ?_
  refine g_iconst (pc := 56) (nI 0) (by decide) dX6_layText_56 ?_
  refine uX6_63 (pc := 57) rfl hS.s1 dX6_layText_57 ?_
  refine g_aload_n (pc := 60) 0 rfl rfl dX6_layText_60 ?_
  refine fX6_33 (pc := 61) 5 rfl hS.s1 hS.rh (by decide) dX6_layText_61 ?_
  refine g_callV (pc := 64) (mc := mX2_forget) (rest := []) lX6_66 iX2_forget (kX2_forget l E (gU (gUr (gUr u 1 3 b') 1 4 b) 1 5 0) hS.1) ⟨Nat.le_of_ble_eq_true rfl, Nat.le_of_ble_eq_true rfl⟩ hS.s5 (by decide) (by decide) rfl rfl rfl rfl (Nat.le_of_ble_eq_true rfl) ⟨Nat.zero_le _, Nat.zero_le _⟩ dX6_layText_64 (g_rU ?_)
  refine g_aload_n (pc := 67) 0 rfl rfl dX6_layText_67 ?_
  refine fX6_23 (pc := 68) b' rfl hS.s1 rfl hS.d0 dX6_layText_68 ?_
  refine fX6_60 (pc := 71) rfl hS.D.1.1 dX6_layText_71 ?_
  refine g_topi (pc := 74) (x' := nI (u.1 b' 1)) (by simp [gU, gUr, hb5, hb1]) ?_
  refine g_topi (pc := 74) (x' := nI (rP (M.1 2) (M.1 1 1) (M.1 1 1) 0 0 (M.1 4) s00).2.1.1) (by rw [← hR.1]; try rfl) ?_
  exact g_iret (pc := 74) rfl dX6_layText_74 ⟨rfl, u, hF, hN1, hR, hA, rfl⟩
set_option maxRecDepth 100000 in
set_option maxHeartbeats 4000000 in
theorem kX6_lay_no (l : Launch) (E : gEnv) (M : gMem) (b b' : Nat) (hS : cS E M b b') (hL : M.1 1 1 ≤ 200) (hT : ∀ p, p < M.1 1 1 → M.1 2 p ≤ 126) (hN0 : ∀ i, M.1 4 i < 100) (hno : (rP (M.1 2) (M.1 1 1) (M.1 1 1) 0 0 (M.1 4) s00).1 ≠ none ∨ (rP (M.1 2) (M.1 1 1) (M.1 1 1) 0 0 (M.1 4) s00).2.1.1 = 0) : gMet l E mX6_lay 6 [.ref (gAd E 1)] M (fun v u => fRd M u b' ∧ (∀ i, u.1 4 i < 100) ∧ v = some (.int (-2))) := by
  refine gMet_of (mm := mX6_lay) (h := 6) (M := M) [(0, .ref (gAd E 1))] (by decide) (Nat.le_of_ble_eq_true rfl) rfl ?_
  refine g_aload_n (pc := 0) 0 rfl rfl dX6_lay_0 ?_
  refine g_callV (pc := 1) (mc := mX6_layText) (rest := []) lX6_53 iX6_layText (kX6_layText_no l E M b b' hS hL hT hN0 hno) ⟨Nat.le_of_ble_eq_true rfl, Nat.le_of_ble_eq_true rfl⟩ hS.s1 (by decide) (by decide) rfl rfl rfl rfl (Nat.le_of_ble_eq_true rfl) ⟨Nat.zero_le _, Nat.zero_le _⟩ dX6_lay_1 ?_
  intro v u hq
  obtain ⟨hq1, hq2, rfl⟩ := hq
  exact g_iret (pc := 4) rfl dX6_lay_4 ⟨hq1, hq2, rfl⟩
set_option maxRecDepth 100000 in
set_option maxHeartbeats 4000000 in
theorem kX6_lay_ok (l : Launch) (E : gEnv) (M : gMem) (b b' : Nat) (hS : cS E M b b') (hL : M.1 1 1 ≤ 200) (hT : ∀ p, p < M.1 1 1 → M.1 2 p ≤ 126) (hN0 : ∀ i, M.1 4 i < 100) (hok : (rP (M.1 2) (M.1 1 1) (M.1 1 1) 0 0 (M.1 4) s00).1 = none) (hn0 : (rP (M.1 2) (M.1 1 1) (M.1 1 1) 0 0 (M.1 4) s00).2.1.1 ≠ 0) : gMet l E mX6_lay 6 [.ref (gAd E 1)] M (fun v u => v = some (.int (nI (rP (M.1 2) (M.1 1 1) (M.1 1 1) 0 0 (M.1 4) s00).2.1.1)) ∧ ∃ u0, fRd M u0 b' ∧ (∀ i, u0.1 4 i < 100) ∧ bRep u0 b' (rP (M.1 2) (M.1 1 1) (M.1 1 1) 0 0 (M.1 4) s00).2 ∧ aOk (rP (M.1 2) (M.1 1 1) (M.1 1 1) 0 0 (M.1 4) s00).2 ∧ u = gU (gU (gUr (gUr u0 1 3 b') 1 4 b) 1 5 0) 5 1 0) := by
  refine gMet_of (mm := mX6_lay) (h := 6) (M := M) [(0, .ref (gAd E 1))] (by decide) (Nat.le_of_ble_eq_true rfl) rfl ?_
  refine g_aload_n (pc := 0) 0 rfl rfl dX6_lay_0 ?_
  refine g_callV (pc := 1) (mc := mX6_layText) (rest := []) lX6_53 iX6_layText (kX6_layText_ok l E M b b' hS hL hT hN0 hok hn0) ⟨Nat.le_of_ble_eq_true rfl, Nat.le_of_ble_eq_true rfl⟩ hS.s1 (by decide) (by decide) rfl rfl rfl rfl (Nat.le_of_ble_eq_true rfl) ⟨Nat.zero_le _, Nat.zero_le _⟩ dX6_lay_1 ?_
  intro v u hq
  obtain ⟨rfl, hq2⟩ := hq
  exact g_iret (pc := 4) rfl dX6_lay_4 ⟨rfl, hq2⟩
