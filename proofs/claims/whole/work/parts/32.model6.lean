theorem inG_tR {x : Int32} {n : Nat} (h : inG x 0 n = true) : ∃ j, j < n + 1 ∧ x = nI j := inR_of (inG_R ▸ h)
theorem fSel_oG {n : Nat} {x : Int32} {g : Nat → Int32} {bad : Int32} (h : inG x 0 n = false) : fSel (n + 1) x g bad = bad := fSel_out (inG_R ▸ h)
set_option maxRecDepth 100000 in
set_option maxHeartbeats 4000000 in
theorem kX7_why (l : Launch) (E : gEnv) (M : gMem) (hR : mR E M) (hO : mO M) (hsg : M.1 66 10 < 1024) (x : Int32) : gMetI l E mX7_why 5 [.ref (gAd E 60), .int x] M (fSel (M.1 60 11) x (fun j => nI (sWhy (mV M) (M.1 60 11) (mH M) (M.1 60 12) (M.1 60 13) (M.1 60 14) (M.1 66 10) j)) (-1)) := by
  have hO' := hO
  obtain ⟨hn, hk, hft, hto, hU, hH⟩ := hO
  have hO := hO'
  refine gMet_of (mm := mX7_why) (h := 5) (M := M) [(0, .ref (gAd E 60)), (1, .int x)] (by decide) (Nat.le_of_ble_eq_true rfl) rfl ?_
  refine g_aload_n (pc := 0) 0 rfl rfl dX7_why_0 ?_
  refine g_iload_n (pc := 1) 1 rfl rfl dX7_why_1 ?_
  refine g_callV (pc := 2) (mc := mX7_isOffer) (rest := []) lX7_141 iX7_isOffer (kX7_isOffer l E M hR hO hsg (x)) ⟨Nat.le_of_ble_eq_true rfl, Nat.le_of_ble_eq_true rfl⟩ hR.s0 (by decide) (by decide) rfl rfl rfl rfl (Nat.le_of_ble_eq_true rfl) ⟨Nat.zero_le _, Nat.zero_le _⟩ dX7_why_2 (g_rI ?_)
  refine g_ifB_eq (pc := 5) 16 dX7_why_5 (by decide) (fun h5 => ?_) (fun h5 => ?_)
  · refine g_iconst (pc := 16) ((-1)) (by decide) dX7_why_16 ?_
    exact g_iret (pc := 17) rfl dX7_why_17 ⟨congrArg (fun z => some (Value.int z)) (by rw [fSel_out h5]), rfl⟩
  · obtain ⟨j, hj, rfl⟩ := inR_of h5
    refine g_aload_n (pc := 8) 0 rfl rfl dX7_why_8 ?_
    refine g_iload_n (pc := 9) 1 rfl rfl dX7_why_9 ?_
    refine g_callV (pc := 10) (mc := mX7_whyOf) (rest := []) lX7_144 iX7_whyOf (kX7_whyOf l E M hR hO hsg j (by omega)) ⟨Nat.le_of_ble_eq_true rfl, Nat.le_of_ble_eq_true rfl⟩ hR.s0 (by decide) (by decide) rfl rfl rfl rfl (Nat.le_of_ble_eq_true rfl) ⟨Nat.zero_le _, Nat.zero_le _⟩ dX7_why_10 (g_rI ?_)
    refine g_goto (pc := 13) 17 dX7_why_13 (by decide) ?_
    exact g_iret (pc := 17) rfl dX7_why_17 ⟨congrArg (fun z => some (Value.int z)) (by rw [fSel_in hj (by omega)]), rfl⟩
set_option maxRecDepth 100000 in
set_option maxHeartbeats 4000000 in
theorem kX7_clash (l : Launch) (E : gEnv) (M : gMem) (hR : mR E M) (hO : mO M) (hsg : M.1 66 10 < 1024) (x : Int32) : gMetI l E mX7_clash 5 [.ref (gAd E 60), .int x] M (fSel (M.1 60 11) x (fun j => oN (sClashOf (mV M) (M.1 60 11) j (M.1 66 10))) (-1)) := by
  have hO' := hO
  obtain ⟨hn, hk, hft, hto, hU, hH⟩ := hO
  have hO := hO'
  refine gMet_of (mm := mX7_clash) (h := 5) (M := M) [(0, .ref (gAd E 60)), (1, .int x)] (by decide) (Nat.le_of_ble_eq_true rfl) rfl ?_
  refine g_aload_n (pc := 0) 0 rfl rfl dX7_clash_0 ?_
  refine g_iload_n (pc := 1) 1 rfl rfl dX7_clash_1 ?_
  refine g_callV (pc := 2) (mc := mX7_isOffer) (rest := []) lX7_141 iX7_isOffer (kX7_isOffer l E M hR hO hsg (x)) ⟨Nat.le_of_ble_eq_true rfl, Nat.le_of_ble_eq_true rfl⟩ hR.s0 (by decide) (by decide) rfl rfl rfl rfl (Nat.le_of_ble_eq_true rfl) ⟨Nat.zero_le _, Nat.zero_le _⟩ dX7_clash_2 (g_rI ?_)
  refine g_ifB_eq (pc := 5) 16 dX7_clash_5 (by decide) (fun h5 => ?_) (fun h5 => ?_)
  · refine g_iconst (pc := 16) ((-1)) (by decide) dX7_clash_16 ?_
    exact g_iret (pc := 17) rfl dX7_clash_17 ⟨congrArg (fun z => some (Value.int z)) (by rw [fSel_out h5]), rfl⟩
  · obtain ⟨j, hj, rfl⟩ := inR_of h5
    refine g_aload_n (pc := 8) 0 rfl rfl dX7_clash_8 ?_
    refine g_iload_n (pc := 9) 1 rfl rfl dX7_clash_9 ?_
    refine g_callV (pc := 10) (mc := mX7_clashOf) (rest := []) lX7_135 iX7_clashOf (kX7_clashOf l E M hR hO hsg j (by omega)) ⟨Nat.le_of_ble_eq_true rfl, Nat.le_of_ble_eq_true rfl⟩ hR.s0 (by decide) (by decide) rfl rfl rfl rfl (Nat.le_of_ble_eq_true rfl) ⟨Nat.zero_le _, Nat.zero_le _⟩ dX7_clash_10 (g_rI ?_)
    refine g_goto (pc := 13) 17 dX7_clash_13 (by decide) ?_
    exact g_iret (pc := 17) rfl dX7_clash_17 ⟨congrArg (fun z => some (Value.int z)) (by rw [fSel_in hj (by omega)]), rfl⟩
set_option maxRecDepth 100000 in
set_option maxHeartbeats 4000000 in
theorem kX7_common (l : Launch) (E : gEnv) (M : gMem) (hR : mR E M) (hO : mO M) (hsg : M.1 66 10 < 1024) (x y : Int32) : gMetI l E mX7_common 2 [.ref (gAd E 60), .int x, .int y] M (fSel (M.1 60 11) x (fun i => fSel (M.1 60 11) y (fun j => if i = j then -1 else nI (sCom (mV M i) (mV M j))) (-1)) (-1)) := by
  have hO' := hO
  obtain ⟨hn, hk, hft, hto, hU, hH⟩ := hO
  have hO := hO'
  refine gMet_of (mm := mX7_common) (h := 2) (M := M) [(0, .ref (gAd E 60)), (1, .int x), (2, .int y)] (by decide) (Nat.le_of_ble_eq_true rfl) rfl ?_
  refine g_aload_n (pc := 0) 0 rfl rfl dX7_common_0 ?_
  refine g_iload_n (pc := 1) 1 rfl rfl dX7_common_1 ?_
  refine g_callV (pc := 2) (mc := mX7_isOffer) (rest := []) lX7_141 iX7_isOffer (kX7_isOffer l E M hR hO hsg (x)) ⟨Nat.le_of_ble_eq_true rfl, Nat.le_of_ble_eq_true rfl⟩ hR.s0 (by decide) (by decide) rfl rfl rfl rfl (Nat.le_of_ble_eq_true rfl) ⟨Nat.zero_le _, Nat.zero_le _⟩ dX7_common_2 (g_rI ?_)
  refine g_ifB_eq (pc := 5) 30 dX7_common_5 (by decide) (fun h5 => ?_) (fun h5 => ?_)
  · refine g_iconst (pc := 30) ((-1)) (by decide) dX7_common_30 ?_
    exact g_iret (pc := 31) rfl dX7_common_31 ⟨congrArg (fun z => some (Value.int z)) (by rw [fSel_out h5]), rfl⟩
  · obtain ⟨i, hi, rfl⟩ := inR_of h5
    refine g_aload_n (pc := 8) 0 rfl rfl dX7_common_8 ?_
    refine g_iload_n (pc := 9) 2 rfl rfl dX7_common_9 ?_
    refine g_callV (pc := 10) (mc := mX7_isOffer) (rest := []) lX7_141 iX7_isOffer (kX7_isOffer l E M hR hO hsg (y)) ⟨Nat.le_of_ble_eq_true rfl, Nat.le_of_ble_eq_true rfl⟩ hR.s0 (by decide) (by decide) rfl rfl rfl rfl (Nat.le_of_ble_eq_true rfl) ⟨Nat.zero_le _, Nat.zero_le _⟩ dX7_common_10 (g_rI ?_)
    refine g_ifB_eq (pc := 13) 30 dX7_common_13 (by decide) (fun h13 => ?_) (fun h13 => ?_)
    · refine g_iconst (pc := 30) ((-1)) (by decide) dX7_common_30 ?_
      exact g_iret (pc := 31) rfl dX7_common_31 ⟨congrArg (fun z => some (Value.int z)) (by rw [fSel_in hi (by omega), fSel_out h13]), rfl⟩
    · obtain ⟨j, hj, rfl⟩ := inR_of h13
      refine g_iload_n (pc := 16) 1 rfl rfl dX7_common_16 ?_
      refine g_iload_n (pc := 17) 2 rfl rfl dX7_common_17 ?_
      refine g_icmpN_eq (pc := 18) 30 dX7_common_18 (by decide) (by omega) (by omega) (fun h18 => ?_) (fun h18 => ?_)
      · refine g_iconst (pc := 30) ((-1)) (by decide) dX7_common_30 ?_
        exact g_iret (pc := 31) rfl dX7_common_31 ⟨congrArg (fun z => some (Value.int z)) (by rw [fSel_in hi (by omega), fSel_in hj (by omega), if_pos h18]), rfl⟩
      · refine g_aload_n (pc := 21) 0 rfl rfl dX7_common_21 ?_
        refine g_iload_n (pc := 22) 1 rfl rfl dX7_common_22 ?_
        refine g_iload_n (pc := 23) 2 rfl rfl dX7_common_23 ?_
        refine g_callV (pc := 24) (mc := mX7_commonOf) (rest := []) lX7_115 iX7_commonOf (kX7_commonOf l E M hR hO i j (by omega) (by omega)) ⟨Nat.le_of_ble_eq_true rfl, Nat.le_of_ble_eq_true rfl⟩ hR.s0 (by decide) (by decide) rfl rfl rfl rfl (Nat.le_of_ble_eq_true rfl) ⟨Nat.zero_le _, Nat.zero_le _⟩ dX7_common_24 (g_rI ?_)
        refine g_goto (pc := 27) 31 dX7_common_27 (by decide) ?_
        exact g_iret (pc := 31) rfl dX7_common_31 ⟨congrArg (fun z => some (Value.int z)) (by rw [fSel_in hi (by omega), fSel_in hj (by omega), if_neg h18]), rfl⟩
set_option maxRecDepth 100000 in
set_option maxHeartbeats 4000000 in
theorem kX7_begin (l : Launch) (E : gEnv) (M : gMem) (hR : mR E M) (hO : mO M) (hsg : M.1 66 10 < 1024) (x y : Int32) : gMetI l E mX7_begin 2 [.ref (gAd E 60), .int x, .int y] M (fSel 6 x (fun i => fSel 4 y (fun j => oN (sBg (mV M) (M.1 66 10) i j (M.1 60 11))) (-1)) (-1)) := by
  have hO' := hO
  obtain ⟨hn, hk, hft, hto, hU, hH⟩ := hO
  have hO := hO'
  refine gMet_of (mm := mX7_begin) (h := 2) (M := M) [(0, .ref (gAd E 60)), (1, .int x), (2, .int y)] (by decide) (Nat.le_of_ble_eq_true rfl) rfl ?_
  refine g_iload_n (pc := 0) 1 rfl rfl dX7_begin_0 ?_
  refine g_iconst (pc := 1) (nI 0) (by decide) dX7_begin_1 ?_
  refine g_iconst (pc := 2) (nI 5) (by decide) dX7_begin_2 ?_
  refine g_callS (pc := 3) (mc := mX7_in) (rest := []) lX7_82 iX7_in (kX7_inG l E M (x) 0 5 (by omega) (by omega)) ⟨Nat.le_of_ble_eq_true rfl, Nat.le_of_ble_eq_true rfl⟩ rfl rfl (Nat.le_of_ble_eq_true rfl) ⟨Nat.zero_le _, Nat.zero_le _⟩ dX7_begin_3 (g_rI ?_)
  refine g_ifB_eq (pc := 6) 34 dX7_begin_6 (by decide) (fun h6 => ?_) (fun h6 => ?_)
  · refine g_iconst (pc := 34) ((-1)) (by decide) dX7_begin_34 ?_
    exact g_iret (pc := 35) rfl dX7_begin_35 ⟨congrArg (fun z => some (Value.int z)) (by rw [fSel_oG (n := 5) h6]), rfl⟩
  · obtain ⟨i, hi, rfl⟩ := inG_tR h6
    refine g_iload_n (pc := 9) 2 rfl rfl dX7_begin_9 ?_
    refine g_iconst (pc := 10) (nI 0) (by decide) dX7_begin_10 ?_
    refine g_iconst (pc := 11) (nI 3) (by decide) dX7_begin_11 ?_
    refine g_callS (pc := 12) (mc := mX7_in) (rest := []) lX7_82 iX7_in (kX7_inG l E M (y) 0 3 (by omega) (by omega)) ⟨Nat.le_of_ble_eq_true rfl, Nat.le_of_ble_eq_true rfl⟩ rfl rfl (Nat.le_of_ble_eq_true rfl) ⟨Nat.zero_le _, Nat.zero_le _⟩ dX7_begin_12 (g_rI ?_)
    refine g_ifB_eq (pc := 15) 34 dX7_begin_15 (by decide) (fun h15 => ?_) (fun h15 => ?_)
    · refine g_iconst (pc := 34) ((-1)) (by decide) dX7_begin_34 ?_
      exact g_iret (pc := 35) rfl dX7_begin_35 ⟨congrArg (fun z => some (Value.int z)) (by rw [fSel_in hi (by omega), fSel_oG (n := 3) h15]), rfl⟩
    · obtain ⟨j, hj, rfl⟩ := inG_tR h15
      refine g_aload_n (pc := 18) 0 rfl rfl dX7_begin_18 ?_
      refine g_aload_n (pc := 19) 0 rfl rfl dX7_begin_19 ?_
      refine fX7_25 (pc := 20) 66 rfl hR.s0 hR.r6 (by decide) dX7_begin_20 ?_
      refine g_bipush (pc := 23) (nI 10) (by decide) dX7_begin_23 ?_
      refine g_iaload (pc := 25) hR.s6 (by rw [hR.l6]; omega) (by rw [hR.l6]; omega) dX7_begin_25 ?_
      refine g_iload_n (pc := 26) 1 rfl rfl dX7_begin_26 ?_
      refine g_iload_n (pc := 27) 2 rfl rfl dX7_begin_27 ?_
      refine g_callV (pc := 28) (mc := mX7_beginOf) (rest := []) lX7_118 iX7_beginOf (kX7_beginOf l E M hR hO (M.1 66 10) i j (by omega) (by omega) (by omega)) ⟨Nat.le_of_ble_eq_true rfl, Nat.le_of_ble_eq_true rfl⟩ hR.s0 (by decide) (by decide) rfl rfl rfl rfl (Nat.le_of_ble_eq_true rfl) ⟨Nat.zero_le _, Nat.zero_le _⟩ dX7_begin_28 (g_rI ?_)
      refine g_goto (pc := 31) 35 dX7_begin_31 (by decide) ?_
      exact g_iret (pc := 35) rfl dX7_begin_35 ⟨congrArg (fun z => some (Value.int z)) (by rw [fSel_in hi (by omega), fSel_in hj (by omega)]), rfl⟩
set_option maxRecDepth 100000 in
set_option maxHeartbeats 4000000 in
theorem kX7_broken (l : Launch) (E : gEnv) (M : gMem) (hR : mR E M) (hO : mO M) (hsg : M.1 66 10 < 1024) (x : Int32) : gMetI l E mX7_broken 3 [.ref (gAd E 60), .int x] M (fSel (M.1 60 12) x (fun h => nI (sBrk (mV M) (M.1 60 11) (mH M) (M.1 66 10) h 6)) (-1)) := by
  have hO' := hO
  obtain ⟨hn, hk, hft, hto, hU, hH⟩ := hO
  have hO := hO'
  refine gMet_of (mm := mX7_broken) (h := 3) (M := M) [(0, .ref (gAd E 60)), (1, .int x)] (by decide) (Nat.le_of_ble_eq_true rfl) rfl ?_
  refine g_iload_n (pc := 0) 1 rfl rfl dX7_broken_0 ?_
  refine g_iconst (pc := 1) (nI 0) (by decide) dX7_broken_1 ?_
  refine g_aload_n (pc := 2) 0 rfl rfl dX7_broken_2 ?_
  refine fX7_64 (pc := 3) rfl hR.s0 dX7_broken_3 ?_
  refine g_iconst (pc := 6) (nI 1) (by decide) dX7_broken_6 ?_
  refine g_isub (pc := 7) dX7_broken_7 ?_
  refine g_callS (pc := 8) (mc := mX7_in) (rest := []) lX7_82 iX7_in (kX7_inR l E M (x) (M.1 60 12) (by omega)) ⟨Nat.le_of_ble_eq_true rfl, Nat.le_of_ble_eq_true rfl⟩ rfl rfl (Nat.le_of_ble_eq_true rfl) ⟨Nat.zero_le _, Nat.zero_le _⟩ dX7_broken_8 (g_rI ?_)
  refine g_ifB_eq (pc := 11) 29 dX7_broken_11 (by decide) (fun h11 => ?_) (fun h11 => ?_)
  · refine g_iconst (pc := 29) ((-1)) (by decide) dX7_broken_29 ?_
    exact g_iret (pc := 30) rfl dX7_broken_30 ⟨congrArg (fun z => some (Value.int z)) (by rw [fSel_out h11]), rfl⟩
  · obtain ⟨h, hh, rfl⟩ := inR_of h11
    refine g_aload_n (pc := 14) 0 rfl rfl dX7_broken_14 ?_
    refine g_aload_n (pc := 15) 0 rfl rfl dX7_broken_15 ?_
    refine fX7_25 (pc := 16) 66 rfl hR.s0 hR.r6 (by decide) dX7_broken_16 ?_
    refine g_bipush (pc := 19) (nI 10) (by decide) dX7_broken_19 ?_
    refine g_iaload (pc := 21) hR.s6 (by rw [hR.l6]; omega) (by rw [hR.l6]; omega) dX7_broken_21 ?_
    refine g_iload_n (pc := 22) 1 rfl rfl dX7_broken_22 ?_
    refine g_callV (pc := 23) (mc := mX7_brokenBy) (rest := []) lX7_122 iX7_brokenBy (kX7_brokenBy l E M hR hO (M.1 66 10) h (by omega) (by omega)) ⟨Nat.le_of_ble_eq_true rfl, Nat.le_of_ble_eq_true rfl⟩ hR.s0 (by decide) (by decide) rfl rfl rfl rfl (Nat.le_of_ble_eq_true rfl) ⟨Nat.zero_le _, Nat.zero_le _⟩ dX7_broken_23 (g_rI ?_)
    refine g_goto (pc := 26) 30 dX7_broken_26 (by decide) ?_
    exact g_iret (pc := 30) rfl dX7_broken_30 ⟨congrArg (fun z => some (Value.int z)) (by rw [fSel_in hh (by omega)]), rfl⟩
theorem sOffer_o {V : Nat → Nat → Nat} {sg i w : Nat} (h7 : w ≠ 7) (h8 : w ≠ 8) : sOffer V sg i w = V i w := by
  unfold sOffer
  split
  · exact absurd rfl h7
  · exact absurd rfl h8
  · rfl
set_option maxRecDepth 100000 in
set_option maxHeartbeats 4000000 in
theorem kX7_offer (l : Launch) (E : gEnv) (M : gMem) (hR : mR E M) (hO : mO M) (hsg : M.1 66 10 < 1024) (x y : Int32) : gMetI l E mX7_offer 2 [.ref (gAd E 60), .int x, .int y] M (fSel (M.1 60 11) x (fun i => fSel 9 y (fun w => nI (sOffer (mV M) (M.1 66 10) i w)) (-1)) (-1)) := by
  have hO' := hO
  obtain ⟨hn, hk, hft, hto, hU, hH⟩ := hO
  have hO := hO'
  refine gMet_of (mm := mX7_offer) (h := 2) (M := M) [(0, .ref (gAd E 60)), (1, .int x), (2, .int y)] (by decide) (Nat.le_of_ble_eq_true rfl) rfl ?_
  refine g_aload_n (pc := 0) 0 rfl rfl dX7_offer_0 ?_
  refine g_iload_n (pc := 1) 1 rfl rfl dX7_offer_1 ?_
  refine g_callV (pc := 2) (mc := mX7_isOffer) (rest := []) lX7_141 iX7_isOffer (kX7_isOffer l E M hR hO hsg (x)) ⟨Nat.le_of_ble_eq_true rfl, Nat.le_of_ble_eq_true rfl⟩ hR.s0 (by decide) (by decide) rfl rfl rfl rfl (Nat.le_of_ble_eq_true rfl) ⟨Nat.zero_le _, Nat.zero_le _⟩ dX7_offer_2 (g_rI ?_)
  refine g_ifB_eq (pc := 5) 18 dX7_offer_5 (by decide) (fun h5 => ?_) (fun h5 => ?_)
  · refine g_iconst (pc := 18) ((-1)) (by decide) dX7_offer_18 ?_
    exact g_iret (pc := 19) rfl dX7_offer_19 ⟨congrArg (fun z => some (Value.int z)) (by rw [fSel_out h5]), rfl⟩
  · obtain ⟨i, hi, rfl⟩ := inR_of h5
    refine g_iload_n (pc := 8) 2 rfl rfl dX7_offer_8 ?_
    refine g_iconst (pc := 9) (nI 0) (by decide) dX7_offer_9 ?_
    refine g_bipush (pc := 10) (nI 8) (by decide) dX7_offer_10 ?_
    refine g_callS (pc := 12) (mc := mX7_in) (rest := []) lX7_82 iX7_in (kX7_inG l E M (y) 0 8 (by omega) (by omega)) ⟨Nat.le_of_ble_eq_true rfl, Nat.le_of_ble_eq_true rfl⟩ rfl rfl (Nat.le_of_ble_eq_true rfl) ⟨Nat.zero_le _, Nat.zero_le _⟩ dX7_offer_12 (g_rI ?_)
    refine g_ifB_ne (pc := 15) 20 dX7_offer_15 (by decide) (fun h15 => ?_) (fun h15 => ?_)
    · obtain ⟨w, hw, rfl⟩ := inG_tR h15
      refine g_iload_n (pc := 20) 2 rfl rfl dX7_offer_20 ?_
      refine g_bipush (pc := 21) (nI 7) (by decide) dX7_offer_21 ?_
      refine g_icmpN_ge (pc := 23) 35 dX7_offer_23 (by decide) (by omega) (by omega) (fun h23 => ?_) (fun h23 => ?_)
      · refine g_iload_n (pc := 35) 2 rfl rfl dX7_offer_35 ?_
        refine g_bipush (pc := 36) (nI 7) (by decide) dX7_offer_36 ?_
        refine g_icmpN_ne (pc := 38) 57 dX7_offer_38 (by decide) (by omega) (by omega) (fun h38 => ?_) (fun h38 => ?_)
        · refine g_aload_n (pc := 57) 0 rfl rfl dX7_offer_57 ?_
          refine g_iload_n (pc := 58) 1 rfl rfl dX7_offer_58 ?_
          refine g_iload_n (pc := 59) 1 rfl rfl dX7_offer_59 ?_
          refine g_callV (pc := 60) (mc := mX7_commonOf) (rest := []) lX7_115 iX7_commonOf (kX7_commonOf l E M hR hO i i (by omega) (by omega)) ⟨Nat.le_of_ble_eq_true rfl, Nat.le_of_ble_eq_true rfl⟩ hR.s0 (by decide) (by decide) rfl rfl rfl rfl (Nat.le_of_ble_eq_true rfl) ⟨Nat.zero_le _, Nat.zero_le _⟩ dX7_offer_60 (g_rI ?_)
          exact g_iret (pc := 63) rfl dX7_offer_63 ⟨congrArg (fun z => some (Value.int z)) (by rw [fSel_in hi (by omega), fSel_in hw (by omega)]; rw [show w = 8 by omega]; rfl), rfl⟩
        · refine g_aload_n (pc := 41) 0 rfl rfl dX7_offer_41 ?_
          refine g_iload_n (pc := 42) 1 rfl rfl dX7_offer_42 ?_
          refine g_callV (pc := 43) (mc := mX7_isSigned) (rest := []) lX7_125 iX7_isSigned (kX7_isSigned l E M hR hsg i (by omega)) ⟨Nat.le_of_ble_eq_true rfl, Nat.le_of_ble_eq_true rfl⟩ hR.s0 (by decide) (by decide) rfl rfl rfl rfl (Nat.le_of_ble_eq_true rfl) ⟨Nat.zero_le _, Nat.zero_le _⟩ dX7_offer_43 (g_rI ?_)
          refine g_ifB_eq (pc := 46) 53 dX7_offer_46 (by decide) (fun h46 => ?_) (fun h46 => ?_)
          · refine g_iconst (pc := 53) (nI 0) (by decide) dX7_offer_53 ?_
            refine g_goto (pc := 54) 63 dX7_offer_54 (by decide) ?_
            exact g_iret (pc := 63) rfl dX7_offer_63 ⟨congrArg (fun z => some (Value.int z)) (by rw [fSel_in hi (by omega), fSel_in hw (by omega)]; subst h38; show _ = nI (if (M.1 66 10).testBit i then 1 else 0); rw [h46]; rfl), rfl⟩
          · refine g_iconst (pc := 49) (nI 1) (by decide) dX7_offer_49 ?_
            refine g_goto (pc := 50) 63 dX7_offer_50 (by decide) ?_
            exact g_iret (pc := 63) rfl dX7_offer_63 ⟨congrArg (fun z => some (Value.int z)) (by rw [fSel_in hi (by omega), fSel_in hw (by omega)]; subst h38; show _ = nI (if (M.1 66 10).testBit i then 1 else 0); rw [h46]; rfl), rfl⟩
      · refine g_aload_n (pc := 26) 0 rfl rfl dX7_offer_26 ?_
        refine g_iload_n (pc := 27) 1 rfl rfl dX7_offer_27 ?_
        refine g_iload_n (pc := 28) 2 rfl rfl dX7_offer_28 ?_
        refine g_callV (pc := 29) (mc := mX7_of) (rest := []) lX7_107 iX7_of (kX7_of l E M hR i w (by omega) (by omega)) ⟨Nat.le_of_ble_eq_true rfl, Nat.le_of_ble_eq_true rfl⟩ hR.s0 (by decide) (by decide) rfl rfl rfl rfl (Nat.le_of_ble_eq_true rfl) ⟨Nat.zero_le _, Nat.zero_le _⟩ dX7_offer_29 (g_rI ?_)
        refine g_goto (pc := 32) 63 dX7_offer_32 (by decide) ?_
        exact g_iret (pc := 63) rfl dX7_offer_63 ⟨congrArg (fun z => some (Value.int z)) (by rw [fSel_in hi (by omega), fSel_in hw (by omega)]; rw [sOffer_o (by omega) (by omega)]), rfl⟩
    · refine g_iconst (pc := 18) ((-1)) (by decide) dX7_offer_18 ?_
      exact g_iret (pc := 19) rfl dX7_offer_19 ⟨congrArg (fun z => some (Value.int z)) (by rw [fSel_in hi (by omega), fSel_oG (n := 8) h15]), rfl⟩
def sPmI (V : Nat → Nat → Nat) (i : Nat) : Nat → Nat := sSum (fun j => if sCl (V i) (V j) then 1 else 0)
def sPm (V : Nat → Nat → Nat) : Nat → Nat := sSum (fun i => sPmI V i i)
set_option maxRecDepth 100000 in
set_option maxHeartbeats 4000000 in
theorem kX7_count (l : Launch) (E : gEnv) (M : gMem) (hR : mR E M) (hO : mO M) (hsg : M.1 66 10 < 1024) (y : Int32) : gMetI l E mX7_count 3 [.ref (gAd E 60), .int y] M (fSel 9 y (fun w => nI (sCount (M.1 60 11) (M.1 60 12) (M.1 60 13) (M.1 60 14) (sOnes (M.1 66 10)) (sPrice (mV M) (M.1 60 11) (M.1 66 10)) (sPm (mV M) (M.1 60 11)) (M.1 60 17) (M.1 60 1) w)) (-1)) := by
  have hO' := hO
  obtain ⟨hn, hk, hft, hto, hU, hH⟩ := hO
  have hO := hO'
  refine gMet_of (mm := mX7_count) (h := 3) (M := M) [(0, .ref (gAd E 60)), (1, .int y)] (by decide) (Nat.le_of_ble_eq_true rfl) rfl ?_
  cases hq : inR y 9 with
  | false =>
    refine g_iload_n (pc := 0) 1 rfl rfl dX7_count_0 ?_
    refine g_tableOut (pc := 1) 158 dX7_count_1 (by have h := of_decide_eq_false hq; omega) (by decide) ?_
    refine g_iconst (pc := 158) ((-1)) (by decide) dX7_count_158 ?_
    exact g_iret (pc := 159) rfl dX7_count_159 ⟨congrArg (fun z => some (Value.int z)) (by rw [fSel_out hq]), rfl⟩
  | true =>
    obtain ⟨q, hq, rfl⟩ := inR_of hq
    rcases (show q = 0 ∨ q = 1 ∨ q = 2 ∨ q = 3 ∨ q = 4 ∨ q = 5 ∨ q = 6 ∨ q = 7 ∨ q = 8 by omega) with rfl | rfl | rfl | rfl | rfl | rfl | rfl | rfl | rfl
    · refine g_iload_n (pc := 0) 1 rfl rfl dX7_count_0 ?_
      refine g_tableIn (pc := 1) (off := 51) 52 dX7_count_1 (by decide) (by decide) (by decide) (by decide) ?_
      refine g_aload_n (pc := 52) 0 rfl rfl dX7_count_52 ?_
      refine fX7_61 (pc := 53) rfl hR.s0 dX7_count_53 ?_
      exact g_iret (pc := 56) rfl dX7_count_56 ⟨congrArg (fun z => some (Value.int z)) (by rw [fSel_in (by omega) (by omega)]; rfl), rfl⟩
    · refine g_iload_n (pc := 0) 1 rfl rfl dX7_count_0 ?_
      refine g_tableIn (pc := 1) (off := 56) 57 dX7_count_1 (by decide) (by decide) (by decide) (by decide) ?_
      refine g_aload_n (pc := 57) 0 rfl rfl dX7_count_57 ?_
      refine fX7_64 (pc := 58) rfl hR.s0 dX7_count_58 ?_
      exact g_iret (pc := 61) rfl dX7_count_61 ⟨congrArg (fun z => some (Value.int z)) (by rw [fSel_in (by omega) (by omega)]; rfl), rfl⟩
    · refine g_iload_n (pc := 0) 1 rfl rfl dX7_count_0 ?_
      refine g_tableIn (pc := 1) (off := 61) 62 dX7_count_1 (by decide) (by decide) (by decide) (by decide) ?_
      refine g_aload_n (pc := 62) 0 rfl rfl dX7_count_62 ?_
      refine fX7_67 (pc := 63) rfl hR.s0 dX7_count_63 ?_
      exact g_iret (pc := 66) rfl dX7_count_66 ⟨congrArg (fun z => some (Value.int z)) (by rw [fSel_in (by omega) (by omega)]; rfl), rfl⟩
    · refine g_iload_n (pc := 0) 1 rfl rfl dX7_count_0 ?_
      refine g_tableIn (pc := 1) (off := 66) 67 dX7_count_1 (by decide) (by decide) (by decide) (by decide) ?_
      refine g_aload_n (pc := 67) 0 rfl rfl dX7_count_67 ?_
      refine fX7_70 (pc := 68) rfl hR.s0 dX7_count_68 ?_
      exact g_iret (pc := 71) rfl dX7_count_71 ⟨congrArg (fun z => some (Value.int z)) (by rw [fSel_in (by omega) (by omega)]; rfl), rfl⟩
    · refine g_iload_n (pc := 0) 1 rfl rfl dX7_count_0 ?_
      refine g_tableIn (pc := 1) (off := 71) 72 dX7_count_1 (by decide) (by decide) (by decide) (by decide) ?_
      refine g_aload_n (pc := 72) 0 rfl rfl dX7_count_72 ?_
      refine fX7_25 (pc := 73) 66 rfl hR.s0 hR.r6 (by decide) dX7_count_73 ?_
      refine g_bipush (pc := 76) (nI 10) (by decide) dX7_count_76 ?_
      refine g_iaload (pc := 78) hR.s6 (by rw [hR.l6]; omega) (by rw [hR.l6]; omega) dX7_count_78 ?_
      refine g_callS (pc := 79) (mc := mX7_ones) (rest := []) lX7_111 iX7_ones (kX7_ones l E M (M.1 66 10) (by omega)) ⟨Nat.le_of_ble_eq_true rfl, Nat.le_of_ble_eq_true rfl⟩ rfl rfl (Nat.le_of_ble_eq_true rfl) ⟨Nat.zero_le _, Nat.zero_le _⟩ dX7_count_79 (g_rI ?_)
      exact g_iret (pc := 82) rfl dX7_count_82 ⟨congrArg (fun z => some (Value.int z)) (by rw [fSel_in (by omega) (by omega)]; rfl), rfl⟩
    · refine g_iload_n (pc := 0) 1 rfl rfl dX7_count_0 ?_
      refine g_tableIn (pc := 1) (off := 82) 83 dX7_count_1 (by decide) (by decide) (by decide) (by decide) ?_
      refine g_aload_n (pc := 83) 0 rfl rfl dX7_count_83 ?_
      refine g_aload_n (pc := 84) 0 rfl rfl dX7_count_84 ?_
      refine fX7_25 (pc := 85) 66 rfl hR.s0 hR.r6 (by decide) dX7_count_85 ?_
      refine g_bipush (pc := 88) (nI 10) (by decide) dX7_count_88 ?_
      refine g_iaload (pc := 90) hR.s6 (by rw [hR.l6]; omega) (by rw [hR.l6]; omega) dX7_count_90 ?_
      refine g_callV (pc := 91) (mc := mX7_pricesOf) (rest := []) lX7_174 iX7_pricesOf (kX7_pricesOf l E M hR hO (M.1 66 10) (by omega)) ⟨Nat.le_of_ble_eq_true rfl, Nat.le_of_ble_eq_true rfl⟩ hR.s0 (by decide) (by decide) rfl rfl rfl rfl (Nat.le_of_ble_eq_true rfl) ⟨Nat.zero_le _, Nat.zero_le _⟩ dX7_count_91 (g_rI ?_)
      exact g_iret (pc := 94) rfl dX7_count_94 ⟨congrArg (fun z => some (Value.int z)) (by rw [fSel_in (by omega) (by omega)]; rfl), rfl⟩
    · refine g_iload_n (pc := 0) 1 rfl rfl dX7_count_0 ?_
      refine g_tableIn (pc := 1) (off := 94) 95 dX7_count_1 (by decide) (by decide) (by decide) (by decide) ?_
      refine g_iconst (pc := 95) (nI 0) (by decide) dX7_count_95 ?_
      refine g_istore_n (pc := 96) rfl [(0, .ref (gAd E 60)), (1, .int (nI 6)), (2, .int (nI 0))] dX7_count_96 (by decide) rfl rfl ?_
      refine g_iconst (pc := 97) (nI 0) (by decide) dX7_count_97 ?_
      refine g_istore_n (pc := 98) rfl [(0, .ref (gAd E 60)), (1, .int (nI 6)), (2, .int (nI 0)), (3, .int (nI 0))] dX7_count_98 (by decide) rfl rfl ?_
      have lp99 : ∀ i, i ≤ M.1 60 11 → gG l (gV0 3 E (fun v u => v = some (.int (fSel 9 (nI 6) (fun w => nI (sCount (M.1 60 11) (M.1 60 12) (M.1 60 13) (M.1 60 14) (sOnes (M.1 66 10)) (sPrice (mV M) (M.1 60 11) (M.1 66 10)) (sPm (mV M) (M.1 60 11)) (M.1 60 17) (M.1 60 1) w)) (-1))) ∧ u = M)) mX7_count E (0, 0) M 99 [(0, .ref (gAd E 60)), (1, .int (nI 6)), (2, .int (nI (sPm (mV M) i))), (3, .int (nI i))] [] := by
        refine gloop (fun i hii ihi => ?_)
        refine g_iload_n (pc := 99) 3 rfl rfl dX7_count_99 ?_
        refine g_aload_n (pc := 100) 0 rfl rfl dX7_count_100 ?_
        refine fX7_61 (pc := 101) rfl hR.s0 dX7_count_101 ?_
        refine g_icmpN_ge (pc := 104) 146 dX7_count_104 (by decide) (by omega) (by omega) (fun h104 => ?_) (fun h104 => ?_)
        · refine g_iload_n (pc := 146) 2 rfl rfl dX7_count_146 ?_
          exact g_iret (pc := 147) rfl dX7_count_147 ⟨congrArg (fun z => some (Value.int z)) (by rw [fSel_in (by omega) (by omega), show i = M.1 60 11 by omega]; rfl), rfl⟩
        · refine g_iconst (pc := 107) (nI 0) (by decide) dX7_count_107 ?_
          refine g_istore (pc := 108) [(0, .ref (gAd E 60)), (1, .int (nI 6)), (2, .int (nI (sPm (mV M) i))), (3, .int (nI i)), (4, .int (nI 0))] dX7_count_108 (by decide) rfl rfl ?_
          have lp110 : ∀ j, j ≤ i → gG l (gV0 3 E (fun v u => v = some (.int (fSel 9 (nI 6) (fun w => nI (sCount (M.1 60 11) (M.1 60 12) (M.1 60 13) (M.1 60 14) (sOnes (M.1 66 10)) (sPrice (mV M) (M.1 60 11) (M.1 66 10)) (sPm (mV M) (M.1 60 11)) (M.1 60 17) (M.1 60 1) w)) (-1))) ∧ u = M)) mX7_count E (0, 0) M 110 [(0, .ref (gAd E 60)), (1, .int (nI 6)), (2, .int (nI (sPm (mV M) i + sPmI (mV M) i j))), (3, .int (nI i)), (4, .int (nI j))] [] := by
            refine gloop (fun j hij ihj => ?_)
            refine g_iload (pc := 110) 4 rfl dX7_count_110 ?_
            refine g_iload_n (pc := 112) 3 rfl rfl dX7_count_112 ?_
            refine g_icmpN_ge (pc := 113) 140 dX7_count_113 (by decide) (by omega) (by omega) (fun h113 => ?_) (fun h113 => ?_)
            · refine g_iincN (pc := 140) 1 3 [(0, .ref (gAd E 60)), (1, .int (nI 6)), (2, .int (nI (sPm (mV M) i + sPmI (mV M) i j))), (3, .int (nI (i + 1))), (4, .int (nI j))] rfl dX7_count_140 (by decide) rfl rfl ?_
              refine g_goto (pc := 143) 99 dX7_count_143 (by decide) ?_
              refine g_pick (pc := 99) [0, 1, 2, 3] [(0, .ref (gAd E 60)), (1, .int (nI 6)), (2, .int (nI (sPm (mV M) i + sPmI (mV M) i j))), (3, .int (nI (i + 1)))] rfl ?_
              refine g_lv (pc := 99) (lv' := [(0, .ref (gAd E 60)), (1, .int (nI 6)), (2, .int (nI (sPm (mV M) (i + 1)))), (3, .int (nI (i + 1)))]) (by rw [show sPm (mV M) (i + 1) = sPm (mV M) i + sPmI (mV M) i j from by rw [show j = i by omega]; rfl]) ?_
              exact ihi (by omega)
            · refine g_iload_n (pc := 116) 2 rfl rfl dX7_count_116 ?_
              refine g_aload_n (pc := 117) 0 rfl rfl dX7_count_117 ?_
              refine g_iload_n (pc := 118) 3 rfl rfl dX7_count_118 ?_
              refine g_iload (pc := 119) 4 rfl dX7_count_119 ?_
              refine g_callV (pc := 121) (mc := mX7_doClash) (rest := [.int (nI (sPm (mV M) i + sPmI (mV M) i j))]) lX7_128 iX7_doClash (kX7_doClash l E M hR hO i j (by omega) (by omega)) ⟨Nat.le_of_ble_eq_true rfl, Nat.le_of_ble_eq_true rfl⟩ hR.s0 (by decide) (by decide) rfl rfl rfl rfl (Nat.le_of_ble_eq_true rfl) ⟨Nat.zero_le _, Nat.zero_le _⟩ dX7_count_121 (g_rI ?_)
              refine g_ifB_eq (pc := 124) 131 dX7_count_124 (by decide) (fun h124 => ?_) (fun h124 => ?_)
              · refine g_iconst (pc := 131) (nI 0) (by decide) dX7_count_131 ?_
                refine g_iaddN (pc := 132) dX7_count_132 ?_
                refine g_topi (pc := 133) (x' := nI (sPm (mV M) i + sPmI (mV M) i (j + 1))) (by rw [show sPmI (mV M) i (j + 1) = sPmI (mV M) i j + (if sCl (mV M i) (mV M j) then 1 else 0) from rfl, show sCl (mV M i) (mV M j) = false from by rw [show (i != j) = true from bne_iff_ne.mpr (by omega)] at h124; exact h124]; rfl) ?_
                refine g_istore_n (pc := 133) rfl [(0, .ref (gAd E 60)), (1, .int (nI 6)), (2, .int (nI (sPm (mV M) i + sPmI (mV M) i (j + 1)))), (3, .int (nI i)), (4, .int (nI j))] dX7_count_133 (by decide) rfl rfl ?_
                refine g_iincN (pc := 134) 1 4 [(0, .ref (gAd E 60)), (1, .int (nI 6)), (2, .int (nI (sPm (mV M) i + sPmI (mV M) i (j + 1)))), (3, .int (nI i)), (4, .int (nI (j + 1)))] rfl dX7_count_134 (by decide) rfl rfl ?_
                refine g_goto (pc := 137) 110 dX7_count_137 (by decide) ?_
                exact ihj (by omega)
              · refine g_iconst (pc := 127) (nI 1) (by decide) dX7_count_127 ?_
                refine g_goto (pc := 128) 132 dX7_count_128 (by decide) ?_
                refine g_iaddN (pc := 132) dX7_count_132 ?_
                refine g_topi (pc := 133) (x' := nI (sPm (mV M) i + sPmI (mV M) i (j + 1))) (by rw [show sPmI (mV M) i (j + 1) = sPmI (mV M) i j + (if sCl (mV M i) (mV M j) then 1 else 0) from rfl, show sCl (mV M i) (mV M j) = true from by rw [show (i != j) = true from bne_iff_ne.mpr (by omega)] at h124; exact h124]; rfl) ?_
                refine g_istore_n (pc := 133) rfl [(0, .ref (gAd E 60)), (1, .int (nI 6)), (2, .int (nI (sPm (mV M) i + sPmI (mV M) i (j + 1)))), (3, .int (nI i)), (4, .int (nI j))] dX7_count_133 (by decide) rfl rfl ?_
                refine g_iincN (pc := 134) 1 4 [(0, .ref (gAd E 60)), (1, .int (nI 6)), (2, .int (nI (sPm (mV M) i + sPmI (mV M) i (j + 1)))), (3, .int (nI i)), (4, .int (nI (j + 1)))] rfl dX7_count_134 (by decide) rfl rfl ?_
                refine g_goto (pc := 137) 110 dX7_count_137 (by decide) ?_
                exact ihj (by omega)
          refine g_lv (pc := 110) (lv' := [(0, .ref (gAd E 60)), (1, .int (nI 6)), (2, .int (nI (sPm (mV M) i + sPmI (mV M) i 0))), (3, .int (nI i)), (4, .int (nI 0))]) rfl ?_
          exact lp110 0 (by omega)
      refine g_lv (pc := 99) (lv' := [(0, .ref (gAd E 60)), (1, .int (nI 6)), (2, .int (nI (sPm (mV M) 0))), (3, .int (nI 0))]) rfl ?_
      exact lp99 0 (by omega)
    · refine g_iload_n (pc := 0) 1 rfl rfl dX7_count_0 ?_
      refine g_tableIn (pc := 1) (off := 147) 148 dX7_count_1 (by decide) (by decide) (by decide) (by decide) ?_
      refine g_aload_n (pc := 148) 0 rfl rfl dX7_count_148 ?_
      refine fX7_73 (pc := 149) rfl hR.s0 dX7_count_149 ?_
      exact g_iret (pc := 152) rfl dX7_count_152 ⟨congrArg (fun z => some (Value.int z)) (by rw [fSel_in (by omega) (by omega)]; rfl), rfl⟩
    · refine g_iload_n (pc := 0) 1 rfl rfl dX7_count_0 ?_
      refine g_tableIn (pc := 1) (off := 152) 153 dX7_count_1 (by decide) (by decide) (by decide) (by decide) ?_
      refine g_aload_n (pc := 153) 0 rfl rfl dX7_count_153 ?_
      refine fX7_79 (pc := 154) rfl hR.s0 dX7_count_154 ?_
      exact g_iret (pc := 157) rfl dX7_count_157 ⟨congrArg (fun z => some (Value.int z)) (by rw [fSel_in (by omega) (by omega)]; rfl), rfl⟩
theorem fTwo_oG {q a b bad : Int32} (h : inG q 0 1 = false) : fTwo q a b bad = bad := fTwo_n (fun e => by subst e; revert h; decide) (fun e => by subst e; revert h; decide)
set_option maxRecDepth 100000 in
set_option maxHeartbeats 4000000 in
theorem kX7_best (l : Launch) (E : gEnv) (M : gMem) (hR : mR E M) (hO : mO M) (hsg : M.1 66 10 < 1024) (q : Int32) : gMet l E mX7_best 6 [.ref (gAd E 60), .int q] M (fun v u => v = some (.int (fTwo q (nI (sPrice (mV M) (M.1 60 11) (sBest (mV M) (M.1 60 11) (goodM (mV M) (M.1 60 11) (mH M) (M.1 60 12) (M.1 60 13) (M.1 60 14)) (2 ^ M.1 60 11)))) (nI (sBest (mV M) (M.1 60 11) (goodM (mV M) (M.1 60 11) (mH M) (M.1 60 12) (M.1 60 13) (M.1 60 14)) (2 ^ M.1 60 11))) (-1))) ∧ (u = M ∨ ∃ x, u = gU M 60 21 x)) := by
  have hO' := hO
  obtain ⟨hn, hk, hft, hto, hU, hH⟩ := hO
  have hO := hO'
  refine gMet_of (mm := mX7_best) (h := 6) (M := M) [(0, .ref (gAd E 60)), (1, .int q)] (by decide) (Nat.le_of_ble_eq_true rfl) rfl ?_
  refine g_iload_n (pc := 0) 1 rfl rfl dX7_best_0 ?_
  refine g_iconst (pc := 1) (nI 0) (by decide) dX7_best_1 ?_
  refine g_iconst (pc := 2) (nI 1) (by decide) dX7_best_2 ?_
  refine g_callS (pc := 3) (mc := mX7_in) (rest := []) lX7_82 iX7_in (kX7_inG l E M (q) 0 1 (by omega) (by omega)) ⟨Nat.le_of_ble_eq_true rfl, Nat.le_of_ble_eq_true rfl⟩ rfl rfl (Nat.le_of_ble_eq_true rfl) ⟨Nat.zero_le _, Nat.zero_le _⟩ dX7_best_3 (g_rI ?_)
  refine g_ifB_ne (pc := 6) 11 dX7_best_6 (by decide) (fun h6 => ?_) (fun h6 => ?_)
  · obtain ⟨j, hj, rfl⟩ := inG_tR h6
    rcases (show j = 0 ∨ j = 1 by omega) with rfl | rfl
    · refine g_aload_n (pc := 11) 0 rfl rfl dX7_best_11 ?_
      refine g_callV (pc := 12) (mc := mX7_findBest) (rest := []) lX7_180 iX7_findBest (kX7_findBest l E M hR hO) ⟨Nat.le_of_ble_eq_true rfl, Nat.le_of_ble_eq_true rfl⟩ hR.s0 (by decide) (by decide) rfl rfl rfl rfl (Nat.le_of_ble_eq_true rfl) ⟨Nat.zero_le _, Nat.zero_le _⟩ dX7_best_12 ?_
      intro v u hq
      obtain ⟨rfl, rfl⟩ := hq
      refine g_istore_n (pc := 15) rfl [(0, .ref (gAd E 60)), (1, .int (nI 0)), (2, .int (nI (sBest (mV M) (M.1 60 11) (goodM (mV M) (M.1 60 11) (mH M) (M.1 60 12) (M.1 60 13) (M.1 60 14)) (2 ^ M.1 60 11))))] dX7_best_15 (by decide) rfl rfl ?_
      refine g_iload_n (pc := 16) 1 rfl rfl dX7_best_16 ?_
      refine g_ifN_ne (pc := 17) 27 dX7_best_17 (by decide) (by omega) (fun h17 => absurd h17 (by omega)) (fun h17 => ?_)
      refine g_aload_n (pc := 20) 0 rfl rfl dX7_best_20 ?_
      refine fX7_171 (pc := 21) rfl hR.s0 dX7_best_21 ?_
      refine g_topi (pc := 24) (x' := nI (sPrice (mV M) (M.1 60 11) (sBest (mV M) (M.1 60 11) (goodM (mV M) (M.1 60 11) (mH M) (M.1 60 12) (M.1 60 13) (M.1 60 14)) (2 ^ M.1 60 11)))) (by simp [gU]) ?_
      refine g_goto (pc := 24) 28 dX7_best_24 (by decide) ?_
      exact g_iret (pc := 28) rfl dX7_best_28 ⟨congrArg (fun z => some (Value.int z)) (by rw [fTwo_0]), Or.inr ⟨_, rfl⟩⟩
    · refine g_aload_n (pc := 11) 0 rfl rfl dX7_best_11 ?_
      refine g_callV (pc := 12) (mc := mX7_findBest) (rest := []) lX7_180 iX7_findBest (kX7_findBest l E M hR hO) ⟨Nat.le_of_ble_eq_true rfl, Nat.le_of_ble_eq_true rfl⟩ hR.s0 (by decide) (by decide) rfl rfl rfl rfl (Nat.le_of_ble_eq_true rfl) ⟨Nat.zero_le _, Nat.zero_le _⟩ dX7_best_12 ?_
      intro v u hq
      obtain ⟨rfl, rfl⟩ := hq
      refine g_istore_n (pc := 15) rfl [(0, .ref (gAd E 60)), (1, .int (nI 1)), (2, .int (nI (sBest (mV M) (M.1 60 11) (goodM (mV M) (M.1 60 11) (mH M) (M.1 60 12) (M.1 60 13) (M.1 60 14)) (2 ^ M.1 60 11))))] dX7_best_15 (by decide) rfl rfl ?_
      refine g_iload_n (pc := 16) 1 rfl rfl dX7_best_16 ?_
      refine g_ifN_ne (pc := 17) 27 dX7_best_17 (by decide) (by omega) (fun h17 => ?_) (fun h17 => absurd h17 (by omega))
      refine g_iload_n (pc := 27) 2 rfl rfl dX7_best_27 ?_
      exact g_iret (pc := 28) rfl dX7_best_28 ⟨congrArg (fun z => some (Value.int z)) (by rw [fTwo_1]), Or.inr ⟨_, rfl⟩⟩
  · refine g_iconst (pc := 9) ((-1)) (by decide) dX7_best_9 ?_
    exact g_iret (pc := 10) rfl dX7_best_10 ⟨congrArg (fun z => some (Value.int z)) (by rw [fTwo_oG h6]), Or.inl rfl⟩
theorem inG3 {x y z : Int32} : (inG x 0 5 && inG y 0 3 && inG z 0 3) = (inR x 6 && inR y 4 && inR z 4) := by rw [inG_R, inG_R, inG_R]
set_option maxRecDepth 100000 in
set_option maxHeartbeats 4000000 in
theorem kX7_point (l : Launch) (E : gEnv) (M : gMem) (hR : mR E M) (hO : mO M) (hsg : M.1 66 10 < 1024) (x y z wk q : Int32) : gMetI l E mX7_point 3 [.ref (gAd E 60), .int x, .int y, .int z, .int wk, .int q] M (fCell x y z (fun i j k => fRng (M.1 60 13) (M.1 60 14) wk (fun m => fTwo q (nI (sSold (mV M) (M.1 60 11) (M.1 66 10) (16 * i + 4 * j + k) m)) (gb (sAl (mV M) (M.1 60 11) (M.1 66 10) (16 * i + 4 * j + k) m)) (-1)) (-1)) (-1)) := by
  have hO' := hO
  obtain ⟨hn, hk, hft, hto, hU, hH⟩ := hO
  have hO := hO'
  refine gMet_of (mm := mX7_point) (h := 3) (M := M) [(0, .ref (gAd E 60)), (1, .int x), (2, .int y), (3, .int z), (4, .int wk), (5, .int q)] (by decide) (Nat.le_of_ble_eq_true rfl) rfl ?_
  refine g_iload_n (pc := 0) 1 rfl rfl dX7_point_0 ?_
  refine g_iload_n (pc := 1) 2 rfl rfl dX7_point_1 ?_
  refine g_iload_n (pc := 2) 3 rfl rfl dX7_point_2 ?_
  refine g_callS (pc := 3) (mc := mX7_isRow) (rest := []) lX7_153 iX7_isRow (kX7_isRow l E M (x) (y) (z)) ⟨Nat.le_of_ble_eq_true rfl, Nat.le_of_ble_eq_true rfl⟩ rfl rfl (Nat.le_of_ble_eq_true rfl) ⟨Nat.zero_le _, Nat.zero_le _⟩ dX7_point_3 (g_rI ?_)
  refine g_ifB_eq (pc := 6) 35 dX7_point_6 (by decide) (fun h6 => ?_) (fun h6 => ?_)
  · refine g_iconst (pc := 35) ((-1)) (by decide) dX7_point_35 ?_
    exact g_iret (pc := 36) rfl dX7_point_36 ⟨congrArg (fun z => some (Value.int z)) (by rw [fCell_out (inG3 ▸ h6)]), rfl⟩
  · rw [inG3] at h6
    simp only [Bool.and_eq_true] at h6
    obtain ⟨⟨hx, hy⟩, hz⟩ := h6
    obtain ⟨i, hi, rfl⟩ := inR_of hx
    obtain ⟨j, hj, rfl⟩ := inR_of hy
    obtain ⟨k, hk0, rfl⟩ := inR_of hz
    refine g_iload (pc := 9) 4 rfl dX7_point_9 ?_
    refine g_aload_n (pc := 11) 0 rfl rfl dX7_point_11 ?_
    refine fX7_67 (pc := 12) rfl hR.s0 dX7_point_12 ?_
    refine g_aload_n (pc := 15) 0 rfl rfl dX7_point_15 ?_
    refine fX7_70 (pc := 16) rfl hR.s0 dX7_point_16 ?_
    refine g_callS (pc := 19) (mc := mX7_in) (rest := []) lX7_82 iX7_in (kX7_inG l E M (wk) (M.1 60 13) (M.1 60 14) (by omega) (by omega)) ⟨Nat.le_of_ble_eq_true rfl, Nat.le_of_ble_eq_true rfl⟩ rfl rfl (Nat.le_of_ble_eq_true rfl) ⟨Nat.zero_le _, Nat.zero_le _⟩ dX7_point_19 (g_rI ?_)
    refine g_ifB_eq (pc := 22) 35 dX7_point_22 (by decide) (fun h22 => ?_) (fun h22 => ?_)
    · refine g_iconst (pc := 35) ((-1)) (by decide) dX7_point_35 ?_
      exact g_iret (pc := 36) rfl dX7_point_36 ⟨congrArg (fun z => some (Value.int z)) (by rw [fCell_in hi hj hk0, fRng_out h22]), rfl⟩
    · obtain ⟨m, hm1, hm2, rfl⟩ := inG_of h22
      refine g_iload (pc := 25) 5 rfl dX7_point_25 ?_
      refine g_iconst (pc := 27) (nI 0) (by decide) dX7_point_27 ?_
      refine g_iconst (pc := 28) (nI 1) (by decide) dX7_point_28 ?_
      refine g_callS (pc := 29) (mc := mX7_in) (rest := []) lX7_82 iX7_in (kX7_inG l E M (q) 0 1 (by omega) (by omega)) ⟨Nat.le_of_ble_eq_true rfl, Nat.le_of_ble_eq_true rfl⟩ rfl rfl (Nat.le_of_ble_eq_true rfl) ⟨Nat.zero_le _, Nat.zero_le _⟩ dX7_point_29 (g_rI ?_)
      refine g_ifB_ne (pc := 32) 37 dX7_point_32 (by decide) (fun h32 => ?_) (fun h32 => ?_)
      · obtain ⟨qq, hqq, rfl⟩ := inG_tR h32
        rcases (show qq = 0 ∨ qq = 1 by omega) with rfl | rfl
        · refine g_bipush (pc := 37) (nI 16) (by decide) dX7_point_37 ?_
          refine g_iload_n (pc := 39) 1 rfl rfl dX7_point_39 ?_
          refine g_imulN (pc := 40) dX7_point_40 ?_
          refine g_iconst (pc := 41) (nI 4) (by decide) dX7_point_41 ?_
          refine g_iload_n (pc := 42) 2 rfl rfl dX7_point_42 ?_
          refine g_imulN (pc := 43) dX7_point_43 ?_
          refine g_iaddN (pc := 44) dX7_point_44 ?_
          refine g_iload_n (pc := 45) 3 rfl rfl dX7_point_45 ?_
          refine g_iaddN (pc := 46) dX7_point_46 ?_
          refine g_istore (pc := 47) [(0, .ref (gAd E 60)), (1, .int (nI i)), (2, .int (nI j)), (3, .int (nI k)), (4, .int (nI m)), (5, .int (nI 0)), (6, .int (nI (((16 * i) + (4 * j)) + k)))] dX7_point_47 (by decide) rfl rfl ?_
          refine g_iload (pc := 49) 5 rfl dX7_point_49 ?_
          refine g_ifN_ne (pc := 51) 65 dX7_point_51 (by decide) (by omega) (fun h51 => absurd h51 (by omega)) (fun h51 => ?_)
          refine g_aload_n (pc := 54) 0 rfl rfl dX7_point_54 ?_
          refine g_iload (pc := 55) 6 rfl dX7_point_55 ?_
          refine g_iload (pc := 57) 4 rfl dX7_point_57 ?_
          refine g_callV (pc := 59) (mc := mX7_soldAt) (rest := []) lX7_156 iX7_soldAt (kX7_soldAt l E M hR hO hsg (((16 * i) + (4 * j)) + k) m (by omega) (by omega)) ⟨Nat.le_of_ble_eq_true rfl, Nat.le_of_ble_eq_true rfl⟩ hR.s0 (by decide) (by decide) rfl rfl rfl rfl (Nat.le_of_ble_eq_true rfl) ⟨Nat.zero_le _, Nat.zero_le _⟩ dX7_point_59 (g_rI ?_)
          refine g_goto (pc := 62) 81 dX7_point_62 (by decide) ?_
          exact g_iret (pc := 81) rfl dX7_point_81 ⟨congrArg (fun z => some (Value.int z)) (by rw [fCell_in hi hj hk0, fRng_in hm1 hm2 (by omega), fTwo_0]), rfl⟩
        · refine g_bipush (pc := 37) (nI 16) (by decide) dX7_point_37 ?_
          refine g_iload_n (pc := 39) 1 rfl rfl dX7_point_39 ?_
          refine g_imulN (pc := 40) dX7_point_40 ?_
          refine g_iconst (pc := 41) (nI 4) (by decide) dX7_point_41 ?_
          refine g_iload_n (pc := 42) 2 rfl rfl dX7_point_42 ?_
          refine g_imulN (pc := 43) dX7_point_43 ?_
          refine g_iaddN (pc := 44) dX7_point_44 ?_
          refine g_iload_n (pc := 45) 3 rfl rfl dX7_point_45 ?_
          refine g_iaddN (pc := 46) dX7_point_46 ?_
          refine g_istore (pc := 47) [(0, .ref (gAd E 60)), (1, .int (nI i)), (2, .int (nI j)), (3, .int (nI k)), (4, .int (nI m)), (5, .int (nI 1)), (6, .int (nI (((16 * i) + (4 * j)) + k)))] dX7_point_47 (by decide) rfl rfl ?_
          refine g_iload (pc := 49) 5 rfl dX7_point_49 ?_
          refine g_ifN_ne (pc := 51) 65 dX7_point_51 (by decide) (by omega) (fun h51 => ?_) (fun h51 => absurd h51 (by omega))
          refine g_aload_n (pc := 65) 0 rfl rfl dX7_point_65 ?_
          refine g_iload (pc := 66) 6 rfl dX7_point_66 ?_
          refine g_iload (pc := 68) 4 rfl dX7_point_68 ?_
          refine g_callV (pc := 70) (mc := mX7_isAloneAt) (rest := []) lX7_159 iX7_isAloneAt (kX7_isAloneAt l E M hR hO hsg (((16 * i) + (4 * j)) + k) m (by omega) (by omega)) ⟨Nat.le_of_ble_eq_true rfl, Nat.le_of_ble_eq_true rfl⟩ hR.s0 (by decide) (by decide) rfl rfl rfl rfl (Nat.le_of_ble_eq_true rfl) ⟨Nat.zero_le _, Nat.zero_le _⟩ dX7_point_70 (g_rI ?_)
          refine g_ifB_eq (pc := 73) 80 dX7_point_73 (by decide) (fun h73 => ?_) (fun h73 => ?_)
          · refine g_iconst (pc := 80) (nI 0) (by decide) dX7_point_80 ?_
            exact g_iret (pc := 81) rfl dX7_point_81 ⟨congrArg (fun z => some (Value.int z)) (by rw [fCell_in hi hj hk0, fRng_in hm1 hm2 (by omega), fTwo_1, h73]; rfl), rfl⟩
          · refine g_iconst (pc := 76) (nI 1) (by decide) dX7_point_76 ?_
            refine g_goto (pc := 77) 81 dX7_point_77 (by decide) ?_
            exact g_iret (pc := 81) rfl dX7_point_81 ⟨congrArg (fun z => some (Value.int z)) (by rw [fCell_in hi hj hk0, fRng_in hm1 hm2 (by omega), fTwo_1, h73]; rfl), rfl⟩
      · refine g_iconst (pc := 35) ((-1)) (by decide) dX7_point_35 ?_
        exact g_iret (pc := 36) rfl dX7_point_36 ⟨congrArg (fun z => some (Value.int z)) (by rw [fCell_in hi hj hk0, fRng_in hm1 hm2 (by omega), fTwo_oG h32]), rfl⟩
def pI (V : Nat → Nat → Nat) (n sg row wk : Nat) : Nat → Bool
  | 0 => true
  | 1 => decide (0 < sSold V n sg row wk)
  | 2 => decide (1 < sSold V n sg row wk)
  | 3 => sAl V n sg row wk
  | _ => sSold V n sg row wk == 0
def pRow (V : Nat → Nat → Nat) (n sg fr q row : Nat) : Nat → Nat := sSum (fun t => if pI V n sg row (fr + t) q then 1 else 0)
def pAll (V : Nat → Nat → Nat) (n sg fr to q : Nat) : Nat → Nat := sSum (fun row => pRow V n sg fr q row (to + 1 - fr))
set_option maxRecDepth 100000 in
set_option maxHeartbeats 4000000 in
theorem kX7_points (l : Launch) (E : gEnv) (M : gMem) (hR : mR E M) (hO : mO M) (hsg : M.1 66 10 < 1024) (x : Int32) : gMetI l E mX7_points 3 [.ref (gAd E 60), .int x] M (fSel 5 x (fun q => nI (pAll (mV M) (M.1 60 11) (M.1 66 10) (M.1 60 13) (M.1 60 14) q 96)) (-1)) := by
  have hO' := hO
  obtain ⟨hn, hk, hft, hto, hU, hH⟩ := hO
  have hO := hO'
  refine gMet_of (mm := mX7_points) (h := 3) (M := M) [(0, .ref (gAd E 60)), (1, .int x)] (by decide) (Nat.le_of_ble_eq_true rfl) rfl ?_
  refine g_iload_n (pc := 0) 1 rfl rfl dX7_points_0 ?_
  refine g_iconst (pc := 1) (nI 0) (by decide) dX7_points_1 ?_
  refine g_iconst (pc := 2) (nI 4) (by decide) dX7_points_2 ?_
  refine g_callS (pc := 3) (mc := mX7_in) (rest := []) lX7_82 iX7_in (kX7_inG l E M (x) 0 4 (by omega) (by omega)) ⟨Nat.le_of_ble_eq_true rfl, Nat.le_of_ble_eq_true rfl⟩ rfl rfl (Nat.le_of_ble_eq_true rfl) ⟨Nat.zero_le _, Nat.zero_le _⟩ dX7_points_3 (g_rI ?_)
  refine g_ifB_ne (pc := 6) 11 dX7_points_6 (by decide) (fun h6 => ?_) (fun h6 => ?_)
  · obtain ⟨q, hq, rfl⟩ := inG_tR h6
    rcases (show q = 0 ∨ q = 1 ∨ q = 2 ∨ q = 3 ∨ q = 4 by omega) with rfl | rfl | rfl | rfl | rfl
    · refine g_iconst (pc := 11) (nI 0) (by decide) dX7_points_11 ?_
      refine g_istore_n (pc := 12) rfl [(0, .ref (gAd E 60)), (1, .int (nI 0)), (2, .int (nI 0))] dX7_points_12 (by decide) rfl rfl ?_
      refine g_iconst (pc := 13) (nI 0) (by decide) dX7_points_13 ?_
      refine g_istore_n (pc := 14) rfl [(0, .ref (gAd E 60)), (1, .int (nI 0)), (2, .int (nI 0)), (3, .int (nI 0))] dX7_points_14 (by decide) rfl rfl ?_
      have lp15 : ∀ c, c ≤ 96 → gG l (gV0 3 E (fun v u => v = some (.int (fSel 5 (nI 0) (fun q => nI (pAll (mV M) (M.1 60 11) (M.1 66 10) (M.1 60 13) (M.1 60 14) q 96)) (-1))) ∧ u = M)) mX7_points E (0, 0) M 15 [(0, .ref (gAd E 60)), (1, .int (nI 0)), (2, .int (nI (pAll (mV M) (M.1 60 11) (M.1 66 10) (M.1 60 13) (M.1 60 14) 0 c))), (3, .int (nI c))] [] := by
        refine gloop (fun c hic ihc => ?_)
        refine g_iload_n (pc := 15) 3 rfl rfl dX7_points_15 ?_
        refine g_bipush (pc := 16) (nI 96) (by decide) dX7_points_16 ?_
        refine g_icmpN_ge (pc := 18) 127 dX7_points_18 (by decide) (by omega) (by omega) (fun h18 => ?_) (fun h18 => ?_)
        · refine g_iload_n (pc := 127) 2 rfl rfl dX7_points_127 ?_
          exact g_iret (pc := 128) rfl dX7_points_128 ⟨congrArg (fun z => some (Value.int z)) (by rw [fSel_in hq (by omega), show c = 96 by omega]), rfl⟩
        · refine g_aload_n (pc := 21) 0 rfl rfl dX7_points_21 ?_
          refine fX7_67 (pc := 22) rfl hR.s0 dX7_points_22 ?_
          refine g_istore (pc := 25) [(0, .ref (gAd E 60)), (1, .int (nI 0)), (2, .int (nI (pAll (mV M) (M.1 60 11) (M.1 66 10) (M.1 60 13) (M.1 60 14) 0 c))), (3, .int (nI c)), (4, .int (nI (M.1 60 13)))] dX7_points_25 (by decide) rfl rfl ?_
          have lp27 : ∀ t, t ≤ M.1 60 14 + 1 - M.1 60 13 → gG l (gV0 3 E (fun v u => v = some (.int (fSel 5 (nI 0) (fun q => nI (pAll (mV M) (M.1 60 11) (M.1 66 10) (M.1 60 13) (M.1 60 14) q 96)) (-1))) ∧ u = M)) mX7_points E (0, 0) M 27 [(0, .ref (gAd E 60)), (1, .int (nI 0)), (2, .int (nI (pAll (mV M) (M.1 60 11) (M.1 66 10) (M.1 60 13) (M.1 60 14) 0 c + pRow (mV M) (M.1 60 11) (M.1 66 10) (M.1 60 13) 0 c t))), (3, .int (nI c)), (4, .int (nI (M.1 60 13 + t)))] [] := by
            refine gloop (fun t hit iht => ?_)
            refine g_iload (pc := 27) 4 rfl dX7_points_27 ?_
            refine g_aload_n (pc := 29) 0 rfl rfl dX7_points_29 ?_
            refine fX7_70 (pc := 30) rfl hR.s0 dX7_points_30 ?_
            refine g_icmpN_gt (pc := 33) 121 dX7_points_33 (by decide) (by omega) (by omega) (fun h33 => ?_) (fun h33 => ?_)
            · refine g_iincN (pc := 121) 1 3 [(0, .ref (gAd E 60)), (1, .int (nI 0)), (2, .int (nI (pAll (mV M) (M.1 60 11) (M.1 66 10) (M.1 60 13) (M.1 60 14) 0 c + pRow (mV M) (M.1 60 11) (M.1 66 10) (M.1 60 13) 0 c t))), (3, .int (nI (c + 1))), (4, .int (nI (M.1 60 13 + t)))] rfl dX7_points_121 (by decide) rfl rfl ?_
              refine g_goto (pc := 124) 15 dX7_points_124 (by decide) ?_
              refine g_pick (pc := 15) [0, 1, 2, 3] [(0, .ref (gAd E 60)), (1, .int (nI 0)), (2, .int (nI (pAll (mV M) (M.1 60 11) (M.1 66 10) (M.1 60 13) (M.1 60 14) 0 c + pRow (mV M) (M.1 60 11) (M.1 66 10) (M.1 60 13) 0 c t))), (3, .int (nI (c + 1)))] rfl ?_
              refine g_lv (pc := 15) (lv' := [(0, .ref (gAd E 60)), (1, .int (nI 0)), (2, .int (nI (pAll (mV M) (M.1 60 11) (M.1 66 10) (M.1 60 13) (M.1 60 14) 0 (c + 1)))), (3, .int (nI (c + 1)))]) (by rw [show pAll (mV M) (M.1 60 11) (M.1 66 10) (M.1 60 13) (M.1 60 14) 0 (c + 1) = pAll (mV M) (M.1 60 11) (M.1 66 10) (M.1 60 13) (M.1 60 14) 0 c + pRow (mV M) (M.1 60 11) (M.1 66 10) (M.1 60 13) 0 c t from by rw [show t = M.1 60 14 + 1 - M.1 60 13 by omega]; rfl]) ?_
              exact ihc (by omega)
            · refine g_aload_n (pc := 36) 0 rfl rfl dX7_points_36 ?_
              refine g_iload_n (pc := 37) 3 rfl rfl dX7_points_37 ?_
              refine g_iload (pc := 38) 4 rfl dX7_points_38 ?_
              refine g_callV (pc := 40) (mc := mX7_soldAt) (rest := []) lX7_156 iX7_soldAt (kX7_soldAt l E M hR hO hsg c (M.1 60 13 + t) (by omega) (by omega)) ⟨Nat.le_of_ble_eq_true rfl, Nat.le_of_ble_eq_true rfl⟩ hR.s0 (by decide) (by decide) rfl rfl rfl rfl (Nat.le_of_ble_eq_true rfl) ⟨Nat.zero_le _, Nat.zero_le _⟩ dX7_points_40 (g_rI ?_)
              have hsl := sSold_le (V := mV M) (n := M.1 60 11) (sg := M.1 66 10) (row := c) (wk := M.1 60 13 + t)
              refine g_istore (pc := 43) [(0, .ref (gAd E 60)), (1, .int (nI 0)), (2, .int (nI (pAll (mV M) (M.1 60 11) (M.1 66 10) (M.1 60 13) (M.1 60 14) 0 c + pRow (mV M) (M.1 60 11) (M.1 66 10) (M.1 60 13) 0 c t))), (3, .int (nI c)), (4, .int (nI (M.1 60 13 + t))), (5, .int (nI (sSold (mV M) (M.1 60 11) (M.1 66 10) c (M.1 60 13 + t))))] dX7_points_43 (by decide) rfl rfl ?_
              refine g_iload_n (pc := 45) 1 rfl rfl dX7_points_45 ?_
              refine g_ifN_eq (pc := 46) 95 dX7_points_46 (by decide) (by omega) (fun h46 => ?_) (fun h46 => absurd h46 (by omega))
              refine g_iconst (pc := 95) (nI 1) (by decide) dX7_points_95 ?_
              refine g_goto (pc := 96) 100 dX7_points_96 (by decide) ?_
              refine g_istore (pc := 100) [(0, .ref (gAd E 60)), (1, .int (nI 0)), (2, .int (nI (pAll (mV M) (M.1 60 11) (M.1 66 10) (M.1 60 13) (M.1 60 14) 0 c + pRow (mV M) (M.1 60 11) (M.1 66 10) (M.1 60 13) 0 c t))), (3, .int (nI c)), (4, .int (nI (M.1 60 13 + t))), (5, .int (nI (sSold (mV M) (M.1 60 11) (M.1 66 10) c (M.1 60 13 + t)))), (6, .int (nI 1))] dX7_points_100 (by decide) rfl rfl ?_
              refine g_iload_n (pc := 102) 2 rfl rfl dX7_points_102 ?_
              refine g_iload (pc := 103) 6 rfl dX7_points_103 ?_
              refine g_ifN_eq (pc := 105) 112 dX7_points_105 (by decide) (by omega) (fun h105 => absurd h105 (by omega)) (fun h105 => ?_)
              refine g_iconst (pc := 108) (nI 1) (by decide) dX7_points_108 ?_
              refine g_goto (pc := 109) 113 dX7_points_109 (by decide) ?_
              refine g_iaddN (pc := 113) dX7_points_113 ?_
              refine g_topi (pc := 114) (x' := nI (pAll (mV M) (M.1 60 11) (M.1 66 10) (M.1 60 13) (M.1 60 14) 0 c + pRow (mV M) (M.1 60 11) (M.1 66 10) (M.1 60 13) 0 c (t + 1))) (by rw [show pRow (mV M) (M.1 60 11) (M.1 66 10) (M.1 60 13) 0 c (t + 1) = pRow (mV M) (M.1 60 11) (M.1 66 10) (M.1 60 13) 0 c t + (if pI (mV M) (M.1 60 11) (M.1 66 10) c (M.1 60 13 + t) 0 then 1 else 0) from rfl, show pI (mV M) (M.1 60 11) (M.1 66 10) c (M.1 60 13 + t) 0 = true from rfl]; rfl) ?_
              refine g_istore_n (pc := 114) rfl [(0, .ref (gAd E 60)), (1, .int (nI 0)), (2, .int (nI (pAll (mV M) (M.1 60 11) (M.1 66 10) (M.1 60 13) (M.1 60 14) 0 c + pRow (mV M) (M.1 60 11) (M.1 66 10) (M.1 60 13) 0 c (t + 1)))), (3, .int (nI c)), (4, .int (nI (M.1 60 13 + t))), (5, .int (nI (sSold (mV M) (M.1 60 11) (M.1 66 10) c (M.1 60 13 + t)))), (6, .int (nI 1))] dX7_points_114 (by decide) rfl rfl ?_
              refine g_iincN (pc := 115) 1 4 [(0, .ref (gAd E 60)), (1, .int (nI 0)), (2, .int (nI (pAll (mV M) (M.1 60 11) (M.1 66 10) (M.1 60 13) (M.1 60 14) 0 c + pRow (mV M) (M.1 60 11) (M.1 66 10) (M.1 60 13) 0 c (t + 1)))), (3, .int (nI c)), (4, .int (nI (M.1 60 13 + t + 1))), (5, .int (nI (sSold (mV M) (M.1 60 11) (M.1 66 10) c (M.1 60 13 + t)))), (6, .int (nI 1))] rfl dX7_points_115 (by decide) rfl rfl ?_
              refine g_goto (pc := 118) 27 dX7_points_118 (by decide) ?_
              refine g_pick (pc := 27) [0, 1, 2, 3, 4] [(0, .ref (gAd E 60)), (1, .int (nI 0)), (2, .int (nI (pAll (mV M) (M.1 60 11) (M.1 66 10) (M.1 60 13) (M.1 60 14) 0 c + pRow (mV M) (M.1 60 11) (M.1 66 10) (M.1 60 13) 0 c (t + 1)))), (3, .int (nI c)), (4, .int (nI (M.1 60 13 + t + 1)))] rfl ?_
              refine g_lv (pc := 27) (lv' := [(0, .ref (gAd E 60)), (1, .int (nI 0)), (2, .int (nI (pAll (mV M) (M.1 60 11) (M.1 66 10) (M.1 60 13) (M.1 60 14) 0 c + pRow (mV M) (M.1 60 11) (M.1 66 10) (M.1 60 13) 0 c (t + 1)))), (3, .int (nI c)), (4, .int (nI (M.1 60 13 + (t + 1))))]) rfl ?_
              exact iht (by omega)
          refine g_lv (pc := 27) (lv' := [(0, .ref (gAd E 60)), (1, .int (nI 0)), (2, .int (nI (pAll (mV M) (M.1 60 11) (M.1 66 10) (M.1 60 13) (M.1 60 14) 0 c + pRow (mV M) (M.1 60 11) (M.1 66 10) (M.1 60 13) 0 c 0))), (3, .int (nI c)), (4, .int (nI (M.1 60 13 + 0)))]) rfl ?_
          exact lp27 0 (by omega)
      refine g_lv (pc := 15) (lv' := [(0, .ref (gAd E 60)), (1, .int (nI 0)), (2, .int (nI (pAll (mV M) (M.1 60 11) (M.1 66 10) (M.1 60 13) (M.1 60 14) 0 0))), (3, .int (nI 0))]) rfl ?_
      exact lp15 0 (by omega)
    · refine g_iconst (pc := 11) (nI 0) (by decide) dX7_points_11 ?_
      refine g_istore_n (pc := 12) rfl [(0, .ref (gAd E 60)), (1, .int (nI 1)), (2, .int (nI 0))] dX7_points_12 (by decide) rfl rfl ?_
      refine g_iconst (pc := 13) (nI 0) (by decide) dX7_points_13 ?_
      refine g_istore_n (pc := 14) rfl [(0, .ref (gAd E 60)), (1, .int (nI 1)), (2, .int (nI 0)), (3, .int (nI 0))] dX7_points_14 (by decide) rfl rfl ?_
      have lp15 : ∀ c, c ≤ 96 → gG l (gV0 3 E (fun v u => v = some (.int (fSel 5 (nI 1) (fun q => nI (pAll (mV M) (M.1 60 11) (M.1 66 10) (M.1 60 13) (M.1 60 14) q 96)) (-1))) ∧ u = M)) mX7_points E (0, 0) M 15 [(0, .ref (gAd E 60)), (1, .int (nI 1)), (2, .int (nI (pAll (mV M) (M.1 60 11) (M.1 66 10) (M.1 60 13) (M.1 60 14) 1 c))), (3, .int (nI c))] [] := by
        refine gloop (fun c hic ihc => ?_)
        refine g_iload_n (pc := 15) 3 rfl rfl dX7_points_15 ?_
        refine g_bipush (pc := 16) (nI 96) (by decide) dX7_points_16 ?_
        refine g_icmpN_ge (pc := 18) 127 dX7_points_18 (by decide) (by omega) (by omega) (fun h18 => ?_) (fun h18 => ?_)
        · refine g_iload_n (pc := 127) 2 rfl rfl dX7_points_127 ?_
          exact g_iret (pc := 128) rfl dX7_points_128 ⟨congrArg (fun z => some (Value.int z)) (by rw [fSel_in hq (by omega), show c = 96 by omega]), rfl⟩
        · refine g_aload_n (pc := 21) 0 rfl rfl dX7_points_21 ?_
          refine fX7_67 (pc := 22) rfl hR.s0 dX7_points_22 ?_
          refine g_istore (pc := 25) [(0, .ref (gAd E 60)), (1, .int (nI 1)), (2, .int (nI (pAll (mV M) (M.1 60 11) (M.1 66 10) (M.1 60 13) (M.1 60 14) 1 c))), (3, .int (nI c)), (4, .int (nI (M.1 60 13)))] dX7_points_25 (by decide) rfl rfl ?_
          have lp27 : ∀ t, t ≤ M.1 60 14 + 1 - M.1 60 13 → gG l (gV0 3 E (fun v u => v = some (.int (fSel 5 (nI 1) (fun q => nI (pAll (mV M) (M.1 60 11) (M.1 66 10) (M.1 60 13) (M.1 60 14) q 96)) (-1))) ∧ u = M)) mX7_points E (0, 0) M 27 [(0, .ref (gAd E 60)), (1, .int (nI 1)), (2, .int (nI (pAll (mV M) (M.1 60 11) (M.1 66 10) (M.1 60 13) (M.1 60 14) 1 c + pRow (mV M) (M.1 60 11) (M.1 66 10) (M.1 60 13) 1 c t))), (3, .int (nI c)), (4, .int (nI (M.1 60 13 + t)))] [] := by
            refine gloop (fun t hit iht => ?_)
            refine g_iload (pc := 27) 4 rfl dX7_points_27 ?_
            refine g_aload_n (pc := 29) 0 rfl rfl dX7_points_29 ?_
            refine fX7_70 (pc := 30) rfl hR.s0 dX7_points_30 ?_
            refine g_icmpN_gt (pc := 33) 121 dX7_points_33 (by decide) (by omega) (by omega) (fun h33 => ?_) (fun h33 => ?_)
            · refine g_iincN (pc := 121) 1 3 [(0, .ref (gAd E 60)), (1, .int (nI 1)), (2, .int (nI (pAll (mV M) (M.1 60 11) (M.1 66 10) (M.1 60 13) (M.1 60 14) 1 c + pRow (mV M) (M.1 60 11) (M.1 66 10) (M.1 60 13) 1 c t))), (3, .int (nI (c + 1))), (4, .int (nI (M.1 60 13 + t)))] rfl dX7_points_121 (by decide) rfl rfl ?_
              refine g_goto (pc := 124) 15 dX7_points_124 (by decide) ?_
              refine g_pick (pc := 15) [0, 1, 2, 3] [(0, .ref (gAd E 60)), (1, .int (nI 1)), (2, .int (nI (pAll (mV M) (M.1 60 11) (M.1 66 10) (M.1 60 13) (M.1 60 14) 1 c + pRow (mV M) (M.1 60 11) (M.1 66 10) (M.1 60 13) 1 c t))), (3, .int (nI (c + 1)))] rfl ?_
              refine g_lv (pc := 15) (lv' := [(0, .ref (gAd E 60)), (1, .int (nI 1)), (2, .int (nI (pAll (mV M) (M.1 60 11) (M.1 66 10) (M.1 60 13) (M.1 60 14) 1 (c + 1)))), (3, .int (nI (c + 1)))]) (by rw [show pAll (mV M) (M.1 60 11) (M.1 66 10) (M.1 60 13) (M.1 60 14) 1 (c + 1) = pAll (mV M) (M.1 60 11) (M.1 66 10) (M.1 60 13) (M.1 60 14) 1 c + pRow (mV M) (M.1 60 11) (M.1 66 10) (M.1 60 13) 1 c t from by rw [show t = M.1 60 14 + 1 - M.1 60 13 by omega]; rfl]) ?_
              exact ihc (by omega)
            · refine g_aload_n (pc := 36) 0 rfl rfl dX7_points_36 ?_
              refine g_iload_n (pc := 37) 3 rfl rfl dX7_points_37 ?_
              refine g_iload (pc := 38) 4 rfl dX7_points_38 ?_
              refine g_callV (pc := 40) (mc := mX7_soldAt) (rest := []) lX7_156 iX7_soldAt (kX7_soldAt l E M hR hO hsg c (M.1 60 13 + t) (by omega) (by omega)) ⟨Nat.le_of_ble_eq_true rfl, Nat.le_of_ble_eq_true rfl⟩ hR.s0 (by decide) (by decide) rfl rfl rfl rfl (Nat.le_of_ble_eq_true rfl) ⟨Nat.zero_le _, Nat.zero_le _⟩ dX7_points_40 (g_rI ?_)
              have hsl := sSold_le (V := mV M) (n := M.1 60 11) (sg := M.1 66 10) (row := c) (wk := M.1 60 13 + t)
              refine g_istore (pc := 43) [(0, .ref (gAd E 60)), (1, .int (nI 1)), (2, .int (nI (pAll (mV M) (M.1 60 11) (M.1 66 10) (M.1 60 13) (M.1 60 14) 1 c + pRow (mV M) (M.1 60 11) (M.1 66 10) (M.1 60 13) 1 c t))), (3, .int (nI c)), (4, .int (nI (M.1 60 13 + t))), (5, .int (nI (sSold (mV M) (M.1 60 11) (M.1 66 10) c (M.1 60 13 + t))))] dX7_points_43 (by decide) rfl rfl ?_
              refine g_iload_n (pc := 45) 1 rfl rfl dX7_points_45 ?_
              refine g_ifN_eq (pc := 46) 95 dX7_points_46 (by decide) (by omega) (fun h46 => absurd h46 (by omega)) (fun h46 => ?_)
              refine g_iload_n (pc := 49) 1 rfl rfl dX7_points_49 ?_
              refine g_iconst (pc := 50) (nI 1) (by decide) dX7_points_50 ?_
              refine g_icmpN_ne (pc := 51) 59 dX7_points_51 (by decide) (by omega) (by omega) (fun h51 => absurd h51 (by omega)) (fun h51 => ?_)
              refine g_iload (pc := 54) 5 rfl dX7_points_54 ?_
              refine g_ifN_gt (pc := 56) 95 dX7_points_56 (by decide) (by omega) (fun h56 => ?_) (fun h56 => ?_)
              · refine g_iconst (pc := 95) (nI 1) (by decide) dX7_points_95 ?_
                refine g_goto (pc := 96) 100 dX7_points_96 (by decide) ?_
                refine g_istore (pc := 100) [(0, .ref (gAd E 60)), (1, .int (nI 1)), (2, .int (nI (pAll (mV M) (M.1 60 11) (M.1 66 10) (M.1 60 13) (M.1 60 14) 1 c + pRow (mV M) (M.1 60 11) (M.1 66 10) (M.1 60 13) 1 c t))), (3, .int (nI c)), (4, .int (nI (M.1 60 13 + t))), (5, .int (nI (sSold (mV M) (M.1 60 11) (M.1 66 10) c (M.1 60 13 + t)))), (6, .int (nI 1))] dX7_points_100 (by decide) rfl rfl ?_
                refine g_iload_n (pc := 102) 2 rfl rfl dX7_points_102 ?_
                refine g_iload (pc := 103) 6 rfl dX7_points_103 ?_
                refine g_ifN_eq (pc := 105) 112 dX7_points_105 (by decide) (by omega) (fun h105 => absurd h105 (by omega)) (fun h105 => ?_)
                refine g_iconst (pc := 108) (nI 1) (by decide) dX7_points_108 ?_
                refine g_goto (pc := 109) 113 dX7_points_109 (by decide) ?_
                refine g_iaddN (pc := 113) dX7_points_113 ?_
                refine g_topi (pc := 114) (x' := nI (pAll (mV M) (M.1 60 11) (M.1 66 10) (M.1 60 13) (M.1 60 14) 1 c + pRow (mV M) (M.1 60 11) (M.1 66 10) (M.1 60 13) 1 c (t + 1))) (by rw [show pRow (mV M) (M.1 60 11) (M.1 66 10) (M.1 60 13) 1 c (t + 1) = pRow (mV M) (M.1 60 11) (M.1 66 10) (M.1 60 13) 1 c t + (if pI (mV M) (M.1 60 11) (M.1 66 10) c (M.1 60 13 + t) 1 then 1 else 0) from rfl, show pI (mV M) (M.1 60 11) (M.1 66 10) c (M.1 60 13 + t) 1 = true from decide_eq_true (by omega)]; rfl) ?_
                refine g_istore_n (pc := 114) rfl [(0, .ref (gAd E 60)), (1, .int (nI 1)), (2, .int (nI (pAll (mV M) (M.1 60 11) (M.1 66 10) (M.1 60 13) (M.1 60 14) 1 c + pRow (mV M) (M.1 60 11) (M.1 66 10) (M.1 60 13) 1 c (t + 1)))), (3, .int (nI c)), (4, .int (nI (M.1 60 13 + t))), (5, .int (nI (sSold (mV M) (M.1 60 11) (M.1 66 10) c (M.1 60 13 + t)))), (6, .int (nI 1))] dX7_points_114 (by decide) rfl rfl ?_
                refine g_iincN (pc := 115) 1 4 [(0, .ref (gAd E 60)), (1, .int (nI 1)), (2, .int (nI (pAll (mV M) (M.1 60 11) (M.1 66 10) (M.1 60 13) (M.1 60 14) 1 c + pRow (mV M) (M.1 60 11) (M.1 66 10) (M.1 60 13) 1 c (t + 1)))), (3, .int (nI c)), (4, .int (nI (M.1 60 13 + t + 1))), (5, .int (nI (sSold (mV M) (M.1 60 11) (M.1 66 10) c (M.1 60 13 + t)))), (6, .int (nI 1))] rfl dX7_points_115 (by decide) rfl rfl ?_
                refine g_goto (pc := 118) 27 dX7_points_118 (by decide) ?_
                refine g_pick (pc := 27) [0, 1, 2, 3, 4] [(0, .ref (gAd E 60)), (1, .int (nI 1)), (2, .int (nI (pAll (mV M) (M.1 60 11) (M.1 66 10) (M.1 60 13) (M.1 60 14) 1 c + pRow (mV M) (M.1 60 11) (M.1 66 10) (M.1 60 13) 1 c (t + 1)))), (3, .int (nI c)), (4, .int (nI (M.1 60 13 + t + 1)))] rfl ?_
                refine g_lv (pc := 27) (lv' := [(0, .ref (gAd E 60)), (1, .int (nI 1)), (2, .int (nI (pAll (mV M) (M.1 60 11) (M.1 66 10) (M.1 60 13) (M.1 60 14) 1 c + pRow (mV M) (M.1 60 11) (M.1 66 10) (M.1 60 13) 1 c (t + 1)))), (3, .int (nI c)), (4, .int (nI (M.1 60 13 + (t + 1))))]) rfl ?_
                exact iht (by omega)
              · refine g_iload_n (pc := 59) 1 rfl rfl dX7_points_59 ?_
                refine g_iconst (pc := 60) (nI 2) (by decide) dX7_points_60 ?_
                refine g_icmpN_ne (pc := 61) 70 dX7_points_61 (by decide) (by omega) (by omega) (fun h61 => ?_) (fun h61 => absurd h61 (by omega))
                refine g_iload_n (pc := 70) 1 rfl rfl dX7_points_70 ?_
                refine g_iconst (pc := 71) (nI 3) (by decide) dX7_points_71 ?_
                refine g_icmpN_ne (pc := 72) 85 dX7_points_72 (by decide) (by omega) (by omega) (fun h72 => ?_) (fun h72 => absurd h72 (by omega))
                refine g_iload_n (pc := 85) 1 rfl rfl dX7_points_85 ?_
                refine g_iconst (pc := 86) (nI 4) (by decide) dX7_points_86 ?_
                refine g_icmpN_ne (pc := 87) 99 dX7_points_87 (by decide) (by omega) (by omega) (fun h87 => ?_) (fun h87 => absurd h87 (by omega))
                refine g_iconst (pc := 99) (nI 0) (by decide) dX7_points_99 ?_
                refine g_istore (pc := 100) [(0, .ref (gAd E 60)), (1, .int (nI 1)), (2, .int (nI (pAll (mV M) (M.1 60 11) (M.1 66 10) (M.1 60 13) (M.1 60 14) 1 c + pRow (mV M) (M.1 60 11) (M.1 66 10) (M.1 60 13) 1 c t))), (3, .int (nI c)), (4, .int (nI (M.1 60 13 + t))), (5, .int (nI (sSold (mV M) (M.1 60 11) (M.1 66 10) c (M.1 60 13 + t)))), (6, .int (nI 0))] dX7_points_100 (by decide) rfl rfl ?_
                refine g_iload_n (pc := 102) 2 rfl rfl dX7_points_102 ?_
                refine g_iload (pc := 103) 6 rfl dX7_points_103 ?_
                refine g_ifN_eq (pc := 105) 112 dX7_points_105 (by decide) (by omega) (fun h105 => ?_) (fun h105 => absurd h105 (by omega))
                refine g_iconst (pc := 112) (nI 0) (by decide) dX7_points_112 ?_
                refine g_iaddN (pc := 113) dX7_points_113 ?_
                refine g_topi (pc := 114) (x' := nI (pAll (mV M) (M.1 60 11) (M.1 66 10) (M.1 60 13) (M.1 60 14) 1 c + pRow (mV M) (M.1 60 11) (M.1 66 10) (M.1 60 13) 1 c (t + 1))) (by rw [show pRow (mV M) (M.1 60 11) (M.1 66 10) (M.1 60 13) 1 c (t + 1) = pRow (mV M) (M.1 60 11) (M.1 66 10) (M.1 60 13) 1 c t + (if pI (mV M) (M.1 60 11) (M.1 66 10) c (M.1 60 13 + t) 1 then 1 else 0) from rfl, show pI (mV M) (M.1 60 11) (M.1 66 10) c (M.1 60 13 + t) 1 = false from decide_eq_false (by omega)]; rfl) ?_
                refine g_istore_n (pc := 114) rfl [(0, .ref (gAd E 60)), (1, .int (nI 1)), (2, .int (nI (pAll (mV M) (M.1 60 11) (M.1 66 10) (M.1 60 13) (M.1 60 14) 1 c + pRow (mV M) (M.1 60 11) (M.1 66 10) (M.1 60 13) 1 c (t + 1)))), (3, .int (nI c)), (4, .int (nI (M.1 60 13 + t))), (5, .int (nI (sSold (mV M) (M.1 60 11) (M.1 66 10) c (M.1 60 13 + t)))), (6, .int (nI 0))] dX7_points_114 (by decide) rfl rfl ?_
                refine g_iincN (pc := 115) 1 4 [(0, .ref (gAd E 60)), (1, .int (nI 1)), (2, .int (nI (pAll (mV M) (M.1 60 11) (M.1 66 10) (M.1 60 13) (M.1 60 14) 1 c + pRow (mV M) (M.1 60 11) (M.1 66 10) (M.1 60 13) 1 c (t + 1)))), (3, .int (nI c)), (4, .int (nI (M.1 60 13 + t + 1))), (5, .int (nI (sSold (mV M) (M.1 60 11) (M.1 66 10) c (M.1 60 13 + t)))), (6, .int (nI 0))] rfl dX7_points_115 (by decide) rfl rfl ?_
                refine g_goto (pc := 118) 27 dX7_points_118 (by decide) ?_
                refine g_pick (pc := 27) [0, 1, 2, 3, 4] [(0, .ref (gAd E 60)), (1, .int (nI 1)), (2, .int (nI (pAll (mV M) (M.1 60 11) (M.1 66 10) (M.1 60 13) (M.1 60 14) 1 c + pRow (mV M) (M.1 60 11) (M.1 66 10) (M.1 60 13) 1 c (t + 1)))), (3, .int (nI c)), (4, .int (nI (M.1 60 13 + t + 1)))] rfl ?_
                refine g_lv (pc := 27) (lv' := [(0, .ref (gAd E 60)), (1, .int (nI 1)), (2, .int (nI (pAll (mV M) (M.1 60 11) (M.1 66 10) (M.1 60 13) (M.1 60 14) 1 c + pRow (mV M) (M.1 60 11) (M.1 66 10) (M.1 60 13) 1 c (t + 1)))), (3, .int (nI c)), (4, .int (nI (M.1 60 13 + (t + 1))))]) rfl ?_
                exact iht (by omega)
          refine g_lv (pc := 27) (lv' := [(0, .ref (gAd E 60)), (1, .int (nI 1)), (2, .int (nI (pAll (mV M) (M.1 60 11) (M.1 66 10) (M.1 60 13) (M.1 60 14) 1 c + pRow (mV M) (M.1 60 11) (M.1 66 10) (M.1 60 13) 1 c 0))), (3, .int (nI c)), (4, .int (nI (M.1 60 13 + 0)))]) rfl ?_
          exact lp27 0 (by omega)
      refine g_lv (pc := 15) (lv' := [(0, .ref (gAd E 60)), (1, .int (nI 1)), (2, .int (nI (pAll (mV M) (M.1 60 11) (M.1 66 10) (M.1 60 13) (M.1 60 14) 1 0))), (3, .int (nI 0))]) rfl ?_
      exact lp15 0 (by omega)
    · refine g_iconst (pc := 11) (nI 0) (by decide) dX7_points_11 ?_
      refine g_istore_n (pc := 12) rfl [(0, .ref (gAd E 60)), (1, .int (nI 2)), (2, .int (nI 0))] dX7_points_12 (by decide) rfl rfl ?_
      refine g_iconst (pc := 13) (nI 0) (by decide) dX7_points_13 ?_
      refine g_istore_n (pc := 14) rfl [(0, .ref (gAd E 60)), (1, .int (nI 2)), (2, .int (nI 0)), (3, .int (nI 0))] dX7_points_14 (by decide) rfl rfl ?_
      have lp15 : ∀ c, c ≤ 96 → gG l (gV0 3 E (fun v u => v = some (.int (fSel 5 (nI 2) (fun q => nI (pAll (mV M) (M.1 60 11) (M.1 66 10) (M.1 60 13) (M.1 60 14) q 96)) (-1))) ∧ u = M)) mX7_points E (0, 0) M 15 [(0, .ref (gAd E 60)), (1, .int (nI 2)), (2, .int (nI (pAll (mV M) (M.1 60 11) (M.1 66 10) (M.1 60 13) (M.1 60 14) 2 c))), (3, .int (nI c))] [] := by
        refine gloop (fun c hic ihc => ?_)
        refine g_iload_n (pc := 15) 3 rfl rfl dX7_points_15 ?_
        refine g_bipush (pc := 16) (nI 96) (by decide) dX7_points_16 ?_
        refine g_icmpN_ge (pc := 18) 127 dX7_points_18 (by decide) (by omega) (by omega) (fun h18 => ?_) (fun h18 => ?_)
        · refine g_iload_n (pc := 127) 2 rfl rfl dX7_points_127 ?_
          exact g_iret (pc := 128) rfl dX7_points_128 ⟨congrArg (fun z => some (Value.int z)) (by rw [fSel_in hq (by omega), show c = 96 by omega]), rfl⟩
        · refine g_aload_n (pc := 21) 0 rfl rfl dX7_points_21 ?_
          refine fX7_67 (pc := 22) rfl hR.s0 dX7_points_22 ?_
          refine g_istore (pc := 25) [(0, .ref (gAd E 60)), (1, .int (nI 2)), (2, .int (nI (pAll (mV M) (M.1 60 11) (M.1 66 10) (M.1 60 13) (M.1 60 14) 2 c))), (3, .int (nI c)), (4, .int (nI (M.1 60 13)))] dX7_points_25 (by decide) rfl rfl ?_
          have lp27 : ∀ t, t ≤ M.1 60 14 + 1 - M.1 60 13 → gG l (gV0 3 E (fun v u => v = some (.int (fSel 5 (nI 2) (fun q => nI (pAll (mV M) (M.1 60 11) (M.1 66 10) (M.1 60 13) (M.1 60 14) q 96)) (-1))) ∧ u = M)) mX7_points E (0, 0) M 27 [(0, .ref (gAd E 60)), (1, .int (nI 2)), (2, .int (nI (pAll (mV M) (M.1 60 11) (M.1 66 10) (M.1 60 13) (M.1 60 14) 2 c + pRow (mV M) (M.1 60 11) (M.1 66 10) (M.1 60 13) 2 c t))), (3, .int (nI c)), (4, .int (nI (M.1 60 13 + t)))] [] := by
            refine gloop (fun t hit iht => ?_)
            refine g_iload (pc := 27) 4 rfl dX7_points_27 ?_
            refine g_aload_n (pc := 29) 0 rfl rfl dX7_points_29 ?_
            refine fX7_70 (pc := 30) rfl hR.s0 dX7_points_30 ?_
            refine g_icmpN_gt (pc := 33) 121 dX7_points_33 (by decide) (by omega) (by omega) (fun h33 => ?_) (fun h33 => ?_)
            · refine g_iincN (pc := 121) 1 3 [(0, .ref (gAd E 60)), (1, .int (nI 2)), (2, .int (nI (pAll (mV M) (M.1 60 11) (M.1 66 10) (M.1 60 13) (M.1 60 14) 2 c + pRow (mV M) (M.1 60 11) (M.1 66 10) (M.1 60 13) 2 c t))), (3, .int (nI (c + 1))), (4, .int (nI (M.1 60 13 + t)))] rfl dX7_points_121 (by decide) rfl rfl ?_
              refine g_goto (pc := 124) 15 dX7_points_124 (by decide) ?_
              refine g_pick (pc := 15) [0, 1, 2, 3] [(0, .ref (gAd E 60)), (1, .int (nI 2)), (2, .int (nI (pAll (mV M) (M.1 60 11) (M.1 66 10) (M.1 60 13) (M.1 60 14) 2 c + pRow (mV M) (M.1 60 11) (M.1 66 10) (M.1 60 13) 2 c t))), (3, .int (nI (c + 1)))] rfl ?_
              refine g_lv (pc := 15) (lv' := [(0, .ref (gAd E 60)), (1, .int (nI 2)), (2, .int (nI (pAll (mV M) (M.1 60 11) (M.1 66 10) (M.1 60 13) (M.1 60 14) 2 (c + 1)))), (3, .int (nI (c + 1)))]) (by rw [show pAll (mV M) (M.1 60 11) (M.1 66 10) (M.1 60 13) (M.1 60 14) 2 (c + 1) = pAll (mV M) (M.1 60 11) (M.1 66 10) (M.1 60 13) (M.1 60 14) 2 c + pRow (mV M) (M.1 60 11) (M.1 66 10) (M.1 60 13) 2 c t from by rw [show t = M.1 60 14 + 1 - M.1 60 13 by omega]; rfl]) ?_
              exact ihc (by omega)
            · refine g_aload_n (pc := 36) 0 rfl rfl dX7_points_36 ?_
              refine g_iload_n (pc := 37) 3 rfl rfl dX7_points_37 ?_
              refine g_iload (pc := 38) 4 rfl dX7_points_38 ?_
              refine g_callV (pc := 40) (mc := mX7_soldAt) (rest := []) lX7_156 iX7_soldAt (kX7_soldAt l E M hR hO hsg c (M.1 60 13 + t) (by omega) (by omega)) ⟨Nat.le_of_ble_eq_true rfl, Nat.le_of_ble_eq_true rfl⟩ hR.s0 (by decide) (by decide) rfl rfl rfl rfl (Nat.le_of_ble_eq_true rfl) ⟨Nat.zero_le _, Nat.zero_le _⟩ dX7_points_40 (g_rI ?_)
              have hsl := sSold_le (V := mV M) (n := M.1 60 11) (sg := M.1 66 10) (row := c) (wk := M.1 60 13 + t)
              refine g_istore (pc := 43) [(0, .ref (gAd E 60)), (1, .int (nI 2)), (2, .int (nI (pAll (mV M) (M.1 60 11) (M.1 66 10) (M.1 60 13) (M.1 60 14) 2 c + pRow (mV M) (M.1 60 11) (M.1 66 10) (M.1 60 13) 2 c t))), (3, .int (nI c)), (4, .int (nI (M.1 60 13 + t))), (5, .int (nI (sSold (mV M) (M.1 60 11) (M.1 66 10) c (M.1 60 13 + t))))] dX7_points_43 (by decide) rfl rfl ?_
              refine g_iload_n (pc := 45) 1 rfl rfl dX7_points_45 ?_
              refine g_ifN_eq (pc := 46) 95 dX7_points_46 (by decide) (by omega) (fun h46 => absurd h46 (by omega)) (fun h46 => ?_)
              refine g_iload_n (pc := 49) 1 rfl rfl dX7_points_49 ?_
              refine g_iconst (pc := 50) (nI 1) (by decide) dX7_points_50 ?_
              refine g_icmpN_ne (pc := 51) 59 dX7_points_51 (by decide) (by omega) (by omega) (fun h51 => ?_) (fun h51 => absurd h51 (by omega))
              refine g_iload_n (pc := 59) 1 rfl rfl dX7_points_59 ?_
              refine g_iconst (pc := 60) (nI 2) (by decide) dX7_points_60 ?_
              refine g_icmpN_ne (pc := 61) 70 dX7_points_61 (by decide) (by omega) (by omega) (fun h61 => absurd h61 (by omega)) (fun h61 => ?_)
              refine g_iload (pc := 64) 5 rfl dX7_points_64 ?_
              refine g_iconst (pc := 66) (nI 1) (by decide) dX7_points_66 ?_
              refine g_icmpN_gt (pc := 67) 95 dX7_points_67 (by decide) (by omega) (by omega) (fun h67 => ?_) (fun h67 => ?_)
              · refine g_iconst (pc := 95) (nI 1) (by decide) dX7_points_95 ?_
                refine g_goto (pc := 96) 100 dX7_points_96 (by decide) ?_
                refine g_istore (pc := 100) [(0, .ref (gAd E 60)), (1, .int (nI 2)), (2, .int (nI (pAll (mV M) (M.1 60 11) (M.1 66 10) (M.1 60 13) (M.1 60 14) 2 c + pRow (mV M) (M.1 60 11) (M.1 66 10) (M.1 60 13) 2 c t))), (3, .int (nI c)), (4, .int (nI (M.1 60 13 + t))), (5, .int (nI (sSold (mV M) (M.1 60 11) (M.1 66 10) c (M.1 60 13 + t)))), (6, .int (nI 1))] dX7_points_100 (by decide) rfl rfl ?_
                refine g_iload_n (pc := 102) 2 rfl rfl dX7_points_102 ?_
                refine g_iload (pc := 103) 6 rfl dX7_points_103 ?_
                refine g_ifN_eq (pc := 105) 112 dX7_points_105 (by decide) (by omega) (fun h105 => absurd h105 (by omega)) (fun h105 => ?_)
                refine g_iconst (pc := 108) (nI 1) (by decide) dX7_points_108 ?_
                refine g_goto (pc := 109) 113 dX7_points_109 (by decide) ?_
                refine g_iaddN (pc := 113) dX7_points_113 ?_
                refine g_topi (pc := 114) (x' := nI (pAll (mV M) (M.1 60 11) (M.1 66 10) (M.1 60 13) (M.1 60 14) 2 c + pRow (mV M) (M.1 60 11) (M.1 66 10) (M.1 60 13) 2 c (t + 1))) (by rw [show pRow (mV M) (M.1 60 11) (M.1 66 10) (M.1 60 13) 2 c (t + 1) = pRow (mV M) (M.1 60 11) (M.1 66 10) (M.1 60 13) 2 c t + (if pI (mV M) (M.1 60 11) (M.1 66 10) c (M.1 60 13 + t) 2 then 1 else 0) from rfl, show pI (mV M) (M.1 60 11) (M.1 66 10) c (M.1 60 13 + t) 2 = true from decide_eq_true (by omega)]; rfl) ?_
                refine g_istore_n (pc := 114) rfl [(0, .ref (gAd E 60)), (1, .int (nI 2)), (2, .int (nI (pAll (mV M) (M.1 60 11) (M.1 66 10) (M.1 60 13) (M.1 60 14) 2 c + pRow (mV M) (M.1 60 11) (M.1 66 10) (M.1 60 13) 2 c (t + 1)))), (3, .int (nI c)), (4, .int (nI (M.1 60 13 + t))), (5, .int (nI (sSold (mV M) (M.1 60 11) (M.1 66 10) c (M.1 60 13 + t)))), (6, .int (nI 1))] dX7_points_114 (by decide) rfl rfl ?_
                refine g_iincN (pc := 115) 1 4 [(0, .ref (gAd E 60)), (1, .int (nI 2)), (2, .int (nI (pAll (mV M) (M.1 60 11) (M.1 66 10) (M.1 60 13) (M.1 60 14) 2 c + pRow (mV M) (M.1 60 11) (M.1 66 10) (M.1 60 13) 2 c (t + 1)))), (3, .int (nI c)), (4, .int (nI (M.1 60 13 + t + 1))), (5, .int (nI (sSold (mV M) (M.1 60 11) (M.1 66 10) c (M.1 60 13 + t)))), (6, .int (nI 1))] rfl dX7_points_115 (by decide) rfl rfl ?_
                refine g_goto (pc := 118) 27 dX7_points_118 (by decide) ?_
                refine g_pick (pc := 27) [0, 1, 2, 3, 4] [(0, .ref (gAd E 60)), (1, .int (nI 2)), (2, .int (nI (pAll (mV M) (M.1 60 11) (M.1 66 10) (M.1 60 13) (M.1 60 14) 2 c + pRow (mV M) (M.1 60 11) (M.1 66 10) (M.1 60 13) 2 c (t + 1)))), (3, .int (nI c)), (4, .int (nI (M.1 60 13 + t + 1)))] rfl ?_
                refine g_lv (pc := 27) (lv' := [(0, .ref (gAd E 60)), (1, .int (nI 2)), (2, .int (nI (pAll (mV M) (M.1 60 11) (M.1 66 10) (M.1 60 13) (M.1 60 14) 2 c + pRow (mV M) (M.1 60 11) (M.1 66 10) (M.1 60 13) 2 c (t + 1)))), (3, .int (nI c)), (4, .int (nI (M.1 60 13 + (t + 1))))]) rfl ?_
                exact iht (by omega)
              · refine g_iload_n (pc := 70) 1 rfl rfl dX7_points_70 ?_
                refine g_iconst (pc := 71) (nI 3) (by decide) dX7_points_71 ?_
                refine g_icmpN_ne (pc := 72) 85 dX7_points_72 (by decide) (by omega) (by omega) (fun h72 => ?_) (fun h72 => absurd h72 (by omega))
                refine g_iload_n (pc := 85) 1 rfl rfl dX7_points_85 ?_
                refine g_iconst (pc := 86) (nI 4) (by decide) dX7_points_86 ?_
                refine g_icmpN_ne (pc := 87) 99 dX7_points_87 (by decide) (by omega) (by omega) (fun h87 => ?_) (fun h87 => absurd h87 (by omega))
                refine g_iconst (pc := 99) (nI 0) (by decide) dX7_points_99 ?_
                refine g_istore (pc := 100) [(0, .ref (gAd E 60)), (1, .int (nI 2)), (2, .int (nI (pAll (mV M) (M.1 60 11) (M.1 66 10) (M.1 60 13) (M.1 60 14) 2 c + pRow (mV M) (M.1 60 11) (M.1 66 10) (M.1 60 13) 2 c t))), (3, .int (nI c)), (4, .int (nI (M.1 60 13 + t))), (5, .int (nI (sSold (mV M) (M.1 60 11) (M.1 66 10) c (M.1 60 13 + t)))), (6, .int (nI 0))] dX7_points_100 (by decide) rfl rfl ?_
                refine g_iload_n (pc := 102) 2 rfl rfl dX7_points_102 ?_
                refine g_iload (pc := 103) 6 rfl dX7_points_103 ?_
                refine g_ifN_eq (pc := 105) 112 dX7_points_105 (by decide) (by omega) (fun h105 => ?_) (fun h105 => absurd h105 (by omega))
                refine g_iconst (pc := 112) (nI 0) (by decide) dX7_points_112 ?_
                refine g_iaddN (pc := 113) dX7_points_113 ?_
                refine g_topi (pc := 114) (x' := nI (pAll (mV M) (M.1 60 11) (M.1 66 10) (M.1 60 13) (M.1 60 14) 2 c + pRow (mV M) (M.1 60 11) (M.1 66 10) (M.1 60 13) 2 c (t + 1))) (by rw [show pRow (mV M) (M.1 60 11) (M.1 66 10) (M.1 60 13) 2 c (t + 1) = pRow (mV M) (M.1 60 11) (M.1 66 10) (M.1 60 13) 2 c t + (if pI (mV M) (M.1 60 11) (M.1 66 10) c (M.1 60 13 + t) 2 then 1 else 0) from rfl, show pI (mV M) (M.1 60 11) (M.1 66 10) c (M.1 60 13 + t) 2 = false from decide_eq_false (by omega)]; rfl) ?_
                refine g_istore_n (pc := 114) rfl [(0, .ref (gAd E 60)), (1, .int (nI 2)), (2, .int (nI (pAll (mV M) (M.1 60 11) (M.1 66 10) (M.1 60 13) (M.1 60 14) 2 c + pRow (mV M) (M.1 60 11) (M.1 66 10) (M.1 60 13) 2 c (t + 1)))), (3, .int (nI c)), (4, .int (nI (M.1 60 13 + t))), (5, .int (nI (sSold (mV M) (M.1 60 11) (M.1 66 10) c (M.1 60 13 + t)))), (6, .int (nI 0))] dX7_points_114 (by decide) rfl rfl ?_
                refine g_iincN (pc := 115) 1 4 [(0, .ref (gAd E 60)), (1, .int (nI 2)), (2, .int (nI (pAll (mV M) (M.1 60 11) (M.1 66 10) (M.1 60 13) (M.1 60 14) 2 c + pRow (mV M) (M.1 60 11) (M.1 66 10) (M.1 60 13) 2 c (t + 1)))), (3, .int (nI c)), (4, .int (nI (M.1 60 13 + t + 1))), (5, .int (nI (sSold (mV M) (M.1 60 11) (M.1 66 10) c (M.1 60 13 + t)))), (6, .int (nI 0))] rfl dX7_points_115 (by decide) rfl rfl ?_
                refine g_goto (pc := 118) 27 dX7_points_118 (by decide) ?_
                refine g_pick (pc := 27) [0, 1, 2, 3, 4] [(0, .ref (gAd E 60)), (1, .int (nI 2)), (2, .int (nI (pAll (mV M) (M.1 60 11) (M.1 66 10) (M.1 60 13) (M.1 60 14) 2 c + pRow (mV M) (M.1 60 11) (M.1 66 10) (M.1 60 13) 2 c (t + 1)))), (3, .int (nI c)), (4, .int (nI (M.1 60 13 + t + 1)))] rfl ?_
                refine g_lv (pc := 27) (lv' := [(0, .ref (gAd E 60)), (1, .int (nI 2)), (2, .int (nI (pAll (mV M) (M.1 60 11) (M.1 66 10) (M.1 60 13) (M.1 60 14) 2 c + pRow (mV M) (M.1 60 11) (M.1 66 10) (M.1 60 13) 2 c (t + 1)))), (3, .int (nI c)), (4, .int (nI (M.1 60 13 + (t + 1))))]) rfl ?_
                exact iht (by omega)
          refine g_lv (pc := 27) (lv' := [(0, .ref (gAd E 60)), (1, .int (nI 2)), (2, .int (nI (pAll (mV M) (M.1 60 11) (M.1 66 10) (M.1 60 13) (M.1 60 14) 2 c + pRow (mV M) (M.1 60 11) (M.1 66 10) (M.1 60 13) 2 c 0))), (3, .int (nI c)), (4, .int (nI (M.1 60 13 + 0)))]) rfl ?_
          exact lp27 0 (by omega)
      refine g_lv (pc := 15) (lv' := [(0, .ref (gAd E 60)), (1, .int (nI 2)), (2, .int (nI (pAll (mV M) (M.1 60 11) (M.1 66 10) (M.1 60 13) (M.1 60 14) 2 0))), (3, .int (nI 0))]) rfl ?_
      exact lp15 0 (by omega)
    · refine g_iconst (pc := 11) (nI 0) (by decide) dX7_points_11 ?_
      refine g_istore_n (pc := 12) rfl [(0, .ref (gAd E 60)), (1, .int (nI 3)), (2, .int (nI 0))] dX7_points_12 (by decide) rfl rfl ?_
      refine g_iconst (pc := 13) (nI 0) (by decide) dX7_points_13 ?_
      refine g_istore_n (pc := 14) rfl [(0, .ref (gAd E 60)), (1, .int (nI 3)), (2, .int (nI 0)), (3, .int (nI 0))] dX7_points_14 (by decide) rfl rfl ?_
      have lp15 : ∀ c, c ≤ 96 → gG l (gV0 3 E (fun v u => v = some (.int (fSel 5 (nI 3) (fun q => nI (pAll (mV M) (M.1 60 11) (M.1 66 10) (M.1 60 13) (M.1 60 14) q 96)) (-1))) ∧ u = M)) mX7_points E (0, 0) M 15 [(0, .ref (gAd E 60)), (1, .int (nI 3)), (2, .int (nI (pAll (mV M) (M.1 60 11) (M.1 66 10) (M.1 60 13) (M.1 60 14) 3 c))), (3, .int (nI c))] [] := by
        refine gloop (fun c hic ihc => ?_)
        refine g_iload_n (pc := 15) 3 rfl rfl dX7_points_15 ?_
        refine g_bipush (pc := 16) (nI 96) (by decide) dX7_points_16 ?_
        refine g_icmpN_ge (pc := 18) 127 dX7_points_18 (by decide) (by omega) (by omega) (fun h18 => ?_) (fun h18 => ?_)
        · refine g_iload_n (pc := 127) 2 rfl rfl dX7_points_127 ?_
          exact g_iret (pc := 128) rfl dX7_points_128 ⟨congrArg (fun z => some (Value.int z)) (by rw [fSel_in hq (by omega), show c = 96 by omega]), rfl⟩
        · refine g_aload_n (pc := 21) 0 rfl rfl dX7_points_21 ?_
          refine fX7_67 (pc := 22) rfl hR.s0 dX7_points_22 ?_
          refine g_istore (pc := 25) [(0, .ref (gAd E 60)), (1, .int (nI 3)), (2, .int (nI (pAll (mV M) (M.1 60 11) (M.1 66 10) (M.1 60 13) (M.1 60 14) 3 c))), (3, .int (nI c)), (4, .int (nI (M.1 60 13)))] dX7_points_25 (by decide) rfl rfl ?_
          have lp27 : ∀ t, t ≤ M.1 60 14 + 1 - M.1 60 13 → gG l (gV0 3 E (fun v u => v = some (.int (fSel 5 (nI 3) (fun q => nI (pAll (mV M) (M.1 60 11) (M.1 66 10) (M.1 60 13) (M.1 60 14) q 96)) (-1))) ∧ u = M)) mX7_points E (0, 0) M 27 [(0, .ref (gAd E 60)), (1, .int (nI 3)), (2, .int (nI (pAll (mV M) (M.1 60 11) (M.1 66 10) (M.1 60 13) (M.1 60 14) 3 c + pRow (mV M) (M.1 60 11) (M.1 66 10) (M.1 60 13) 3 c t))), (3, .int (nI c)), (4, .int (nI (M.1 60 13 + t)))] [] := by
            refine gloop (fun t hit iht => ?_)
            refine g_iload (pc := 27) 4 rfl dX7_points_27 ?_
            refine g_aload_n (pc := 29) 0 rfl rfl dX7_points_29 ?_
            refine fX7_70 (pc := 30) rfl hR.s0 dX7_points_30 ?_
            refine g_icmpN_gt (pc := 33) 121 dX7_points_33 (by decide) (by omega) (by omega) (fun h33 => ?_) (fun h33 => ?_)
            · refine g_iincN (pc := 121) 1 3 [(0, .ref (gAd E 60)), (1, .int (nI 3)), (2, .int (nI (pAll (mV M) (M.1 60 11) (M.1 66 10) (M.1 60 13) (M.1 60 14) 3 c + pRow (mV M) (M.1 60 11) (M.1 66 10) (M.1 60 13) 3 c t))), (3, .int (nI (c + 1))), (4, .int (nI (M.1 60 13 + t)))] rfl dX7_points_121 (by decide) rfl rfl ?_
              refine g_goto (pc := 124) 15 dX7_points_124 (by decide) ?_
              refine g_pick (pc := 15) [0, 1, 2, 3] [(0, .ref (gAd E 60)), (1, .int (nI 3)), (2, .int (nI (pAll (mV M) (M.1 60 11) (M.1 66 10) (M.1 60 13) (M.1 60 14) 3 c + pRow (mV M) (M.1 60 11) (M.1 66 10) (M.1 60 13) 3 c t))), (3, .int (nI (c + 1)))] rfl ?_
              refine g_lv (pc := 15) (lv' := [(0, .ref (gAd E 60)), (1, .int (nI 3)), (2, .int (nI (pAll (mV M) (M.1 60 11) (M.1 66 10) (M.1 60 13) (M.1 60 14) 3 (c + 1)))), (3, .int (nI (c + 1)))]) (by rw [show pAll (mV M) (M.1 60 11) (M.1 66 10) (M.1 60 13) (M.1 60 14) 3 (c + 1) = pAll (mV M) (M.1 60 11) (M.1 66 10) (M.1 60 13) (M.1 60 14) 3 c + pRow (mV M) (M.1 60 11) (M.1 66 10) (M.1 60 13) 3 c t from by rw [show t = M.1 60 14 + 1 - M.1 60 13 by omega]; rfl]) ?_
              exact ihc (by omega)
            · refine g_aload_n (pc := 36) 0 rfl rfl dX7_points_36 ?_
              refine g_iload_n (pc := 37) 3 rfl rfl dX7_points_37 ?_
              refine g_iload (pc := 38) 4 rfl dX7_points_38 ?_
              refine g_callV (pc := 40) (mc := mX7_soldAt) (rest := []) lX7_156 iX7_soldAt (kX7_soldAt l E M hR hO hsg c (M.1 60 13 + t) (by omega) (by omega)) ⟨Nat.le_of_ble_eq_true rfl, Nat.le_of_ble_eq_true rfl⟩ hR.s0 (by decide) (by decide) rfl rfl rfl rfl (Nat.le_of_ble_eq_true rfl) ⟨Nat.zero_le _, Nat.zero_le _⟩ dX7_points_40 (g_rI ?_)
              have hsl := sSold_le (V := mV M) (n := M.1 60 11) (sg := M.1 66 10) (row := c) (wk := M.1 60 13 + t)
              refine g_istore (pc := 43) [(0, .ref (gAd E 60)), (1, .int (nI 3)), (2, .int (nI (pAll (mV M) (M.1 60 11) (M.1 66 10) (M.1 60 13) (M.1 60 14) 3 c + pRow (mV M) (M.1 60 11) (M.1 66 10) (M.1 60 13) 3 c t))), (3, .int (nI c)), (4, .int (nI (M.1 60 13 + t))), (5, .int (nI (sSold (mV M) (M.1 60 11) (M.1 66 10) c (M.1 60 13 + t))))] dX7_points_43 (by decide) rfl rfl ?_
              refine g_iload_n (pc := 45) 1 rfl rfl dX7_points_45 ?_
              refine g_ifN_eq (pc := 46) 95 dX7_points_46 (by decide) (by omega) (fun h46 => absurd h46 (by omega)) (fun h46 => ?_)
              refine g_iload_n (pc := 49) 1 rfl rfl dX7_points_49 ?_
              refine g_iconst (pc := 50) (nI 1) (by decide) dX7_points_50 ?_
              refine g_icmpN_ne (pc := 51) 59 dX7_points_51 (by decide) (by omega) (by omega) (fun h51 => ?_) (fun h51 => absurd h51 (by omega))
              refine g_iload_n (pc := 59) 1 rfl rfl dX7_points_59 ?_
              refine g_iconst (pc := 60) (nI 2) (by decide) dX7_points_60 ?_
              refine g_icmpN_ne (pc := 61) 70 dX7_points_61 (by decide) (by omega) (by omega) (fun h61 => ?_) (fun h61 => absurd h61 (by omega))
              refine g_iload_n (pc := 70) 1 rfl rfl dX7_points_70 ?_
              refine g_iconst (pc := 71) (nI 3) (by decide) dX7_points_71 ?_
              refine g_icmpN_ne (pc := 72) 85 dX7_points_72 (by decide) (by omega) (by omega) (fun h72 => absurd h72 (by omega)) (fun h72 => ?_)
              refine g_aload_n (pc := 75) 0 rfl rfl dX7_points_75 ?_
              refine g_iload_n (pc := 76) 3 rfl rfl dX7_points_76 ?_
              refine g_iload (pc := 77) 4 rfl dX7_points_77 ?_
              refine g_callV (pc := 79) (mc := mX7_isAloneAt) (rest := []) lX7_159 iX7_isAloneAt (kX7_isAloneAt l E M hR hO hsg c (M.1 60 13 + t) (by omega) (by omega)) ⟨Nat.le_of_ble_eq_true rfl, Nat.le_of_ble_eq_true rfl⟩ hR.s0 (by decide) (by decide) rfl rfl rfl rfl (Nat.le_of_ble_eq_true rfl) ⟨Nat.zero_le _, Nat.zero_le _⟩ dX7_points_79 (g_rI ?_)
              refine g_ifB_ne (pc := 82) 95 dX7_points_82 (by decide) (fun h82 => ?_) (fun h82 => ?_)
              · refine g_iconst (pc := 95) (nI 1) (by decide) dX7_points_95 ?_
                refine g_goto (pc := 96) 100 dX7_points_96 (by decide) ?_
                refine g_istore (pc := 100) [(0, .ref (gAd E 60)), (1, .int (nI 3)), (2, .int (nI (pAll (mV M) (M.1 60 11) (M.1 66 10) (M.1 60 13) (M.1 60 14) 3 c + pRow (mV M) (M.1 60 11) (M.1 66 10) (M.1 60 13) 3 c t))), (3, .int (nI c)), (4, .int (nI (M.1 60 13 + t))), (5, .int (nI (sSold (mV M) (M.1 60 11) (M.1 66 10) c (M.1 60 13 + t)))), (6, .int (nI 1))] dX7_points_100 (by decide) rfl rfl ?_
                refine g_iload_n (pc := 102) 2 rfl rfl dX7_points_102 ?_
                refine g_iload (pc := 103) 6 rfl dX7_points_103 ?_
                refine g_ifN_eq (pc := 105) 112 dX7_points_105 (by decide) (by omega) (fun h105 => absurd h105 (by omega)) (fun h105 => ?_)
                refine g_iconst (pc := 108) (nI 1) (by decide) dX7_points_108 ?_
                refine g_goto (pc := 109) 113 dX7_points_109 (by decide) ?_
                refine g_iaddN (pc := 113) dX7_points_113 ?_
                refine g_topi (pc := 114) (x' := nI (pAll (mV M) (M.1 60 11) (M.1 66 10) (M.1 60 13) (M.1 60 14) 3 c + pRow (mV M) (M.1 60 11) (M.1 66 10) (M.1 60 13) 3 c (t + 1))) (by rw [show pRow (mV M) (M.1 60 11) (M.1 66 10) (M.1 60 13) 3 c (t + 1) = pRow (mV M) (M.1 60 11) (M.1 66 10) (M.1 60 13) 3 c t + (if pI (mV M) (M.1 60 11) (M.1 66 10) c (M.1 60 13 + t) 3 then 1 else 0) from rfl, show pI (mV M) (M.1 60 11) (M.1 66 10) c (M.1 60 13 + t) 3 = true from h82]; rfl) ?_
                refine g_istore_n (pc := 114) rfl [(0, .ref (gAd E 60)), (1, .int (nI 3)), (2, .int (nI (pAll (mV M) (M.1 60 11) (M.1 66 10) (M.1 60 13) (M.1 60 14) 3 c + pRow (mV M) (M.1 60 11) (M.1 66 10) (M.1 60 13) 3 c (t + 1)))), (3, .int (nI c)), (4, .int (nI (M.1 60 13 + t))), (5, .int (nI (sSold (mV M) (M.1 60 11) (M.1 66 10) c (M.1 60 13 + t)))), (6, .int (nI 1))] dX7_points_114 (by decide) rfl rfl ?_
                refine g_iincN (pc := 115) 1 4 [(0, .ref (gAd E 60)), (1, .int (nI 3)), (2, .int (nI (pAll (mV M) (M.1 60 11) (M.1 66 10) (M.1 60 13) (M.1 60 14) 3 c + pRow (mV M) (M.1 60 11) (M.1 66 10) (M.1 60 13) 3 c (t + 1)))), (3, .int (nI c)), (4, .int (nI (M.1 60 13 + t + 1))), (5, .int (nI (sSold (mV M) (M.1 60 11) (M.1 66 10) c (M.1 60 13 + t)))), (6, .int (nI 1))] rfl dX7_points_115 (by decide) rfl rfl ?_
                refine g_goto (pc := 118) 27 dX7_points_118 (by decide) ?_
                refine g_pick (pc := 27) [0, 1, 2, 3, 4] [(0, .ref (gAd E 60)), (1, .int (nI 3)), (2, .int (nI (pAll (mV M) (M.1 60 11) (M.1 66 10) (M.1 60 13) (M.1 60 14) 3 c + pRow (mV M) (M.1 60 11) (M.1 66 10) (M.1 60 13) 3 c (t + 1)))), (3, .int (nI c)), (4, .int (nI (M.1 60 13 + t + 1)))] rfl ?_
                refine g_lv (pc := 27) (lv' := [(0, .ref (gAd E 60)), (1, .int (nI 3)), (2, .int (nI (pAll (mV M) (M.1 60 11) (M.1 66 10) (M.1 60 13) (M.1 60 14) 3 c + pRow (mV M) (M.1 60 11) (M.1 66 10) (M.1 60 13) 3 c (t + 1)))), (3, .int (nI c)), (4, .int (nI (M.1 60 13 + (t + 1))))]) rfl ?_
                exact iht (by omega)
              · refine g_iload_n (pc := 85) 1 rfl rfl dX7_points_85 ?_
                refine g_iconst (pc := 86) (nI 4) (by decide) dX7_points_86 ?_
                refine g_icmpN_ne (pc := 87) 99 dX7_points_87 (by decide) (by omega) (by omega) (fun h87 => ?_) (fun h87 => absurd h87 (by omega))
                refine g_iconst (pc := 99) (nI 0) (by decide) dX7_points_99 ?_
                refine g_istore (pc := 100) [(0, .ref (gAd E 60)), (1, .int (nI 3)), (2, .int (nI (pAll (mV M) (M.1 60 11) (M.1 66 10) (M.1 60 13) (M.1 60 14) 3 c + pRow (mV M) (M.1 60 11) (M.1 66 10) (M.1 60 13) 3 c t))), (3, .int (nI c)), (4, .int (nI (M.1 60 13 + t))), (5, .int (nI (sSold (mV M) (M.1 60 11) (M.1 66 10) c (M.1 60 13 + t)))), (6, .int (nI 0))] dX7_points_100 (by decide) rfl rfl ?_
                refine g_iload_n (pc := 102) 2 rfl rfl dX7_points_102 ?_
                refine g_iload (pc := 103) 6 rfl dX7_points_103 ?_
                refine g_ifN_eq (pc := 105) 112 dX7_points_105 (by decide) (by omega) (fun h105 => ?_) (fun h105 => absurd h105 (by omega))
                refine g_iconst (pc := 112) (nI 0) (by decide) dX7_points_112 ?_
                refine g_iaddN (pc := 113) dX7_points_113 ?_
                refine g_topi (pc := 114) (x' := nI (pAll (mV M) (M.1 60 11) (M.1 66 10) (M.1 60 13) (M.1 60 14) 3 c + pRow (mV M) (M.1 60 11) (M.1 66 10) (M.1 60 13) 3 c (t + 1))) (by rw [show pRow (mV M) (M.1 60 11) (M.1 66 10) (M.1 60 13) 3 c (t + 1) = pRow (mV M) (M.1 60 11) (M.1 66 10) (M.1 60 13) 3 c t + (if pI (mV M) (M.1 60 11) (M.1 66 10) c (M.1 60 13 + t) 3 then 1 else 0) from rfl, show pI (mV M) (M.1 60 11) (M.1 66 10) c (M.1 60 13 + t) 3 = false from h82]; rfl) ?_
                refine g_istore_n (pc := 114) rfl [(0, .ref (gAd E 60)), (1, .int (nI 3)), (2, .int (nI (pAll (mV M) (M.1 60 11) (M.1 66 10) (M.1 60 13) (M.1 60 14) 3 c + pRow (mV M) (M.1 60 11) (M.1 66 10) (M.1 60 13) 3 c (t + 1)))), (3, .int (nI c)), (4, .int (nI (M.1 60 13 + t))), (5, .int (nI (sSold (mV M) (M.1 60 11) (M.1 66 10) c (M.1 60 13 + t)))), (6, .int (nI 0))] dX7_points_114 (by decide) rfl rfl ?_
                refine g_iincN (pc := 115) 1 4 [(0, .ref (gAd E 60)), (1, .int (nI 3)), (2, .int (nI (pAll (mV M) (M.1 60 11) (M.1 66 10) (M.1 60 13) (M.1 60 14) 3 c + pRow (mV M) (M.1 60 11) (M.1 66 10) (M.1 60 13) 3 c (t + 1)))), (3, .int (nI c)), (4, .int (nI (M.1 60 13 + t + 1))), (5, .int (nI (sSold (mV M) (M.1 60 11) (M.1 66 10) c (M.1 60 13 + t)))), (6, .int (nI 0))] rfl dX7_points_115 (by decide) rfl rfl ?_
                refine g_goto (pc := 118) 27 dX7_points_118 (by decide) ?_
                refine g_pick (pc := 27) [0, 1, 2, 3, 4] [(0, .ref (gAd E 60)), (1, .int (nI 3)), (2, .int (nI (pAll (mV M) (M.1 60 11) (M.1 66 10) (M.1 60 13) (M.1 60 14) 3 c + pRow (mV M) (M.1 60 11) (M.1 66 10) (M.1 60 13) 3 c (t + 1)))), (3, .int (nI c)), (4, .int (nI (M.1 60 13 + t + 1)))] rfl ?_
                refine g_lv (pc := 27) (lv' := [(0, .ref (gAd E 60)), (1, .int (nI 3)), (2, .int (nI (pAll (mV M) (M.1 60 11) (M.1 66 10) (M.1 60 13) (M.1 60 14) 3 c + pRow (mV M) (M.1 60 11) (M.1 66 10) (M.1 60 13) 3 c (t + 1)))), (3, .int (nI c)), (4, .int (nI (M.1 60 13 + (t + 1))))]) rfl ?_
                exact iht (by omega)
          refine g_lv (pc := 27) (lv' := [(0, .ref (gAd E 60)), (1, .int (nI 3)), (2, .int (nI (pAll (mV M) (M.1 60 11) (M.1 66 10) (M.1 60 13) (M.1 60 14) 3 c + pRow (mV M) (M.1 60 11) (M.1 66 10) (M.1 60 13) 3 c 0))), (3, .int (nI c)), (4, .int (nI (M.1 60 13 + 0)))]) rfl ?_
          exact lp27 0 (by omega)
      refine g_lv (pc := 15) (lv' := [(0, .ref (gAd E 60)), (1, .int (nI 3)), (2, .int (nI (pAll (mV M) (M.1 60 11) (M.1 66 10) (M.1 60 13) (M.1 60 14) 3 0))), (3, .int (nI 0))]) rfl ?_
      exact lp15 0 (by omega)
    · refine g_iconst (pc := 11) (nI 0) (by decide) dX7_points_11 ?_
      refine g_istore_n (pc := 12) rfl [(0, .ref (gAd E 60)), (1, .int (nI 4)), (2, .int (nI 0))] dX7_points_12 (by decide) rfl rfl ?_
      refine g_iconst (pc := 13) (nI 0) (by decide) dX7_points_13 ?_
      refine g_istore_n (pc := 14) rfl [(0, .ref (gAd E 60)), (1, .int (nI 4)), (2, .int (nI 0)), (3, .int (nI 0))] dX7_points_14 (by decide) rfl rfl ?_
      have lp15 : ∀ c, c ≤ 96 → gG l (gV0 3 E (fun v u => v = some (.int (fSel 5 (nI 4) (fun q => nI (pAll (mV M) (M.1 60 11) (M.1 66 10) (M.1 60 13) (M.1 60 14) q 96)) (-1))) ∧ u = M)) mX7_points E (0, 0) M 15 [(0, .ref (gAd E 60)), (1, .int (nI 4)), (2, .int (nI (pAll (mV M) (M.1 60 11) (M.1 66 10) (M.1 60 13) (M.1 60 14) 4 c))), (3, .int (nI c))] [] := by
        refine gloop (fun c hic ihc => ?_)
        refine g_iload_n (pc := 15) 3 rfl rfl dX7_points_15 ?_
        refine g_bipush (pc := 16) (nI 96) (by decide) dX7_points_16 ?_
        refine g_icmpN_ge (pc := 18) 127 dX7_points_18 (by decide) (by omega) (by omega) (fun h18 => ?_) (fun h18 => ?_)
        · refine g_iload_n (pc := 127) 2 rfl rfl dX7_points_127 ?_
          exact g_iret (pc := 128) rfl dX7_points_128 ⟨congrArg (fun z => some (Value.int z)) (by rw [fSel_in hq (by omega), show c = 96 by omega]), rfl⟩
        · refine g_aload_n (pc := 21) 0 rfl rfl dX7_points_21 ?_
          refine fX7_67 (pc := 22) rfl hR.s0 dX7_points_22 ?_
          refine g_istore (pc := 25) [(0, .ref (gAd E 60)), (1, .int (nI 4)), (2, .int (nI (pAll (mV M) (M.1 60 11) (M.1 66 10) (M.1 60 13) (M.1 60 14) 4 c))), (3, .int (nI c)), (4, .int (nI (M.1 60 13)))] dX7_points_25 (by decide) rfl rfl ?_
          have lp27 : ∀ t, t ≤ M.1 60 14 + 1 - M.1 60 13 → gG l (gV0 3 E (fun v u => v = some (.int (fSel 5 (nI 4) (fun q => nI (pAll (mV M) (M.1 60 11) (M.1 66 10) (M.1 60 13) (M.1 60 14) q 96)) (-1))) ∧ u = M)) mX7_points E (0, 0) M 27 [(0, .ref (gAd E 60)), (1, .int (nI 4)), (2, .int (nI (pAll (mV M) (M.1 60 11) (M.1 66 10) (M.1 60 13) (M.1 60 14) 4 c + pRow (mV M) (M.1 60 11) (M.1 66 10) (M.1 60 13) 4 c t))), (3, .int (nI c)), (4, .int (nI (M.1 60 13 + t)))] [] := by
            refine gloop (fun t hit iht => ?_)
            refine g_iload (pc := 27) 4 rfl dX7_points_27 ?_
            refine g_aload_n (pc := 29) 0 rfl rfl dX7_points_29 ?_
            refine fX7_70 (pc := 30) rfl hR.s0 dX7_points_30 ?_
            refine g_icmpN_gt (pc := 33) 121 dX7_points_33 (by decide) (by omega) (by omega) (fun h33 => ?_) (fun h33 => ?_)
            · refine g_iincN (pc := 121) 1 3 [(0, .ref (gAd E 60)), (1, .int (nI 4)), (2, .int (nI (pAll (mV M) (M.1 60 11) (M.1 66 10) (M.1 60 13) (M.1 60 14) 4 c + pRow (mV M) (M.1 60 11) (M.1 66 10) (M.1 60 13) 4 c t))), (3, .int (nI (c + 1))), (4, .int (nI (M.1 60 13 + t)))] rfl dX7_points_121 (by decide) rfl rfl ?_
              refine g_goto (pc := 124) 15 dX7_points_124 (by decide) ?_
              refine g_pick (pc := 15) [0, 1, 2, 3] [(0, .ref (gAd E 60)), (1, .int (nI 4)), (2, .int (nI (pAll (mV M) (M.1 60 11) (M.1 66 10) (M.1 60 13) (M.1 60 14) 4 c + pRow (mV M) (M.1 60 11) (M.1 66 10) (M.1 60 13) 4 c t))), (3, .int (nI (c + 1)))] rfl ?_
              refine g_lv (pc := 15) (lv' := [(0, .ref (gAd E 60)), (1, .int (nI 4)), (2, .int (nI (pAll (mV M) (M.1 60 11) (M.1 66 10) (M.1 60 13) (M.1 60 14) 4 (c + 1)))), (3, .int (nI (c + 1)))]) (by rw [show pAll (mV M) (M.1 60 11) (M.1 66 10) (M.1 60 13) (M.1 60 14) 4 (c + 1) = pAll (mV M) (M.1 60 11) (M.1 66 10) (M.1 60 13) (M.1 60 14) 4 c + pRow (mV M) (M.1 60 11) (M.1 66 10) (M.1 60 13) 4 c t from by rw [show t = M.1 60 14 + 1 - M.1 60 13 by omega]; rfl]) ?_
              exact ihc (by omega)
            · refine g_aload_n (pc := 36) 0 rfl rfl dX7_points_36 ?_
              refine g_iload_n (pc := 37) 3 rfl rfl dX7_points_37 ?_
              refine g_iload (pc := 38) 4 rfl dX7_points_38 ?_
              refine g_callV (pc := 40) (mc := mX7_soldAt) (rest := []) lX7_156 iX7_soldAt (kX7_soldAt l E M hR hO hsg c (M.1 60 13 + t) (by omega) (by omega)) ⟨Nat.le_of_ble_eq_true rfl, Nat.le_of_ble_eq_true rfl⟩ hR.s0 (by decide) (by decide) rfl rfl rfl rfl (Nat.le_of_ble_eq_true rfl) ⟨Nat.zero_le _, Nat.zero_le _⟩ dX7_points_40 (g_rI ?_)
              have hsl := sSold_le (V := mV M) (n := M.1 60 11) (sg := M.1 66 10) (row := c) (wk := M.1 60 13 + t)
              refine g_istore (pc := 43) [(0, .ref (gAd E 60)), (1, .int (nI 4)), (2, .int (nI (pAll (mV M) (M.1 60 11) (M.1 66 10) (M.1 60 13) (M.1 60 14) 4 c + pRow (mV M) (M.1 60 11) (M.1 66 10) (M.1 60 13) 4 c t))), (3, .int (nI c)), (4, .int (nI (M.1 60 13 + t))), (5, .int (nI (sSold (mV M) (M.1 60 11) (M.1 66 10) c (M.1 60 13 + t))))] dX7_points_43 (by decide) rfl rfl ?_
              refine g_iload_n (pc := 45) 1 rfl rfl dX7_points_45 ?_
              refine g_ifN_eq (pc := 46) 95 dX7_points_46 (by decide) (by omega) (fun h46 => absurd h46 (by omega)) (fun h46 => ?_)
              refine g_iload_n (pc := 49) 1 rfl rfl dX7_points_49 ?_
              refine g_iconst (pc := 50) (nI 1) (by decide) dX7_points_50 ?_
              refine g_icmpN_ne (pc := 51) 59 dX7_points_51 (by decide) (by omega) (by omega) (fun h51 => ?_) (fun h51 => absurd h51 (by omega))
              refine g_iload_n (pc := 59) 1 rfl rfl dX7_points_59 ?_
              refine g_iconst (pc := 60) (nI 2) (by decide) dX7_points_60 ?_
              refine g_icmpN_ne (pc := 61) 70 dX7_points_61 (by decide) (by omega) (by omega) (fun h61 => ?_) (fun h61 => absurd h61 (by omega))
              refine g_iload_n (pc := 70) 1 rfl rfl dX7_points_70 ?_
              refine g_iconst (pc := 71) (nI 3) (by decide) dX7_points_71 ?_
              refine g_icmpN_ne (pc := 72) 85 dX7_points_72 (by decide) (by omega) (by omega) (fun h72 => ?_) (fun h72 => absurd h72 (by omega))
              refine g_iload_n (pc := 85) 1 rfl rfl dX7_points_85 ?_
              refine g_iconst (pc := 86) (nI 4) (by decide) dX7_points_86 ?_
              refine g_icmpN_ne (pc := 87) 99 dX7_points_87 (by decide) (by omega) (by omega) (fun h87 => absurd h87 (by omega)) (fun h87 => ?_)
              refine g_iload (pc := 90) 5 rfl dX7_points_90 ?_
              refine g_ifN_ne (pc := 92) 99 dX7_points_92 (by decide) (by omega) (fun h92 => ?_) (fun h92 => ?_)
              · refine g_iconst (pc := 99) (nI 0) (by decide) dX7_points_99 ?_
                refine g_istore (pc := 100) [(0, .ref (gAd E 60)), (1, .int (nI 4)), (2, .int (nI (pAll (mV M) (M.1 60 11) (M.1 66 10) (M.1 60 13) (M.1 60 14) 4 c + pRow (mV M) (M.1 60 11) (M.1 66 10) (M.1 60 13) 4 c t))), (3, .int (nI c)), (4, .int (nI (M.1 60 13 + t))), (5, .int (nI (sSold (mV M) (M.1 60 11) (M.1 66 10) c (M.1 60 13 + t)))), (6, .int (nI 0))] dX7_points_100 (by decide) rfl rfl ?_
                refine g_iload_n (pc := 102) 2 rfl rfl dX7_points_102 ?_
                refine g_iload (pc := 103) 6 rfl dX7_points_103 ?_
                refine g_ifN_eq (pc := 105) 112 dX7_points_105 (by decide) (by omega) (fun h105 => ?_) (fun h105 => absurd h105 (by omega))
                refine g_iconst (pc := 112) (nI 0) (by decide) dX7_points_112 ?_
                refine g_iaddN (pc := 113) dX7_points_113 ?_
                refine g_topi (pc := 114) (x' := nI (pAll (mV M) (M.1 60 11) (M.1 66 10) (M.1 60 13) (M.1 60 14) 4 c + pRow (mV M) (M.1 60 11) (M.1 66 10) (M.1 60 13) 4 c (t + 1))) (by rw [show pRow (mV M) (M.1 60 11) (M.1 66 10) (M.1 60 13) 4 c (t + 1) = pRow (mV M) (M.1 60 11) (M.1 66 10) (M.1 60 13) 4 c t + (if pI (mV M) (M.1 60 11) (M.1 66 10) c (M.1 60 13 + t) 4 then 1 else 0) from rfl, show pI (mV M) (M.1 60 11) (M.1 66 10) c (M.1 60 13 + t) 4 = false from beq_eq_false_iff_ne.mpr (by omega)]; rfl) ?_
                refine g_istore_n (pc := 114) rfl [(0, .ref (gAd E 60)), (1, .int (nI 4)), (2, .int (nI (pAll (mV M) (M.1 60 11) (M.1 66 10) (M.1 60 13) (M.1 60 14) 4 c + pRow (mV M) (M.1 60 11) (M.1 66 10) (M.1 60 13) 4 c (t + 1)))), (3, .int (nI c)), (4, .int (nI (M.1 60 13 + t))), (5, .int (nI (sSold (mV M) (M.1 60 11) (M.1 66 10) c (M.1 60 13 + t)))), (6, .int (nI 0))] dX7_points_114 (by decide) rfl rfl ?_
                refine g_iincN (pc := 115) 1 4 [(0, .ref (gAd E 60)), (1, .int (nI 4)), (2, .int (nI (pAll (mV M) (M.1 60 11) (M.1 66 10) (M.1 60 13) (M.1 60 14) 4 c + pRow (mV M) (M.1 60 11) (M.1 66 10) (M.1 60 13) 4 c (t + 1)))), (3, .int (nI c)), (4, .int (nI (M.1 60 13 + t + 1))), (5, .int (nI (sSold (mV M) (M.1 60 11) (M.1 66 10) c (M.1 60 13 + t)))), (6, .int (nI 0))] rfl dX7_points_115 (by decide) rfl rfl ?_
                refine g_goto (pc := 118) 27 dX7_points_118 (by decide) ?_
                refine g_pick (pc := 27) [0, 1, 2, 3, 4] [(0, .ref (gAd E 60)), (1, .int (nI 4)), (2, .int (nI (pAll (mV M) (M.1 60 11) (M.1 66 10) (M.1 60 13) (M.1 60 14) 4 c + pRow (mV M) (M.1 60 11) (M.1 66 10) (M.1 60 13) 4 c (t + 1)))), (3, .int (nI c)), (4, .int (nI (M.1 60 13 + t + 1)))] rfl ?_
                refine g_lv (pc := 27) (lv' := [(0, .ref (gAd E 60)), (1, .int (nI 4)), (2, .int (nI (pAll (mV M) (M.1 60 11) (M.1 66 10) (M.1 60 13) (M.1 60 14) 4 c + pRow (mV M) (M.1 60 11) (M.1 66 10) (M.1 60 13) 4 c (t + 1)))), (3, .int (nI c)), (4, .int (nI (M.1 60 13 + (t + 1))))]) rfl ?_
                exact iht (by omega)
              · refine g_iconst (pc := 95) (nI 1) (by decide) dX7_points_95 ?_
                refine g_goto (pc := 96) 100 dX7_points_96 (by decide) ?_
                refine g_istore (pc := 100) [(0, .ref (gAd E 60)), (1, .int (nI 4)), (2, .int (nI (pAll (mV M) (M.1 60 11) (M.1 66 10) (M.1 60 13) (M.1 60 14) 4 c + pRow (mV M) (M.1 60 11) (M.1 66 10) (M.1 60 13) 4 c t))), (3, .int (nI c)), (4, .int (nI (M.1 60 13 + t))), (5, .int (nI (sSold (mV M) (M.1 60 11) (M.1 66 10) c (M.1 60 13 + t)))), (6, .int (nI 1))] dX7_points_100 (by decide) rfl rfl ?_
                refine g_iload_n (pc := 102) 2 rfl rfl dX7_points_102 ?_
                refine g_iload (pc := 103) 6 rfl dX7_points_103 ?_
                refine g_ifN_eq (pc := 105) 112 dX7_points_105 (by decide) (by omega) (fun h105 => absurd h105 (by omega)) (fun h105 => ?_)
                refine g_iconst (pc := 108) (nI 1) (by decide) dX7_points_108 ?_
                refine g_goto (pc := 109) 113 dX7_points_109 (by decide) ?_
                refine g_iaddN (pc := 113) dX7_points_113 ?_
                refine g_topi (pc := 114) (x' := nI (pAll (mV M) (M.1 60 11) (M.1 66 10) (M.1 60 13) (M.1 60 14) 4 c + pRow (mV M) (M.1 60 11) (M.1 66 10) (M.1 60 13) 4 c (t + 1))) (by rw [show pRow (mV M) (M.1 60 11) (M.1 66 10) (M.1 60 13) 4 c (t + 1) = pRow (mV M) (M.1 60 11) (M.1 66 10) (M.1 60 13) 4 c t + (if pI (mV M) (M.1 60 11) (M.1 66 10) c (M.1 60 13 + t) 4 then 1 else 0) from rfl, show pI (mV M) (M.1 60 11) (M.1 66 10) c (M.1 60 13 + t) 4 = true from beq_iff_eq.mpr h92]; rfl) ?_
                refine g_istore_n (pc := 114) rfl [(0, .ref (gAd E 60)), (1, .int (nI 4)), (2, .int (nI (pAll (mV M) (M.1 60 11) (M.1 66 10) (M.1 60 13) (M.1 60 14) 4 c + pRow (mV M) (M.1 60 11) (M.1 66 10) (M.1 60 13) 4 c (t + 1)))), (3, .int (nI c)), (4, .int (nI (M.1 60 13 + t))), (5, .int (nI (sSold (mV M) (M.1 60 11) (M.1 66 10) c (M.1 60 13 + t)))), (6, .int (nI 1))] dX7_points_114 (by decide) rfl rfl ?_
                refine g_iincN (pc := 115) 1 4 [(0, .ref (gAd E 60)), (1, .int (nI 4)), (2, .int (nI (pAll (mV M) (M.1 60 11) (M.1 66 10) (M.1 60 13) (M.1 60 14) 4 c + pRow (mV M) (M.1 60 11) (M.1 66 10) (M.1 60 13) 4 c (t + 1)))), (3, .int (nI c)), (4, .int (nI (M.1 60 13 + t + 1))), (5, .int (nI (sSold (mV M) (M.1 60 11) (M.1 66 10) c (M.1 60 13 + t)))), (6, .int (nI 1))] rfl dX7_points_115 (by decide) rfl rfl ?_
                refine g_goto (pc := 118) 27 dX7_points_118 (by decide) ?_
                refine g_pick (pc := 27) [0, 1, 2, 3, 4] [(0, .ref (gAd E 60)), (1, .int (nI 4)), (2, .int (nI (pAll (mV M) (M.1 60 11) (M.1 66 10) (M.1 60 13) (M.1 60 14) 4 c + pRow (mV M) (M.1 60 11) (M.1 66 10) (M.1 60 13) 4 c (t + 1)))), (3, .int (nI c)), (4, .int (nI (M.1 60 13 + t + 1)))] rfl ?_
                refine g_lv (pc := 27) (lv' := [(0, .ref (gAd E 60)), (1, .int (nI 4)), (2, .int (nI (pAll (mV M) (M.1 60 11) (M.1 66 10) (M.1 60 13) (M.1 60 14) 4 c + pRow (mV M) (M.1 60 11) (M.1 66 10) (M.1 60 13) 4 c (t + 1)))), (3, .int (nI c)), (4, .int (nI (M.1 60 13 + (t + 1))))]) rfl ?_
                exact iht (by omega)
          refine g_lv (pc := 27) (lv' := [(0, .ref (gAd E 60)), (1, .int (nI 4)), (2, .int (nI (pAll (mV M) (M.1 60 11) (M.1 66 10) (M.1 60 13) (M.1 60 14) 4 c + pRow (mV M) (M.1 60 11) (M.1 66 10) (M.1 60 13) 4 c 0))), (3, .int (nI c)), (4, .int (nI (M.1 60 13 + 0)))]) rfl ?_
          exact lp27 0 (by omega)
      refine g_lv (pc := 15) (lv' := [(0, .ref (gAd E 60)), (1, .int (nI 4)), (2, .int (nI (pAll (mV M) (M.1 60 11) (M.1 66 10) (M.1 60 13) (M.1 60 14) 4 0))), (3, .int (nI 0))]) rfl ?_
      exact lp15 0 (by omega)
  · refine g_iconst (pc := 9) ((-1)) (by decide) dX7_points_9 ?_
    exact g_iret (pc := 10) rfl dX7_points_10 ⟨congrArg (fun z => some (Value.int z)) (by rw [fSel_oG (n := 4) h6]), rfl⟩
