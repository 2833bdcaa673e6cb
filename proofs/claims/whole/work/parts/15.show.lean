set_option maxRecDepth 100000 in
set_option maxHeartbeats 4000000 in
theorem kX6_isOffer (l : Launch) (E : gEnv) (M : gMem) (b b' : Nat) (hS : cS E M b b') (hO : cO M b) (hsg : M.1 1 5 < 1024) (x : Int32) : gMetI l E mX6_isOffer 0 [.ref (gAd E 1), .int x] M (gb (inR x (M.1 b 1))) := by
  have hB := hS.B
  have hO' := hO
  obtain ⟨hn, hk, hft, hto, hU, hH⟩ := hO
  have hO := hO'
  refine gMet_of (mm := mX6_isOffer) (h := 0) (M := M) [(0, .ref (gAd E 1)), (1, .int x)] (by decide) (Nat.le_of_ble_eq_true rfl) rfl ?_
  refine g_iload_n (pc := 0) 1 rfl rfl dX6_isOffer_0 ?_
  refine g_if_lt (pc := 1) 19 dX6_isOffer_1 (by decide) (fun h1 => ?_) (fun h1 => ?_)
  · refine g_iconst (pc := 19) (nI 0) (by decide) dX6_isOffer_19 ?_
    refine g_topi (pc := 20) (x' := gb false) (by decide) ?_
    exact g_zret (pc := 20) rfl dX6_isOffer_20 ⟨congrArg (fun z => some (Value.int (gb z))) (bf_of (by intro hh; have hh := of_decide_eq_true hh; exact h1n h1 hh.1)), rfl⟩
  · refine g_iload_n (pc := 4) 1 rfl rfl dX6_isOffer_4 ?_
    refine g_aload_n (pc := 5) 0 rfl rfl dX6_isOffer_5 ?_
    refine fX6_23 (pc := 6) b rfl hS.s1 hS.rb hS.b0 dX6_isOffer_6 ?_
    refine fX6_60 (pc := 9) rfl hB.1.1 dX6_isOffer_9 ?_
    refine g_icmp_ge (pc := 12) 19 dX6_isOffer_12 (by decide) (fun h12 => ?_) (fun h12 => ?_)
    · refine g_iconst (pc := 19) (nI 0) (by decide) dX6_isOffer_19 ?_
      refine g_topi (pc := 20) (x' := gb false) (by decide) ?_
      exact g_zret (pc := 20) rfl dX6_isOffer_20 ⟨congrArg (fun z => some (Value.int (gb z))) (bf_of (by intro hh; have hh := of_decide_eq_true hh; exact h6n (by omega) h12 hh.2)), rfl⟩
    · refine g_iconst (pc := 15) (nI 1) (by decide) dX6_isOffer_15 ?_
      refine g_goto (pc := 16) 20 dX6_isOffer_16 (by decide) ?_
      refine g_topi (pc := 20) (x' := gb true) (by decide) ?_
      exact g_zret (pc := 20) rfl dX6_isOffer_20 ⟨congrArg (fun z => some (Value.int (gb z))) (bt_of (by exact decide_eq_true ⟨i32_nn h1, i32_lt (by omega) h12⟩)), rfl⟩
set_option maxRecDepth 100000 in
set_option maxHeartbeats 4000000 in
theorem kX6_isSigned (l : Launch) (E : gEnv) (M : gMem) (b b' : Nat) (hS : cS E M b b') (hO : cO M b) (hsg : M.1 1 5 < 1024) (i : Nat) (hi : i < 32) : gMetI l E mX6_isSigned 1 [.ref (gAd E 1), .int (nI i)] M (gb ((M.1 1 5).testBit i)) := by
  have hB := hS.B
  have hO' := hO
  obtain ⟨hn, hk, hft, hto, hU, hH⟩ := hO
  have hO := hO'
  refine gMet_of (mm := mX6_isSigned) (h := 1) (M := M) [(0, .ref (gAd E 1)), (1, .int (nI i))] (by decide) (Nat.le_of_ble_eq_true rfl) rfl ?_
  refine g_aload_n (pc := 0) 0 rfl rfl dX6_isSigned_0 ?_
  refine fX6_63 (pc := 1) rfl hS.s1 dX6_isSigned_1 ?_
  refine g_iload_n (pc := 4) 1 rfl rfl dX6_isSigned_4 ?_
  refine g_callS (pc := 5) (mc := mX6_has) (rest := []) lX6_119 iX6_has (kX6_has l E M (M.1 1 5) i (by omega) (by omega)) ⟨Nat.le_of_ble_eq_true rfl, Nat.le_of_ble_eq_true rfl⟩ rfl rfl (Nat.le_of_ble_eq_true rfl) ⟨Nat.zero_le _, Nat.zero_le _⟩ dX6_isSigned_5 (g_rI ?_)
  exact g_zret (pc := 8) rfl dX6_isSigned_8 ⟨rfl, rfl⟩
set_option maxRecDepth 100000 in
set_option maxHeartbeats 4000000 in
theorem kX6_whatSpeaksAgainst (l : Launch) (E : gEnv) (M : gMem) (b b' : Nat) (hS : cS E M b b') (hO : cO M b) (hsg : M.1 1 5 < 1024) (i : Nat) (hi : i < M.1 b 1) : gMetI l E mX6_whatSpeaksAgainst 4 [.ref (gAd E 1), .int (nI i)] M (nI (sWhy (cV M b) (M.1 b 1) (cH M b) (M.1 b 3) (M.1 b 4) (M.1 b 5) (M.1 1 5) i)) := by
  have hB := hS.B
  have hO' := hO
  obtain ⟨hn, hk, hft, hto, hU, hH⟩ := hO
  have hO := hO'
  refine gMet_of (mm := mX6_whatSpeaksAgainst) (h := 4) (M := M) [(0, .ref (gAd E 1)), (1, .int (nI i))] (by decide) (Nat.le_of_ble_eq_true rfl) rfl ?_
  refine g_aload_n (pc := 0) 0 rfl rfl dX6_whatSpeaksAgainst_0 ?_
  refine g_iload_n (pc := 1) 1 rfl rfl dX6_whatSpeaksAgainst_1 ?_
  refine g_callV (pc := 2) (mc := mX6_isSigned) (rest := []) lX6_90 iX6_isSigned (kX6_isSigned l E M b b' hS hO hsg i (by omega)) ⟨Nat.le_of_ble_eq_true rfl, Nat.le_of_ble_eq_true rfl⟩ hS.s1 (by decide) (by decide) rfl rfl rfl rfl (Nat.le_of_ble_eq_true rfl) ⟨Nat.zero_le _, Nat.zero_le _⟩ dX6_whatSpeaksAgainst_2 (g_rI ?_)
  refine g_ifB_eq (pc := 5) 10 dX6_whatSpeaksAgainst_5 (by decide) (fun h5 => ?_) (fun h5 => ?_)
  · refine g_aload_n (pc := 10) 0 rfl rfl dX6_whatSpeaksAgainst_10 ?_
    refine fX6_23 (pc := 11) b rfl hS.s1 hS.rb hS.b0 dX6_whatSpeaksAgainst_11 ?_
    refine g_iload_n (pc := 14) 1 rfl rfl dX6_whatSpeaksAgainst_14 ?_
    refine g_callV (pc := 15) (mc := mX0_isWithinTerm) (rest := []) lX6_123 iX0_isWithinTerm (kX0_isWithinTerm l E M b i hB hO (by omega)) ⟨Nat.le_of_ble_eq_true rfl, Nat.le_of_ble_eq_true rfl⟩ hB.1.1 (by decide) (by decide) rfl rfl rfl rfl (Nat.le_of_ble_eq_true rfl) ⟨Nat.zero_le _, Nat.zero_le _⟩ dX6_whatSpeaksAgainst_15 (g_rI ?_)
    refine g_ifB_ne (pc := 18) 23 dX6_whatSpeaksAgainst_18 (by decide) (fun h18 => ?_) (fun h18 => ?_)
    · refine g_aload_n (pc := 23) 0 rfl rfl dX6_whatSpeaksAgainst_23 ?_
      refine fX6_23 (pc := 24) b rfl hS.s1 hS.rb hS.b0 dX6_whatSpeaksAgainst_24 ?_
      refine g_iload_n (pc := 27) 1 rfl rfl dX6_whatSpeaksAgainst_27 ?_
      refine g_aload_n (pc := 28) 0 rfl rfl dX6_whatSpeaksAgainst_28 ?_
      refine fX6_63 (pc := 29) rfl hS.s1 dX6_whatSpeaksAgainst_29 ?_
      refine g_callV (pc := 32) (mc := mX0_lowestClash) (rest := []) lX6_86 iX0_lowestClash (kX0_lowestClash l E M b i (M.1 1 5) hB hO (by omega) (by omega)) ⟨Nat.le_of_ble_eq_true rfl, Nat.le_of_ble_eq_true rfl⟩ hB.1.1 (by decide) (by decide) rfl rfl rfl rfl (Nat.le_of_ble_eq_true rfl) ⟨Nat.zero_le _, Nat.zero_le _⟩ dX6_whatSpeaksAgainst_32 (g_rI ?_)
      refine g_bipush (pc := 35) ((-4)) (by decide) dX6_whatSpeaksAgainst_35 ?_
      refine g_icmp_eq (pc := 37) 42 dX6_whatSpeaksAgainst_37 (by decide) (fun h37 => ?_) (fun h37 => ?_)
      · refine g_aload_n (pc := 42) 0 rfl rfl dX6_whatSpeaksAgainst_42 ?_
        refine fX6_23 (pc := 43) b rfl hS.s1 hS.rb hS.b0 dX6_whatSpeaksAgainst_43 ?_
        refine g_aload_n (pc := 46) 0 rfl rfl dX6_whatSpeaksAgainst_46 ?_
        refine fX6_63 (pc := 47) rfl hS.s1 dX6_whatSpeaksAgainst_47 ?_
        refine g_iconst (pc := 50) (nI 1) (by decide) dX6_whatSpeaksAgainst_50 ?_
        refine g_iload_n (pc := 51) 1 rfl rfl dX6_whatSpeaksAgainst_51 ?_
        refine g_ishl1 (pc := 52) (by omega) dX6_whatSpeaksAgainst_52 ?_
        refine g_iorN (pc := 53) dX6_whatSpeaksAgainst_53 ?_
        refine g_callV (pc := 54) (mc := mX0_areHoldsKept) (rest := []) lX6_126 iX0_areHoldsKept (kX0_areHoldsKept l E M b ((M.1 1 5) ||| (2 ^ i)) hB hO (by have := Nat.or_lt_two_pow (show M.1 1 5 < 2 ^ 10 from hsg) (show 2 ^ i < 2 ^ 10 from Nat.pow_lt_pow_right (by decide) (by omega)); omega)) ⟨Nat.le_of_ble_eq_true rfl, Nat.le_of_ble_eq_true rfl⟩ hB.1.1 (by decide) (by decide) rfl rfl rfl rfl (Nat.le_of_ble_eq_true rfl) ⟨Nat.zero_le _, Nat.zero_le _⟩ dX6_whatSpeaksAgainst_54 (g_rI ?_)
        refine g_ifB_eq (pc := 57) 64 dX6_whatSpeaksAgainst_57 (by decide) (fun h57 => ?_) (fun h57 => ?_)
        · refine g_iconst (pc := 64) (nI 4) (by decide) dX6_whatSpeaksAgainst_64 ?_
          exact g_iret (pc := 65) rfl dX6_whatSpeaksAgainst_65 ⟨congrArg (fun z => some (Value.int z)) (by rw [sWhy, if_neg (by rw [h5]; decide), if_neg (by rw [h18]; decide), if_neg (by rw [oN_none (sClashOf_lt hn) h37]; decide), if_neg (by rw [h57]; decide)]), rfl⟩
        · refine g_iconst (pc := 60) (nI 0) (by decide) dX6_whatSpeaksAgainst_60 ?_
          refine g_goto (pc := 61) 65 dX6_whatSpeaksAgainst_61 (by decide) ?_
          exact g_iret (pc := 65) rfl dX6_whatSpeaksAgainst_65 ⟨congrArg (fun z => some (Value.int z)) (by rw [sWhy, if_neg (by rw [h5]; decide), if_neg (by rw [h18]; decide), if_neg (by rw [oN_none (sClashOf_lt hn) h37]; decide), if_pos h57]), rfl⟩
      · refine g_iconst (pc := 40) (nI 3) (by decide) dX6_whatSpeaksAgainst_40 ?_
        exact g_iret (pc := 41) rfl dX6_whatSpeaksAgainst_41 ⟨congrArg (fun z => some (Value.int z)) (by rw [sWhy, if_neg (by rw [h5]; decide), if_neg (by rw [h18]; decide), if_pos (by cases hc : sClashOf (cV M b) (M.1 b 1) i (M.1 1 5) with | none => exact absurd (by rw [hc]; rfl) h37 | some x => rfl)]), rfl⟩
    · refine g_iconst (pc := 21) (nI 2) (by decide) dX6_whatSpeaksAgainst_21 ?_
      exact g_iret (pc := 22) rfl dX6_whatSpeaksAgainst_22 ⟨congrArg (fun z => some (Value.int z)) (by rw [sWhy, if_neg (by rw [h5]; decide), if_pos (by rw [h18]; rfl)]), rfl⟩
  · refine g_iconst (pc := 8) (nI 1) (by decide) dX6_whatSpeaksAgainst_8 ?_
    exact g_iret (pc := 9) rfl dX6_whatSpeaksAgainst_9 ⟨congrArg (fun z => some (Value.int z)) (by rw [sWhy, if_pos h5]), rfl⟩
theorem sWhy_le {V : Nat → Nat → Nat} {n : Nat} {Hd : Nat → Nat → Nat} {k fr to sg i : Nat} : sWhy V n Hd k fr to sg i ≤ 4 := by
  unfold sWhy; split; omega; split; omega; split; omega; split <;> omega
set_option maxRecDepth 100000 in
set_option maxHeartbeats 4000000 in
theorem kX6_why (l : Launch) (E : gEnv) (M : gMem) (b b' : Nat) (hS : cS E M b b') (hO : cO M b) (hsg : M.1 1 5 < 1024) (x : Int32) : gMetI l E mX6_why 5 [.ref (gAd E 1), .int x] M (fSel (M.1 b 1) x (fun j => nI (sWhy (cV M b) (M.1 b 1) (cH M b) (M.1 b 3) (M.1 b 4) (M.1 b 5) (M.1 1 5) j)) (-1)) := by
  have hB := hS.B
  have hO' := hO
  obtain ⟨hn, hk, hft, hto, hU, hH⟩ := hO
  have hO := hO'
  refine gMet_of (mm := mX6_why) (h := 5) (M := M) [(0, .ref (gAd E 1)), (1, .int x)] (by decide) (Nat.le_of_ble_eq_true rfl) rfl ?_
  refine g_aload_n (pc := 0) 0 rfl rfl dX6_why_0 ?_
  refine g_iload_n (pc := 1) 1 rfl rfl dX6_why_1 ?_
  refine g_callV (pc := 2) (mc := mX6_isOffer) (rest := []) lX6_69 iX6_isOffer (kX6_isOffer l E M b b' hS hO hsg (x)) ⟨Nat.le_of_ble_eq_true rfl, Nat.le_of_ble_eq_true rfl⟩ hS.s1 (by decide) (by decide) rfl rfl rfl rfl (Nat.le_of_ble_eq_true rfl) ⟨Nat.zero_le _, Nat.zero_le _⟩ dX6_why_2 (g_rI ?_)
  refine g_ifB_ne (pc := 5) 10 dX6_why_5 (by decide) (fun h5 => ?_) (fun h5 => ?_)
  · obtain ⟨j, hj, rfl⟩ := inR_of h5
    refine g_aload_n (pc := 10) 0 rfl rfl dX6_why_10 ?_
    refine g_iload_n (pc := 11) 1 rfl rfl dX6_why_11 ?_
    refine g_callV (pc := 12) (mc := mX6_whatSpeaksAgainst) (rest := []) lX6_73 iX6_whatSpeaksAgainst (kX6_whatSpeaksAgainst l E M b b' hS hO hsg j (by omega)) ⟨Nat.le_of_ble_eq_true rfl, Nat.le_of_ble_eq_true rfl⟩ hS.s1 (by decide) (by decide) rfl rfl rfl rfl (Nat.le_of_ble_eq_true rfl) ⟨Nat.zero_le _, Nat.zero_le _⟩ dX6_why_12 (g_rI ?_)
    exact g_iret (pc := 15) rfl dX6_why_15 ⟨congrArg (fun z => some (Value.int z)) (by rw [fSel_in hj (by omega)]), rfl⟩
  · refine g_iconst (pc := 8) ((-1)) (by decide) dX6_why_8 ?_
    exact g_iret (pc := 9) rfl dX6_why_9 ⟨congrArg (fun z => some (Value.int z)) (by rw [fSel_out h5]), rfl⟩
set_option maxRecDepth 100000 in
set_option maxHeartbeats 4000000 in
theorem kX6_clash (l : Launch) (E : gEnv) (M : gMem) (b b' : Nat) (hS : cS E M b b') (hO : cO M b) (hsg : M.1 1 5 < 1024) (x : Int32) : gMetI l E mX6_clash 4 [.ref (gAd E 1), .int x] M (fSel (M.1 b 1) x (fun j => oN (sClashOf (cV M b) (M.1 b 1) j (M.1 1 5))) (-1)) := by
  have hB := hS.B
  have hO' := hO
  obtain ⟨hn, hk, hft, hto, hU, hH⟩ := hO
  have hO := hO'
  refine gMet_of (mm := mX6_clash) (h := 4) (M := M) [(0, .ref (gAd E 1)), (1, .int x)] (by decide) (Nat.le_of_ble_eq_true rfl) rfl ?_
  refine g_aload_n (pc := 0) 0 rfl rfl dX6_clash_0 ?_
  refine g_iload_n (pc := 1) 1 rfl rfl dX6_clash_1 ?_
  refine g_callV (pc := 2) (mc := mX6_isOffer) (rest := []) lX6_69 iX6_isOffer (kX6_isOffer l E M b b' hS hO hsg (x)) ⟨Nat.le_of_ble_eq_true rfl, Nat.le_of_ble_eq_true rfl⟩ hS.s1 (by decide) (by decide) rfl rfl rfl rfl (Nat.le_of_ble_eq_true rfl) ⟨Nat.zero_le _, Nat.zero_le _⟩ dX6_clash_2 (g_rI ?_)
  refine g_ifB_ne (pc := 5) 10 dX6_clash_5 (by decide) (fun h5 => ?_) (fun h5 => ?_)
  · obtain ⟨j, hj, rfl⟩ := inR_of h5
    refine g_aload_n (pc := 10) 0 rfl rfl dX6_clash_10 ?_
    refine fX6_23 (pc := 11) b rfl hS.s1 hS.rb hS.b0 dX6_clash_11 ?_
    refine g_iload_n (pc := 14) 1 rfl rfl dX6_clash_14 ?_
    refine g_aload_n (pc := 15) 0 rfl rfl dX6_clash_15 ?_
    refine fX6_63 (pc := 16) rfl hS.s1 dX6_clash_16 ?_
    refine g_callV (pc := 19) (mc := mX0_lowestClash) (rest := []) lX6_86 iX0_lowestClash (kX0_lowestClash l E M b j (M.1 1 5) hB hO (by omega) (by omega)) ⟨Nat.le_of_ble_eq_true rfl, Nat.le_of_ble_eq_true rfl⟩ hB.1.1 (by decide) (by decide) rfl rfl rfl rfl (Nat.le_of_ble_eq_true rfl) ⟨Nat.zero_le _, Nat.zero_le _⟩ dX6_clash_19 (g_rI ?_)
    exact g_iret (pc := 22) rfl dX6_clash_22 ⟨congrArg (fun z => some (Value.int z)) (by rw [fSel_in hj (by omega)]), rfl⟩
  · refine g_iconst (pc := 8) ((-1)) (by decide) dX6_clash_8 ?_
    exact g_iret (pc := 9) rfl dX6_clash_9 ⟨congrArg (fun z => some (Value.int z)) (by rw [fSel_out h5]), rfl⟩
set_option maxRecDepth 100000 in
set_option maxHeartbeats 4000000 in
theorem kX6_common (l : Launch) (E : gEnv) (M : gMem) (b b' : Nat) (hS : cS E M b b') (hO : cO M b) (hsg : M.1 1 5 < 1024) (x y : Int32) : gMetI l E mX6_common 3 [.ref (gAd E 1), .int x, .int y] M (fSel (M.1 b 1) x (fun i => fSel (M.1 b 1) y (fun j => if i = j then -1 else nI (sCom (cV M b i) (cV M b j))) (-1)) (-1)) := by
  have hB := hS.B
  have hO' := hO
  obtain ⟨hn, hk, hft, hto, hU, hH⟩ := hO
  have hO := hO'
  refine gMet_of (mm := mX6_common) (h := 3) (M := M) [(0, .ref (gAd E 1)), (1, .int x), (2, .int y)] (by decide) (Nat.le_of_ble_eq_true rfl) rfl ?_
  refine g_aload_n (pc := 0) 0 rfl rfl dX6_common_0 ?_
  refine g_iload_n (pc := 1) 1 rfl rfl dX6_common_1 ?_
  refine g_callV (pc := 2) (mc := mX6_isOffer) (rest := []) lX6_69 iX6_isOffer (kX6_isOffer l E M b b' hS hO hsg (x)) ⟨Nat.le_of_ble_eq_true rfl, Nat.le_of_ble_eq_true rfl⟩ hS.s1 (by decide) (by decide) rfl rfl rfl rfl (Nat.le_of_ble_eq_true rfl) ⟨Nat.zero_le _, Nat.zero_le _⟩ dX6_common_2 (g_rI ?_)
  refine g_ifB_eq (pc := 5) 21 dX6_common_5 (by decide) (fun h5 => ?_) (fun h5 => ?_)
  · refine g_iconst (pc := 21) ((-1)) (by decide) dX6_common_21 ?_
    exact g_iret (pc := 22) rfl dX6_common_22 ⟨congrArg (fun z => some (Value.int z)) (by rw [fSel_out h5]), rfl⟩
  · obtain ⟨i, hi, rfl⟩ := inR_of h5
    refine g_aload_n (pc := 8) 0 rfl rfl dX6_common_8 ?_
    refine g_iload_n (pc := 9) 2 rfl rfl dX6_common_9 ?_
    refine g_callV (pc := 10) (mc := mX6_isOffer) (rest := []) lX6_69 iX6_isOffer (kX6_isOffer l E M b b' hS hO hsg (y)) ⟨Nat.le_of_ble_eq_true rfl, Nat.le_of_ble_eq_true rfl⟩ hS.s1 (by decide) (by decide) rfl rfl rfl rfl (Nat.le_of_ble_eq_true rfl) ⟨Nat.zero_le _, Nat.zero_le _⟩ dX6_common_10 (g_rI ?_)
    refine g_ifB_eq (pc := 13) 21 dX6_common_13 (by decide) (fun h13 => ?_) (fun h13 => ?_)
    · refine g_iconst (pc := 21) ((-1)) (by decide) dX6_common_21 ?_
      exact g_iret (pc := 22) rfl dX6_common_22 ⟨congrArg (fun z => some (Value.int z)) (by rw [fSel_in hi (by omega), fSel_out h13]), rfl⟩
    · obtain ⟨j, hj, rfl⟩ := inR_of h13
      refine g_iload_n (pc := 16) 1 rfl rfl dX6_common_16 ?_
      refine g_iload_n (pc := 17) 2 rfl rfl dX6_common_17 ?_
      refine g_icmpN_ne (pc := 18) 23 dX6_common_18 (by decide) (by omega) (by omega) (fun h18 => ?_) (fun h18 => ?_)
      · refine g_aload_n (pc := 23) 0 rfl rfl dX6_common_23 ?_
        refine fX6_23 (pc := 24) b rfl hS.s1 hS.rb hS.b0 dX6_common_24 ?_
        refine fX6_93 (pc := 27) (b + 1) rfl hB.1.1 hB.1.2.2.2.2.2.1 (by omega) dX6_common_27 ?_
        refine g_iload_n (pc := 30) 1 rfl rfl dX6_common_30 ?_
        refine g_aaload (pc := 31) (t0 := 2) (r := (b + 3 + i)) hB.1.2.1 (by decide) rfl (by rw [hB.1.2.2.1]; omega) (by rw [hB.1.2.2.1]; omega) (hB.2.1 i (by omega)).2 (by omega) dX6_common_31 ?_
        refine g_aload_n (pc := 32) 0 rfl rfl dX6_common_32 ?_
        refine fX6_23 (pc := 33) b rfl hS.s1 hS.rb hS.b0 dX6_common_33 ?_
        refine fX6_93 (pc := 36) (b + 1) rfl hB.1.1 hB.1.2.2.2.2.2.1 (by omega) dX6_common_36 ?_
        refine g_iload_n (pc := 39) 2 rfl rfl dX6_common_39 ?_
        refine g_aaload (pc := 40) (t0 := 2) (r := (b + 3 + j)) hB.1.2.1 (by decide) rfl (by rw [hB.1.2.2.1]; omega) (by rw [hB.1.2.2.1]; omega) (hB.2.1 j (by omega)).2 (by omega) dX6_common_40 ?_
        refine g_callV (pc := 41) (mc := mX4_commonPoints) (rest := []) lX6_155 iX4_commonPoints (kX4_commonPoints l E M ((b + 3 + i)) ((b + 3 + j)) (hB.2.1 i (by omega)).1 (hB.2.1 j (by omega)).1 (hU i hi) (hU j hj)) ⟨Nat.le_of_ble_eq_true rfl, Nat.le_of_ble_eq_true rfl⟩ (hB.2.1 i (by omega)).1 (by decide) (by decide) rfl rfl rfl rfl (Nat.le_of_ble_eq_true rfl) ⟨Nat.zero_le _, Nat.zero_le _⟩ dX6_common_41 (g_rI ?_)
        exact g_iret (pc := 44) rfl dX6_common_44 ⟨congrArg (fun z => some (Value.int z)) (by rw [fSel_in hi (by omega), fSel_in hj (by omega), if_neg h18]; rfl), rfl⟩
      · refine g_iconst (pc := 21) ((-1)) (by decide) dX6_common_21 ?_
        exact g_iret (pc := 22) rfl dX6_common_22 ⟨congrArg (fun z => some (Value.int z)) (by rw [fSel_in hi (by omega), fSel_in hj (by omega), if_pos h18]), rfl⟩
set_option maxRecDepth 100000 in
set_option maxHeartbeats 4000000 in
theorem kX6_begin (l : Launch) (E : gEnv) (M : gMem) (b b' : Nat) (hS : cS E M b b') (hO : cO M b) (hsg : M.1 1 5 < 1024) (x y : Int32) : gMetI l E mX6_begin 2 [.ref (gAd E 1), .int x, .int y] M (fSel 6 x (fun i => fSel 4 y (fun j => oN (sBg (cV M b) (M.1 1 5) i j (M.1 b 1))) (-1)) (-1)) := by
  have hB := hS.B
  have hO' := hO
  obtain ⟨hn, hk, hft, hto, hU, hH⟩ := hO
  have hO := hO'
  refine gMet_of (mm := mX6_begin) (h := 2) (M := M) [(0, .ref (gAd E 1)), (1, .int x), (2, .int y)] (by decide) (Nat.le_of_ble_eq_true rfl) rfl ?_
  refine g_iload_n (pc := 0) 1 rfl rfl dX6_begin_0 ?_
  refine g_bipush (pc := 1) (nI 6) (by decide) dX6_begin_1 ?_
  refine g_callS (pc := 3) (mc := mX6_isBelow) (rest := []) lX6_159 iX6_isBelow (kX6_isBelow l E M (x) 6 (by omega)) ⟨Nat.le_of_ble_eq_true rfl, Nat.le_of_ble_eq_true rfl⟩ rfl rfl (Nat.le_of_ble_eq_true rfl) ⟨Nat.zero_le _, Nat.zero_le _⟩ dX6_begin_3 (g_rI ?_)
  refine g_ifB_eq (pc := 6) 17 dX6_begin_6 (by decide) (fun h6 => ?_) (fun h6 => ?_)
  · refine g_iconst (pc := 17) ((-1)) (by decide) dX6_begin_17 ?_
    exact g_iret (pc := 18) rfl dX6_begin_18 ⟨congrArg (fun z => some (Value.int z)) (by rw [fSel_out h6]), rfl⟩
  · obtain ⟨i, hi, rfl⟩ := inR_of h6
    refine g_iload_n (pc := 9) 2 rfl rfl dX6_begin_9 ?_
    refine g_iconst (pc := 10) (nI 4) (by decide) dX6_begin_10 ?_
    refine g_callS (pc := 11) (mc := mX6_isBelow) (rest := []) lX6_159 iX6_isBelow (kX6_isBelow l E M (y) 4 (by omega)) ⟨Nat.le_of_ble_eq_true rfl, Nat.le_of_ble_eq_true rfl⟩ rfl rfl (Nat.le_of_ble_eq_true rfl) ⟨Nat.zero_le _, Nat.zero_le _⟩ dX6_begin_11 (g_rI ?_)
    refine g_ifB_ne (pc := 14) 19 dX6_begin_14 (by decide) (fun h14 => ?_) (fun h14 => ?_)
    · obtain ⟨j, hj, rfl⟩ := inR_of h14
      refine g_aload_n (pc := 19) 0 rfl rfl dX6_begin_19 ?_
      refine fX6_23 (pc := 20) b rfl hS.s1 hS.rb hS.b0 dX6_begin_20 ?_
      refine g_aload_n (pc := 23) 0 rfl rfl dX6_begin_23 ?_
      refine fX6_63 (pc := 24) rfl hS.s1 dX6_begin_24 ?_
      refine g_iload_n (pc := 27) 1 rfl rfl dX6_begin_27 ?_
      refine g_iload_n (pc := 28) 2 rfl rfl dX6_begin_28 ?_
      refine g_callV (pc := 29) (mc := mX0_beginOf) (rest := []) lX6_162 iX0_beginOf (kX0_beginOf l E M b (M.1 1 5) i j hB hO (by omega) (by omega) (by omega)) ⟨Nat.le_of_ble_eq_true rfl, Nat.le_of_ble_eq_true rfl⟩ hB.1.1 (by decide) (by decide) rfl rfl rfl rfl (Nat.le_of_ble_eq_true rfl) ⟨Nat.zero_le _, Nat.zero_le _⟩ dX6_begin_29 (g_rI ?_)
      exact g_iret (pc := 32) rfl dX6_begin_32 ⟨congrArg (fun z => some (Value.int z)) (by rw [fSel_in hi (by omega), fSel_in hj (by omega)]), rfl⟩
    · refine g_iconst (pc := 17) ((-1)) (by decide) dX6_begin_17 ?_
      exact g_iret (pc := 18) rfl dX6_begin_18 ⟨congrArg (fun z => some (Value.int z)) (by rw [fSel_in hi (by omega), fSel_out h14]), rfl⟩
set_option maxRecDepth 100000 in
set_option maxHeartbeats 4000000 in
theorem kX6_broken (l : Launch) (E : gEnv) (M : gMem) (b b' : Nat) (hS : cS E M b b') (hO : cO M b) (hsg : M.1 1 5 < 1024) (x : Int32) : gMetI l E mX6_broken 4 [.ref (gAd E 1), .int x] M (fSel (M.1 b 3) x (fun h => nI (sBrk (cV M b) (M.1 b 1) (cH M b) (M.1 1 5) h 6)) (-1)) := by
  have hB := hS.B
  have hO' := hO
  obtain ⟨hn, hk, hft, hto, hU, hH⟩ := hO
  have hO := hO'
  refine gMet_of (mm := mX6_broken) (h := 4) (M := M) [(0, .ref (gAd E 1)), (1, .int x)] (by decide) (Nat.le_of_ble_eq_true rfl) rfl ?_
  refine g_iload_n (pc := 0) 1 rfl rfl dX6_broken_0 ?_
  refine g_aload_n (pc := 1) 0 rfl rfl dX6_broken_1 ?_
  refine fX6_23 (pc := 2) b rfl hS.s1 hS.rb hS.b0 dX6_broken_2 ?_
  refine fX6_166 (pc := 5) rfl hB.1.1 dX6_broken_5 ?_
  refine g_callS (pc := 8) (mc := mX6_isBelow) (rest := []) lX6_159 iX6_isBelow (kX6_isBelow l E M (x) (M.1 b 3) (by omega)) ⟨Nat.le_of_ble_eq_true rfl, Nat.le_of_ble_eq_true rfl⟩ rfl rfl (Nat.le_of_ble_eq_true rfl) ⟨Nat.zero_le _, Nat.zero_le _⟩ dX6_broken_8 (g_rI ?_)
  refine g_ifB_ne (pc := 11) 16 dX6_broken_11 (by decide) (fun h11 => ?_) (fun h11 => ?_)
  · obtain ⟨h, hh, rfl⟩ := inR_of h11
    refine g_aload_n (pc := 16) 0 rfl rfl dX6_broken_16 ?_
    refine fX6_23 (pc := 17) b rfl hS.s1 hS.rb hS.b0 dX6_broken_17 ?_
    refine g_aload_n (pc := 20) 0 rfl rfl dX6_broken_20 ?_
    refine fX6_63 (pc := 21) rfl hS.s1 dX6_broken_21 ?_
    refine g_aload_n (pc := 24) 0 rfl rfl dX6_broken_24 ?_
    refine fX6_23 (pc := 25) b rfl hS.s1 hS.rb hS.b0 dX6_broken_25 ?_
    refine fX6_169 (pc := 28) (b + 2) rfl hB.1.1 hB.1.2.2.2.2.2.2 (by omega) dX6_broken_28 ?_
    refine g_iload_n (pc := 31) 1 rfl rfl dX6_broken_31 ?_
    refine g_aaload (pc := 32) (t0 := 3) (r := (b + 13 + h)) hB.1.2.2.2.1 (by decide) rfl (by rw [hB.1.2.2.2.2.1]; omega) (by rw [hB.1.2.2.2.2.1]; omega) (hB.2.2 h (by omega)).2 (by omega) dX6_broken_32 ?_
    refine g_callV (pc := 33) (mc := mX0_brokenLands) (rest := []) lX6_173 iX0_brokenLands (kX0_brokenLands l E M b (M.1 1 5) h hB hO (by omega) (by omega)) ⟨Nat.le_of_ble_eq_true rfl, Nat.le_of_ble_eq_true rfl⟩ hB.1.1 (by decide) (by decide) rfl rfl rfl rfl (Nat.le_of_ble_eq_true rfl) ⟨Nat.zero_le _, Nat.zero_le _⟩ dX6_broken_33 (g_rI ?_)
    exact g_iret (pc := 36) rfl dX6_broken_36 ⟨congrArg (fun z => some (Value.int z)) (by rw [fSel_in hh (by omega)]), rfl⟩
  · refine g_iconst (pc := 14) ((-1)) (by decide) dX6_broken_14 ?_
    exact g_iret (pc := 15) rfl dX6_broken_15 ⟨congrArg (fun z => some (Value.int z)) (by rw [fSel_out h11]), rfl⟩
