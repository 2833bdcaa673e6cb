set_option maxRecDepth 100000 in
set_option maxHeartbeats 4000000 in
theorem kX0_isKept (l : Launch) (E : gEnv) (M : gMem) (b set h land : Nat) (hB : cBr E M b) (hO : cO M b) (hh : h < M.1 b 3) (hs : set < 2147483648) (hl : land < 6) : gMetI l E mX0_isKept 2 [.ref (gAd E b), .int (nI set), .ref (gAd E (b + 13 + h)), .int (nI land)] M (gb (sKept (cV M b) (M.1 b 1) (cH M b) set h land)) := by
  have hO' := hO
  obtain ⟨hn, hk, hft, hto, hU, hH⟩ := hO
  have hO := hO'
  refine gMet_of (mm := mX0_isKept) (h := 2) (M := M) [(0, .ref (gAd E b)), (1, .int (nI set)), (2, .ref (gAd E (b + 13 + h))), (3, .int (nI land))] (by decide) (Nat.le_of_ble_eq_true rfl) rfl ?_
  refine g_aload_n (pc := 0) 0 rfl rfl dX0_isKept_0 ?_
  refine g_iload_n (pc := 1) 1 rfl rfl dX0_isKept_1 ?_
  refine g_iload_n (pc := 2) 3 rfl rfl dX0_isKept_2 ?_
  refine g_aload_n (pc := 3) 2 rfl rfl dX0_isKept_3 ?_
  refine fX0_77 (pc := 4) rfl (hB.2.2 h (by omega)).1 dX0_isKept_4 ?_
  refine g_callV (pc := 7) (mc := mX0_beginOf) (rest := []) lX0_100 iX0_beginOf (kX0_beginOf l E M b set land (M.1 (b + 13 + h) 0) hB hO (by omega) (by omega) (hH h hh).1) ⟨Nat.le_of_ble_eq_true rfl, Nat.le_of_ble_eq_true rfl⟩ hB.1.1 (by decide) (by decide) rfl rfl rfl rfl (Nat.le_of_ble_eq_true rfl) ⟨Nat.zero_le _, Nat.zero_le _⟩ dX0_isKept_7 (g_rI ?_)
  have hle : ∀ mm x, sBg (cV M b) set land mm (M.1 b 1) = some x → x ≤ 51 := fun mm x hx => sBg_le (V := cV M b) (M.1 b 1) x (fun j hj => Nat.le_trans (hU j hj).2.2.2.1 (hU j hj).2.2.2.2.1) hx
  rw [show M.1 (b + 13 + h) 0 = cH M b h 0 from rfl]
  cases hq : sBg (cV M b) set land (cH M b h 0) (M.1 b 1) with
  | none =>
    refine g_istore (pc := 10) [(0, .ref (gAd E b)), (1, .int (nI set)), (2, .ref (gAd E (b + 13 + h))), (3, .int (nI land)), (4, .int (oN none))] dX0_isKept_10 (by decide) rfl rfl ?_
    refine g_iload (pc := 12) 4 rfl dX0_isKept_12 ?_
    refine g_bipush (pc := 14) ((-4)) (by decide) dX0_isKept_14 ?_
    refine g_icmp_ne (pc := 16) 21 dX0_isKept_16 (by decide) (fun h16 => absurd h16 (fun q => q rfl)) (fun h16 => ?_)
    refine g_iconst (pc := 19) (nI 1) (by decide) dX0_isKept_19 ?_
    refine g_topi (pc := 20) (x' := gb true) (by decide) ?_
    exact g_zret (pc := 20) rfl dX0_isKept_20 ⟨congrArg (fun z => some (Value.int (gb z))) (bt_of (by simp only [sKept, hq, sKp])), rfl⟩
  | some x =>
    have hx := hle _ _ hq
    refine g_istore (pc := 10) [(0, .ref (gAd E b)), (1, .int (nI set)), (2, .ref (gAd E (b + 13 + h))), (3, .int (nI land)), (4, .int (nI x))] dX0_isKept_10 (by decide) rfl rfl ?_
    refine g_iload (pc := 12) 4 rfl dX0_isKept_12 ?_
    refine g_bipush (pc := 14) ((-4)) (by decide) dX0_isKept_14 ?_
    refine g_icmp_ne (pc := 16) 21 dX0_isKept_16 (by decide) (fun h16 => ?_) (fun h16 => absurd h16 (fun q => oN_ne (x := x) (by omega) q))
    refine g_aload_n (pc := 21) 0 rfl rfl dX0_isKept_21 ?_
    refine g_iload_n (pc := 22) 1 rfl rfl dX0_isKept_22 ?_
    refine g_iload_n (pc := 23) 3 rfl rfl dX0_isKept_23 ?_
    refine g_aload_n (pc := 24) 2 rfl rfl dX0_isKept_24 ?_
    refine fX0_80 (pc := 25) rfl (hB.2.2 h (by omega)).1 dX0_isKept_25 ?_
    refine g_callV (pc := 28) (mc := mX0_beginOf) (rest := []) lX0_100 iX0_beginOf (kX0_beginOf l E M b set land (M.1 (b + 13 + h) 1) hB hO (by omega) (by omega) (hH h hh).2.1) ⟨Nat.le_of_ble_eq_true rfl, Nat.le_of_ble_eq_true rfl⟩ hB.1.1 (by decide) (by decide) rfl rfl rfl rfl (Nat.le_of_ble_eq_true rfl) ⟨Nat.zero_le _, Nat.zero_le _⟩ dX0_isKept_28 (g_rI ?_)
    rw [show M.1 (b + 13 + h) 1 = cH M b h 1 from rfl]
    cases hr : sBg (cV M b) set land (cH M b h 1) (M.1 b 1) with
    | none =>
      refine g_istore (pc := 31) [(0, .ref (gAd E b)), (1, .int (nI set)), (2, .ref (gAd E (b + 13 + h))), (3, .int (nI land)), (4, .int (nI x)), (5, .int (oN none))] dX0_isKept_31 (by decide) rfl rfl ?_
      refine g_iload (pc := 33) 5 rfl dX0_isKept_33 ?_
      refine g_bipush (pc := 35) ((-4)) (by decide) dX0_isKept_35 ?_
      refine g_icmp_eq (pc := 37) 52 dX0_isKept_37 (by decide) (fun h37 => ?_) (fun h37 => absurd h37 (fun q => q rfl))
      refine g_iconst (pc := 52) (nI 1) (by decide) dX0_isKept_52 ?_
      refine g_goto (pc := 53) 57 dX0_isKept_53 (by decide) ?_
      refine g_topi (pc := 57) (x' := gb true) (by decide) ?_
      exact g_zret (pc := 57) rfl dX0_isKept_57 ⟨congrArg (fun z => some (Value.int (gb z))) (bt_of (by simp only [sKept, hq, hr, sKp])), rfl⟩
    | some y =>
      have hy := hle _ _ hr
      have hw := (hH h hh).2.2.2
      refine g_istore (pc := 31) [(0, .ref (gAd E b)), (1, .int (nI set)), (2, .ref (gAd E (b + 13 + h))), (3, .int (nI land)), (4, .int (nI x)), (5, .int (nI y))] dX0_isKept_31 (by decide) rfl rfl ?_
      refine g_iload (pc := 33) 5 rfl dX0_isKept_33 ?_
      refine g_bipush (pc := 35) ((-4)) (by decide) dX0_isKept_35 ?_
      refine g_icmp_eq (pc := 37) 52 dX0_isKept_37 (by decide) (fun h37 => absurd h37 (oN_ne (x := y) (by omega))) (fun h37 => ?_)
      refine g_iload (pc := 40) 4 rfl dX0_isKept_40 ?_
      refine g_iload (pc := 42) 5 rfl dX0_isKept_42 ?_
      refine g_isub (pc := 44) dX0_isKept_44 ?_
      refine g_aload_n (pc := 45) 2 rfl rfl dX0_isKept_45 ?_
      refine fX0_83 (pc := 46) rfl (hB.2.2 h (by omega)).1 dX0_isKept_46 ?_
      have hd : (nI x - nI y).toInt = (x : Int) - y := pk_sub_toInt (by omega) (by omega)
      have hwv : (nI (M.1 (b + 13 + h) 2)).toInt = (M.1 (b + 13 + h) 2 : Int) := nI_toInt (by have : M.1 (b + 13 + h) 2 ≤ 51 := hw; omega)
      refine g_icmp_lt (pc := 49) 56 dX0_isKept_49 (by decide) (fun h49 => ?_) (fun h49 => ?_)
      · refine g_iconst (pc := 56) (nI 0) (by decide) dX0_isKept_56 ?_
        refine g_topi (pc := 57) (x' := gb false) (by decide) ?_
        exact g_zret (pc := 57) rfl dX0_isKept_57 ⟨congrArg (fun z => some (Value.int (gb z))) (bf_of (by intro hh; simp only [sKept, hq, hr, sKp, decide_eq_true_eq] at hh; have hh : y + M.1 (b + 13 + h) 2 ≤ x := hh; have q := Int32.lt_iff_toInt_lt.mp h49; rw [hd, hwv] at q; omega)), rfl⟩
      · refine g_iconst (pc := 52) (nI 1) (by decide) dX0_isKept_52 ?_
        refine g_goto (pc := 53) 57 dX0_isKept_53 (by decide) ?_
        refine g_topi (pc := 57) (x' := gb true) (by decide) ?_
        exact g_zret (pc := 57) rfl dX0_isKept_57 ⟨congrArg (fun z => some (Value.int (gb z))) (bt_of (by simp only [sKept, hq, hr, sKp, decide_eq_true_eq]; show y + M.1 (b + 13 + h) 2 ≤ x; have q := mt Int32.lt_iff_toInt_lt.mpr h49; rw [hd, hwv] at q; omega)), rfl⟩
set_option maxRecDepth 100000 in
set_option maxHeartbeats 4000000 in
theorem kX0_areHoldsKept (l : Launch) (E : gEnv) (M : gMem) (b set : Nat) (hB : cBr E M b) (hO : cO M b) (hs : set < 2147483648) : gMetI l E mX0_areHoldsKept 3 [.ref (gAd E b), .int (nI set)] M (gb (sKepts (cV M b) (M.1 b 1) (cH M b) (M.1 b 3) set)) := by
  have hO' := hO
  obtain ⟨hn, hk, hft, hto, hU, hH⟩ := hO
  have hO := hO'
  refine gMet_of (mm := mX0_areHoldsKept) (h := 3) (M := M) [(0, .ref (gAd E b)), (1, .int (nI set))] (by decide) (Nat.le_of_ble_eq_true rfl) rfl ?_
  refine g_iconst (pc := 0) (nI 0) (by decide) dX0_areHoldsKept_0 ?_
  refine g_istore_n (pc := 1) rfl [(0, .ref (gAd E b)), (1, .int (nI set)), (2, .int (nI 0))] dX0_areHoldsKept_1 (by decide) rfl rfl ?_
  have lp2 : ∀ h, h ≤ M.1 b 3 → (sAny (fun h => !(sKept6 (cV M b) (M.1 b 1) (cH M b) set h)) h = false) → gG l (gV0 3 E (fun v u => v = some (.int (gb (sKepts (cV M b) (M.1 b 1) (cH M b) (M.1 b 3) set))) ∧ u = M)) mX0_areHoldsKept E (0, 0) M 2 [(0, .ref (gAd E b)), (1, .int (nI set)), (2, .int (nI h))] [] := by
    refine gloop (fun h hih ihh => ?_)
    intro he
    refine g_iload_n (pc := 2) 2 rfl rfl dX0_areHoldsKept_2 ?_
    refine g_aload_n (pc := 3) 0 rfl rfl dX0_areHoldsKept_3 ?_
    refine fX0_29 (pc := 4) rfl hB.1.1 dX0_areHoldsKept_4 ?_
    refine g_icmpN_ge (pc := 7) 47 dX0_areHoldsKept_7 (by decide) (by omega) (by omega) (fun h7 => ?_) (fun h7 => ?_)
    · refine g_iconst (pc := 47) (nI 1) (by decide) dX0_areHoldsKept_47 ?_
      refine g_topi (pc := 48) (x' := gb true) (by decide) ?_
      exact g_zret (pc := 48) rfl dX0_areHoldsKept_48 ⟨congrArg (fun z => some (Value.int (gb z))) (bt_of (by simp only [sKepts, Bool.not_eq_true']; rw [show M.1 b 3 = h by omega]; exact he)), rfl⟩
    · refine g_iconst (pc := 10) (nI 0) (by decide) dX0_areHoldsKept_10 ?_
      refine g_istore_n (pc := 11) rfl [(0, .ref (gAd E b)), (1, .int (nI set)), (2, .int (nI h)), (3, .int (nI 0))] dX0_areHoldsKept_11 (by decide) rfl rfl ?_
      have lp12 : ∀ land, land ≤ 6 → (sAny (fun z => !(sKept (cV M b) (M.1 b 1) (cH M b) set h z)) land = false) → gG l (gV0 3 E (fun v u => v = some (.int (gb (sKepts (cV M b) (M.1 b 1) (cH M b) (M.1 b 3) set))) ∧ u = M)) mX0_areHoldsKept E (0, 0) M 12 [(0, .ref (gAd E b)), (1, .int (nI set)), (2, .int (nI h)), (3, .int (nI land))] [] := by
        refine gloop (fun land hiland ihland => ?_)
        intro hf
        refine g_iload_n (pc := 12) 3 rfl rfl dX0_areHoldsKept_12 ?_
        refine g_bipush (pc := 13) (nI 6) (by decide) dX0_areHoldsKept_13 ?_
        refine g_icmpN_ge (pc := 15) 41 dX0_areHoldsKept_15 (by decide) (by omega) (by omega) (fun h15 => ?_) (fun h15 => ?_)
        · refine g_iincN (pc := 41) 1 2 [(0, .ref (gAd E b)), (1, .int (nI set)), (2, .int (nI (h + 1))), (3, .int (nI land))] rfl dX0_areHoldsKept_41 (by decide) rfl rfl ?_
          refine g_goto (pc := 44) 2 dX0_areHoldsKept_44 (by decide) ?_
          refine g_pick (pc := 2) [0, 1, 2] [(0, .ref (gAd E b)), (1, .int (nI set)), (2, .int (nI (h + 1)))] rfl ?_
          exact ihh (by omega) (sAny_step (n := 0) he (by show (!(!(sAny (fun z => !(sKept (cV M b) (M.1 b 1) (cH M b) set h z)) 6))) = false; rw [show (6 : Nat) = land by omega, hf]; rfl))
        · refine g_aload_n (pc := 18) 0 rfl rfl dX0_areHoldsKept_18 ?_
          refine g_iload_n (pc := 19) 1 rfl rfl dX0_areHoldsKept_19 ?_
          refine g_aload_n (pc := 20) 0 rfl rfl dX0_areHoldsKept_20 ?_
          refine fX0_19 (pc := 21) (b + 2) rfl hB.1.1 hB.1.2.2.2.2.2.2 (by omega) dX0_areHoldsKept_21 ?_
          refine g_iload_n (pc := 24) 2 rfl rfl dX0_areHoldsKept_24 ?_
          refine g_aaload (pc := 25) (t0 := 3) (r := (b + 13 + h)) hB.1.2.2.2.1 (by decide) rfl (by rw [hB.1.2.2.2.2.1]; omega) (by rw [hB.1.2.2.2.2.1]; omega) (hB.2.2 h (by omega)).2 (by omega) dX0_areHoldsKept_25 ?_
          refine g_iload_n (pc := 26) 3 rfl rfl dX0_areHoldsKept_26 ?_
          refine g_callV (pc := 27) (mc := mX0_isKept) (rest := []) lX0_104 iX0_isKept (kX0_isKept l E M b set h land hB hO (by omega) (by omega) (by omega)) ⟨Nat.le_of_ble_eq_true rfl, Nat.le_of_ble_eq_true rfl⟩ hB.1.1 (by decide) (by decide) rfl rfl rfl rfl (Nat.le_of_ble_eq_true rfl) ⟨Nat.zero_le _, Nat.zero_le _⟩ dX0_areHoldsKept_27 (g_rI ?_)
          refine g_ifB_ne (pc := 30) 35 dX0_areHoldsKept_30 (by decide) (fun h30 => ?_) (fun h30 => ?_)
          · refine g_iincN (pc := 35) 1 3 [(0, .ref (gAd E b)), (1, .int (nI set)), (2, .int (nI h)), (3, .int (nI (land + 1)))] rfl dX0_areHoldsKept_35 (by decide) rfl rfl ?_
            refine g_goto (pc := 38) 12 dX0_areHoldsKept_38 (by decide) ?_
            exact ihland (by omega) (sAny_step (n := 0) hf (by show (!(sKept (cV M b) (M.1 b 1) (cH M b) set h land)) = false; rw [h30]; rfl))
          · refine g_iconst (pc := 33) (nI 0) (by decide) dX0_areHoldsKept_33 ?_
            refine g_topi (pc := 34) (x' := gb false) (by decide) ?_
            exact g_zret (pc := 34) rfl dX0_areHoldsKept_34 ⟨congrArg (fun z => some (Value.int (gb z))) (bf_of (by intro hh; simp only [sKepts, Bool.not_eq_true'] at hh; have q := sAny_no.mp hh h (by omega); simp only [sKept6, Bool.not_not] at q; have q2 := sAny_no.mp q land (by omega); rw [h30] at q2; cases q2)), rfl⟩
      exact lp12 0 (by omega) rfl
  exact lp2 0 (by omega) rfl
set_option maxRecDepth 100000 in
set_option maxHeartbeats 4000000 in
theorem kX0_brokenLands (l : Launch) (E : gEnv) (M : gMem) (b set h : Nat) (hB : cBr E M b) (hO : cO M b) (hh : h < M.1 b 3) (hs : set < 2147483648) : gMetI l E mX0_brokenLands 3 [.ref (gAd E b), .int (nI set), .ref (gAd E (b + 13 + h))] M (nI (sBrk (cV M b) (M.1 b 1) (cH M b) set h 6)) := by
  have hO' := hO
  obtain ⟨hn, hk, hft, hto, hU, hH⟩ := hO
  have hO := hO'
  refine gMet_of (mm := mX0_brokenLands) (h := 3) (M := M) [(0, .ref (gAd E b)), (1, .int (nI set)), (2, .ref (gAd E (b + 13 + h)))] (by decide) (Nat.le_of_ble_eq_true rfl) rfl ?_
  refine g_iconst (pc := 0) (nI 0) (by decide) dX0_brokenLands_0 ?_
  refine g_istore_n (pc := 1) rfl [(0, .ref (gAd E b)), (1, .int (nI set)), (2, .ref (gAd E (b + 13 + h))), (3, .int (nI 0))] dX0_brokenLands_1 (by decide) rfl rfl ?_
  refine g_iconst (pc := 2) (nI 0) (by decide) dX0_brokenLands_2 ?_
  refine g_istore (pc := 3) [(0, .ref (gAd E b)), (1, .int (nI set)), (2, .ref (gAd E (b + 13 + h))), (3, .int (nI 0)), (4, .int (nI 0))] dX0_brokenLands_3 (by decide) rfl rfl ?_
  have lp5 : ∀ land, land ≤ 6 → gG l (gV0 3 E (fun v u => v = some (.int (nI (sBrk (cV M b) (M.1 b 1) (cH M b) set h 6))) ∧ u = M)) mX0_brokenLands E (0, 0) M 5 [(0, .ref (gAd E b)), (1, .int (nI set)), (2, .ref (gAd E (b + 13 + h))), (3, .int (nI (sBrk (cV M b) (M.1 b 1) (cH M b) set h land))), (4, .int (nI land))] [] := by
    refine gloop (fun land hiland ihland => ?_)
    refine g_iload (pc := 5) 4 rfl dX0_brokenLands_5 ?_
    refine g_bipush (pc := 7) (nI 6) (by decide) dX0_brokenLands_7 ?_
    refine g_icmpN_ge (pc := 9) 36 dX0_brokenLands_9 (by decide) (by omega) (by omega) (fun h9 => ?_) (fun h9 => ?_)
    · refine g_iload_n (pc := 36) 3 rfl rfl dX0_brokenLands_36 ?_
      exact g_iret (pc := 37) rfl dX0_brokenLands_37 ⟨congrArg (fun z => some (Value.int z)) (by rw [show land = 6 by omega]), rfl⟩
    · refine g_aload_n (pc := 12) 0 rfl rfl dX0_brokenLands_12 ?_
      refine g_iload_n (pc := 13) 1 rfl rfl dX0_brokenLands_13 ?_
      refine g_aload_n (pc := 14) 2 rfl rfl dX0_brokenLands_14 ?_
      refine g_iload (pc := 15) 4 rfl dX0_brokenLands_15 ?_
      refine g_callV (pc := 17) (mc := mX0_isKept) (rest := []) lX0_104 iX0_isKept (kX0_isKept l E M b set h land hB hO (by omega) (by omega) (by omega)) ⟨Nat.le_of_ble_eq_true rfl, Nat.le_of_ble_eq_true rfl⟩ hB.1.1 (by decide) (by decide) rfl rfl rfl rfl (Nat.le_of_ble_eq_true rfl) ⟨Nat.zero_le _, Nat.zero_le _⟩ dX0_brokenLands_17 (g_rI ?_)
      refine g_ifB_ne (pc := 20) 30 dX0_brokenLands_20 (by decide) (fun h20 => ?_) (fun h20 => ?_)
      · refine g_iincN (pc := 30) 1 4 [(0, .ref (gAd E b)), (1, .int (nI set)), (2, .ref (gAd E (b + 13 + h))), (3, .int (nI (sBrk (cV M b) (M.1 b 1) (cH M b) set h land))), (4, .int (nI (land + 1)))] rfl dX0_brokenLands_30 (by decide) rfl rfl ?_
        refine g_goto (pc := 33) 5 dX0_brokenLands_33 (by decide) ?_
        refine g_lv (pc := 5) (lv' := [(0, .ref (gAd E b)), (1, .int (nI set)), (2, .ref (gAd E (b + 13 + h))), (3, .int (nI (sBrk (cV M b) (M.1 b 1) (cH M b) set h (land + 1)))), (4, .int (nI (land + 1)))]) (by rw [show sBrk (cV M b) (M.1 b 1) (cH M b) set h (land + 1) = sBrk (cV M b) (M.1 b 1) (cH M b) set h land ||| (if sKept (cV M b) (M.1 b 1) (cH M b) set h land then 0 else 2 ^ land) from rfl, h20]; simp) ?_
        exact ihland (by omega)
      · refine g_iload_n (pc := 23) 3 rfl rfl dX0_brokenLands_23 ?_
        refine g_iconst (pc := 24) (nI 1) (by decide) dX0_brokenLands_24 ?_
        refine g_iload (pc := 25) 4 rfl dX0_brokenLands_25 ?_
        refine g_ishl1 (pc := 27) (by omega) dX0_brokenLands_27 ?_
        refine g_iorN (pc := 28) dX0_brokenLands_28 ?_
        refine g_istore_n (pc := 29) rfl [(0, .ref (gAd E b)), (1, .int (nI set)), (2, .ref (gAd E (b + 13 + h))), (3, .int (nI ((sBrk (cV M b) (M.1 b 1) (cH M b) set h land) ||| (2 ^ land)))), (4, .int (nI land))] dX0_brokenLands_29 (by decide) rfl rfl ?_
        refine g_iincN (pc := 30) 1 4 [(0, .ref (gAd E b)), (1, .int (nI set)), (2, .ref (gAd E (b + 13 + h))), (3, .int (nI ((sBrk (cV M b) (M.1 b 1) (cH M b) set h land) ||| (2 ^ land)))), (4, .int (nI (land + 1)))] rfl dX0_brokenLands_30 (by decide) rfl rfl ?_
        refine g_goto (pc := 33) 5 dX0_brokenLands_33 (by decide) ?_
        refine g_lv (pc := 5) (lv' := [(0, .ref (gAd E b)), (1, .int (nI set)), (2, .ref (gAd E (b + 13 + h))), (3, .int (nI (sBrk (cV M b) (M.1 b 1) (cH M b) set h (land + 1)))), (4, .int (nI (land + 1)))]) (by rw [show sBrk (cV M b) (M.1 b 1) (cH M b) set h (land + 1) = sBrk (cV M b) (M.1 b 1) (cH M b) set h land ||| (if sKept (cV M b) (M.1 b 1) (cH M b) set h land then 0 else 2 ^ land) from rfl, h20]; simp) ?_
        exact ihland (by omega)
  refine g_lv (pc := 5) (lv' := [(0, .ref (gAd E b)), (1, .int (nI set)), (2, .ref (gAd E (b + 13 + h))), (3, .int (nI (sBrk (cV M b) (M.1 b 1) (cH M b) set h 0))), (4, .int (nI 0))]) rfl ?_
  exact lp5 0 (by omega)
set_option maxRecDepth 100000 in
set_option maxHeartbeats 4000000 in
theorem kX0_outsideTerm (l : Launch) (E : gEnv) (M : gMem) (b : Nat) (hB : cBr E M b) (hO : cO M b) : gMetI l E mX0_outsideTerm 2 [.ref (gAd E b)] M (nI (sOut (cV M b) (M.1 b 4) (M.1 b 5) (M.1 b 1))) := by
  have hO' := hO
  obtain ⟨hn, hk, hft, hto, hU, hH⟩ := hO
  have hO := hO'
  refine gMet_of (mm := mX0_outsideTerm) (h := 2) (M := M) [(0, .ref (gAd E b))] (by decide) (Nat.le_of_ble_eq_true rfl) rfl ?_
  refine g_iconst (pc := 0) (nI 0) (by decide) dX0_outsideTerm_0 ?_
  refine g_istore_n (pc := 1) rfl [(0, .ref (gAd E b)), (1, .int (nI 0))] dX0_outsideTerm_1 (by decide) rfl rfl ?_
  refine g_iconst (pc := 2) (nI 0) (by decide) dX0_outsideTerm_2 ?_
  refine g_istore_n (pc := 3) rfl [(0, .ref (gAd E b)), (1, .int (nI 0)), (2, .int (nI 0))] dX0_outsideTerm_3 (by decide) rfl rfl ?_
  have lp4 : ∀ i, i ≤ M.1 b 1 → gG l (gV0 2 E (fun v u => v = some (.int (nI (sOut (cV M b) (M.1 b 4) (M.1 b 5) (M.1 b 1)))) ∧ u = M)) mX0_outsideTerm E (0, 0) M 4 [(0, .ref (gAd E b)), (1, .int (nI (sOut (cV M b) (M.1 b 4) (M.1 b 5) i))), (2, .int (nI i))] [] := by
    refine gloop (fun i hii ihi => ?_)
    refine g_iload_n (pc := 4) 2 rfl rfl dX0_outsideTerm_4 ?_
    refine g_aload_n (pc := 5) 0 rfl rfl dX0_outsideTerm_5 ?_
    refine fX0_25 (pc := 6) rfl hB.1.1 dX0_outsideTerm_6 ?_
    refine g_icmpN_ge (pc := 9) 32 dX0_outsideTerm_9 (by decide) (by omega) (by omega) (fun h9 => ?_) (fun h9 => ?_)
    · refine g_iload_n (pc := 32) 1 rfl rfl dX0_outsideTerm_32 ?_
      exact g_iret (pc := 33) rfl dX0_outsideTerm_33 ⟨congrArg (fun z => some (Value.int z)) (by rw [show i = M.1 b 1 by omega]), rfl⟩
    · refine g_aload_n (pc := 12) 0 rfl rfl dX0_outsideTerm_12 ?_
      refine g_iload_n (pc := 13) 2 rfl rfl dX0_outsideTerm_13 ?_
      refine g_callV (pc := 14) (mc := mX0_isWithinTerm) (rest := []) lX0_127 iX0_isWithinTerm (kX0_isWithinTerm l E M b i hB hO (by omega)) ⟨Nat.le_of_ble_eq_true rfl, Nat.le_of_ble_eq_true rfl⟩ hB.1.1 (by decide) (by decide) rfl rfl rfl rfl (Nat.le_of_ble_eq_true rfl) ⟨Nat.zero_le _, Nat.zero_le _⟩ dX0_outsideTerm_14 (g_rI ?_)
      refine g_ifB_ne (pc := 17) 26 dX0_outsideTerm_17 (by decide) (fun h17 => ?_) (fun h17 => ?_)
      · refine g_iincN (pc := 26) 1 2 [(0, .ref (gAd E b)), (1, .int (nI (sOut (cV M b) (M.1 b 4) (M.1 b 5) i))), (2, .int (nI (i + 1)))] rfl dX0_outsideTerm_26 (by decide) rfl rfl ?_
        refine g_goto (pc := 29) 4 dX0_outsideTerm_29 (by decide) ?_
        refine g_lv (pc := 4) (lv' := [(0, .ref (gAd E b)), (1, .int (nI (sOut (cV M b) (M.1 b 4) (M.1 b 5) (i + 1)))), (2, .int (nI (i + 1)))]) (by rw [show sOut (cV M b) (M.1 b 4) (M.1 b 5) (i + 1) = sOut (cV M b) (M.1 b 4) (M.1 b 5) i ||| (if sIn (cV M b) (M.1 b 4) (M.1 b 5) i then 0 else 2 ^ i) from rfl, h17]; simp) ?_
        exact ihi (by omega)
      · refine g_iload_n (pc := 20) 1 rfl rfl dX0_outsideTerm_20 ?_
        refine g_iconst (pc := 21) (nI 1) (by decide) dX0_outsideTerm_21 ?_
        refine g_iload_n (pc := 22) 2 rfl rfl dX0_outsideTerm_22 ?_
        refine g_ishl1 (pc := 23) (by omega) dX0_outsideTerm_23 ?_
        refine g_iorN (pc := 24) dX0_outsideTerm_24 ?_
        refine g_istore_n (pc := 25) rfl [(0, .ref (gAd E b)), (1, .int (nI ((sOut (cV M b) (M.1 b 4) (M.1 b 5) i) ||| (2 ^ i)))), (2, .int (nI i))] dX0_outsideTerm_25 (by decide) rfl rfl ?_
        refine g_iincN (pc := 26) 1 2 [(0, .ref (gAd E b)), (1, .int (nI ((sOut (cV M b) (M.1 b 4) (M.1 b 5) i) ||| (2 ^ i)))), (2, .int (nI (i + 1)))] rfl dX0_outsideTerm_26 (by decide) rfl rfl ?_
        refine g_goto (pc := 29) 4 dX0_outsideTerm_29 (by decide) ?_
        refine g_lv (pc := 4) (lv' := [(0, .ref (gAd E b)), (1, .int (nI (sOut (cV M b) (M.1 b 4) (M.1 b 5) (i + 1)))), (2, .int (nI (i + 1)))]) (by rw [show sOut (cV M b) (M.1 b 4) (M.1 b 5) (i + 1) = sOut (cV M b) (M.1 b 4) (M.1 b 5) i ||| (if sIn (cV M b) (M.1 b 4) (M.1 b 5) i then 0 else 2 ^ i) from rfl, h17]; simp) ?_
        exact ihi (by omega)
  refine g_lv (pc := 4) (lv' := [(0, .ref (gAd E b)), (1, .int (nI (sOut (cV M b) (M.1 b 4) (M.1 b 5) 0))), (2, .int (nI 0))]) rfl ?_
  exact lp4 0 (by omega)
theorem oN_none {o : Option Nat} (hb : ∀ x, o = some x → x < 2147483648) (h : oN o = -4) : o = none := by
  cases o with
  | none => rfl
  | some x => exact absurd h (oN_ne (hb x rfl))
theorem sClashOf_lt {V : Nat → Nat → Nat} {n i set : Nat} (hn : n ≤ 10) : ∀ x, sClashOf V n i set = some x → x < 2147483648 := fun x h => by
  have := (sFr_lt _ _ _ h).2.1
  omega
set_option maxRecDepth 100000 in
set_option maxHeartbeats 4000000 in
theorem kX0_isWithoutClash (l : Launch) (E : gEnv) (M : gMem) (b set : Nat) (hB : cBr E M b) (hO : cO M b) (hs : set < 2147483648) : gMetI l E mX0_isWithoutClash 4 [.ref (gAd E b), .int (nI set)] M (gb (sNc (cV M b) (M.1 b 1) set)) := by
  have hO' := hO
  obtain ⟨hn, hk, hft, hto, hU, hH⟩ := hO
  have hO := hO'
  refine gMet_of (mm := mX0_isWithoutClash) (h := 4) (M := M) [(0, .ref (gAd E b)), (1, .int (nI set))] (by decide) (Nat.le_of_ble_eq_true rfl) rfl ?_
  refine g_iconst (pc := 0) (nI 0) (by decide) dX0_isWithoutClash_0 ?_
  refine g_istore_n (pc := 1) rfl [(0, .ref (gAd E b)), (1, .int (nI set)), (2, .int (nI 0))] dX0_isWithoutClash_1 (by decide) rfl rfl ?_
  have lp2 : ∀ i, i ≤ M.1 b 1 → (sAny (fun i => set.testBit i && (sClashOf (cV M b) (M.1 b 1) i set).isSome) i = false) → gG l (gV0 4 E (fun v u => v = some (.int (gb (sNc (cV M b) (M.1 b 1) set))) ∧ u = M)) mX0_isWithoutClash E (0, 0) M 2 [(0, .ref (gAd E b)), (1, .int (nI set)), (2, .int (nI i))] [] := by
    refine gloop (fun i hii ihi => ?_)
    intro he
    refine g_iload_n (pc := 2) 2 rfl rfl dX0_isWithoutClash_2 ?_
    refine g_aload_n (pc := 3) 0 rfl rfl dX0_isWithoutClash_3 ?_
    refine fX0_25 (pc := 4) rfl hB.1.1 dX0_isWithoutClash_4 ?_
    refine g_icmpN_ge (pc := 7) 37 dX0_isWithoutClash_7 (by decide) (by omega) (by omega) (fun h7 => ?_) (fun h7 => ?_)
    · refine g_iconst (pc := 37) (nI 1) (by decide) dX0_isWithoutClash_37 ?_
      refine g_topi (pc := 38) (x' := gb true) (by decide) ?_
      exact g_zret (pc := 38) rfl dX0_isWithoutClash_38 ⟨congrArg (fun z => some (Value.int (gb z))) (bt_of (by simp only [sNc, Bool.not_eq_true']; exact (show i = M.1 b 1 by omega) ▸ he)), rfl⟩
    · refine g_iload_n (pc := 10) 1 rfl rfl dX0_isWithoutClash_10 ?_
      refine g_iload_n (pc := 11) 2 rfl rfl dX0_isWithoutClash_11 ?_
      refine g_callSN (pc := 12) (mc := mX6_has) (rest := []) lX0_93 iX6_has (kX6_has l E M set i (by omega) (by omega)) ⟨Nat.le_of_ble_eq_true rfl, Nat.le_of_ble_eq_true rfl⟩ rfl rfl (Nat.le_of_ble_eq_true rfl) ⟨Nat.zero_le _, Nat.zero_le _⟩ dX0_isWithoutClash_12 (g_rI ?_)
      refine g_ifB_eq (pc := 15) 31 dX0_isWithoutClash_15 (by decide) (fun h15 => ?_) (fun h15 => ?_)
      · refine g_iincN (pc := 31) 1 2 [(0, .ref (gAd E b)), (1, .int (nI set)), (2, .int (nI (i + 1)))] rfl dX0_isWithoutClash_31 (by decide) rfl rfl ?_
        refine g_goto (pc := 34) 2 dX0_isWithoutClash_34 (by decide) ?_
        exact ihi (by omega) (sAny_step (n := 0) he (by show (set.testBit i && _) = false; rw [h15]; rfl))
      · refine g_aload_n (pc := 18) 0 rfl rfl dX0_isWithoutClash_18 ?_
        refine g_iload_n (pc := 19) 2 rfl rfl dX0_isWithoutClash_19 ?_
        refine g_iload_n (pc := 20) 1 rfl rfl dX0_isWithoutClash_20 ?_
        refine g_callV (pc := 21) (mc := mX0_lowestClash) (rest := []) lX0_130 iX0_lowestClash (kX0_lowestClash l E M b i set hB hO (by omega) (by omega)) ⟨Nat.le_of_ble_eq_true rfl, Nat.le_of_ble_eq_true rfl⟩ hB.1.1 (by decide) (by decide) rfl rfl rfl rfl (Nat.le_of_ble_eq_true rfl) ⟨Nat.zero_le _, Nat.zero_le _⟩ dX0_isWithoutClash_21 (g_rI ?_)
        refine g_bipush (pc := 24) ((-4)) (by decide) dX0_isWithoutClash_24 ?_
        refine g_icmp_eq (pc := 26) 31 dX0_isWithoutClash_26 (by decide) (fun h26 => ?_) (fun h26 => ?_)
        · refine g_iincN (pc := 31) 1 2 [(0, .ref (gAd E b)), (1, .int (nI set)), (2, .int (nI (i + 1)))] rfl dX0_isWithoutClash_31 (by decide) rfl rfl ?_
          refine g_goto (pc := 34) 2 dX0_isWithoutClash_34 (by decide) ?_
          exact ihi (by omega) (sAny_step (n := 0) he (by show (set.testBit i && _) = false; rw [oN_none (sClashOf_lt hn) h26]; simp))
        · refine g_iconst (pc := 29) (nI 0) (by decide) dX0_isWithoutClash_29 ?_
          refine g_topi (pc := 30) (x' := gb false) (by decide) ?_
          exact g_zret (pc := 30) rfl dX0_isWithoutClash_30 ⟨congrArg (fun z => some (Value.int (gb z))) (bf_of (by intro hh; simp only [sNc, Bool.not_eq_true'] at hh; have q := sAny_no.mp hh i (by omega); simp only [h15, Bool.true_and] at q; cases hc : sClashOf (cV M b) (M.1 b 1) i set with | none => exact h26 (by rw [hc]; rfl) | some x => rw [hc] at q; cases q)), rfl⟩
  exact lp2 0 (by omega) rfl
