set_option maxRecDepth 100000 in
set_option maxHeartbeats 4000000 in
theorem kX7_isRow (l : Launch) (E : gEnv) (M : gMem) (x y z : Int32) : gMetI l E mX7_isRow 1 [.int x, .int y, .int z] M (gb (inG x 0 5 && inG y 0 3 && inG z 0 3)) := by
  refine gMet_of (mm := mX7_isRow) (h := 1) (M := M) [(0, .int x), (1, .int y), (2, .int z)] (by decide) (Nat.le_of_ble_eq_true rfl) rfl ?_
  refine g_iload_n (pc := 0) 0 rfl rfl dX7_isRow_0 ?_
  refine g_iconst (pc := 1) (nI 0) (by decide) dX7_isRow_1 ?_
  refine g_iconst (pc := 2) (nI 5) (by decide) dX7_isRow_2 ?_
  refine g_callS (pc := 3) (mc := mX7_in) (rest := []) lX7_82 iX7_in (kX7_inG l E M (x) 0 5 (by omega) (by omega)) ⟨Nat.le_of_ble_eq_true rfl, Nat.le_of_ble_eq_true rfl⟩ rfl rfl (Nat.le_of_ble_eq_true rfl) ⟨Nat.zero_le _, Nat.zero_le _⟩ dX7_isRow_3 (g_rI ?_)
  refine g_ifB_eq (pc := 6) 31 dX7_isRow_6 (by decide) (fun h6 => ?_) (fun h6 => ?_)
  · refine g_iconst (pc := 31) (nI 0) (by decide) dX7_isRow_31 ?_
    refine g_topi (pc := 32) (x' := gb false) (by decide) ?_
    exact g_zret (pc := 32) rfl dX7_isRow_32 ⟨congrArg (fun z => some (Value.int (gb z))) (by rw [h6]; simp), rfl⟩
  · refine g_iload_n (pc := 9) 1 rfl rfl dX7_isRow_9 ?_
    refine g_iconst (pc := 10) (nI 0) (by decide) dX7_isRow_10 ?_
    refine g_iconst (pc := 11) (nI 3) (by decide) dX7_isRow_11 ?_
    refine g_callS (pc := 12) (mc := mX7_in) (rest := []) lX7_82 iX7_in (kX7_inG l E M (y) 0 3 (by omega) (by omega)) ⟨Nat.le_of_ble_eq_true rfl, Nat.le_of_ble_eq_true rfl⟩ rfl rfl (Nat.le_of_ble_eq_true rfl) ⟨Nat.zero_le _, Nat.zero_le _⟩ dX7_isRow_12 (g_rI ?_)
    refine g_ifB_eq (pc := 15) 31 dX7_isRow_15 (by decide) (fun h15 => ?_) (fun h15 => ?_)
    · refine g_iconst (pc := 31) (nI 0) (by decide) dX7_isRow_31 ?_
      refine g_topi (pc := 32) (x' := gb false) (by decide) ?_
      exact g_zret (pc := 32) rfl dX7_isRow_32 ⟨congrArg (fun z => some (Value.int (gb z))) (by rw [h6, h15]; simp), rfl⟩
    · refine g_iload_n (pc := 18) 2 rfl rfl dX7_isRow_18 ?_
      refine g_iconst (pc := 19) (nI 0) (by decide) dX7_isRow_19 ?_
      refine g_iconst (pc := 20) (nI 3) (by decide) dX7_isRow_20 ?_
      refine g_callS (pc := 21) (mc := mX7_in) (rest := []) lX7_82 iX7_in (kX7_inG l E M (z) 0 3 (by omega) (by omega)) ⟨Nat.le_of_ble_eq_true rfl, Nat.le_of_ble_eq_true rfl⟩ rfl rfl (Nat.le_of_ble_eq_true rfl) ⟨Nat.zero_le _, Nat.zero_le _⟩ dX7_isRow_21 (g_rI ?_)
      refine g_ifB_eq (pc := 24) 31 dX7_isRow_24 (by decide) (fun h24 => ?_) (fun h24 => ?_)
      · refine g_iconst (pc := 31) (nI 0) (by decide) dX7_isRow_31 ?_
        refine g_topi (pc := 32) (x' := gb false) (by decide) ?_
        exact g_zret (pc := 32) rfl dX7_isRow_32 ⟨congrArg (fun z => some (Value.int (gb z))) (by rw [h6, h15, h24]; simp), rfl⟩
      · refine g_iconst (pc := 27) (nI 1) (by decide) dX7_isRow_27 ?_
        refine g_goto (pc := 28) 32 dX7_isRow_28 (by decide) ?_
        refine g_topi (pc := 32) (x' := gb true) (by decide) ?_
        exact g_zret (pc := 32) rfl dX7_isRow_32 ⟨congrArg (fun z => some (Value.int (gb z))) (by rw [h6, h15, h24]; simp), rfl⟩
theorem inG_R {x : Int32} {n : Nat} : inG x 0 n = inR x (n + 1) := by
  unfold inG inR
  rw [Bool.eq_iff_iff, decide_eq_true_iff, decide_eq_true_iff]
  omega
set_option maxRecDepth 100000 in
set_option maxHeartbeats 4000000 in
theorem kX7_isGood (l : Launch) (E : gEnv) (M : gMem) (hR : mR E M) (hO : mO M) (set : Nat) (hs : set < 2147483648) : gMetI l E mX7_isGood 4 [.ref (gAd E 60), .int (nI set)] M (gb (goodM (mV M) (M.1 60 11) (mH M) (M.1 60 12) (M.1 60 13) (M.1 60 14) set)) := by
  have hO' := hO
  obtain ⟨hn, hk, hft, hto, hU, hH⟩ := hO
  have hO := hO'
  refine gMet_of (mm := mX7_isGood) (h := 4) (M := M) [(0, .ref (gAd E 60)), (1, .int (nI set))] (by decide) (Nat.le_of_ble_eq_true rfl) rfl ?_
  refine g_aload_n (pc := 0) 0 rfl rfl dX7_isGood_0 ?_
  refine g_iload_n (pc := 1) 1 rfl rfl dX7_isGood_1 ?_
  refine g_callV (pc := 2) (mc := mX7_areKept) (rest := []) lX7_138 iX7_areKept (kX7_areKept l E M hR hO set (by omega)) ⟨Nat.le_of_ble_eq_true rfl, Nat.le_of_ble_eq_true rfl⟩ hR.s0 (by decide) (by decide) rfl rfl rfl rfl (Nat.le_of_ble_eq_true rfl) ⟨Nat.zero_le _, Nat.zero_le _⟩ dX7_isGood_2 (g_rI ?_)
  refine g_istore_n (pc := 5) rfl [(0, .ref (gAd E 60)), (1, .int (nI set)), (2, .int (gb (sKepts (mV M) (M.1 60 11) (mH M) (M.1 60 12) set)))] dX7_isGood_5 (by decide) rfl rfl ?_
  refine g_iconst (pc := 6) (nI 0) (by decide) dX7_isGood_6 ?_
  refine g_istore_n (pc := 7) rfl [(0, .ref (gAd E 60)), (1, .int (nI set)), (2, .int (gb (sKepts (mV M) (M.1 60 11) (mH M) (M.1 60 12) set))), (3, .int (nI 0))] dX7_isGood_7 (by decide) rfl rfl ?_
  have lp8 : ∀ i, i ≤ M.1 60 11 → gG l (gV0 4 E (fun v u => v = some (.int (gb (goodM (mV M) (M.1 60 11) (mH M) (M.1 60 12) (M.1 60 13) (M.1 60 14) set))) ∧ u = M)) mX7_isGood E (0, 0) M 8 [(0, .ref (gAd E 60)), (1, .int (nI set)), (2, .int (gb (gmP (mV M) (M.1 60 11) (mH M) (M.1 60 12) (M.1 60 13) (M.1 60 14) set i))), (3, .int (nI i))] [] := by
    refine gloop (fun i hii ihi => ?_)
    refine g_iload_n (pc := 8) 3 rfl rfl dX7_isGood_8 ?_
    refine g_aload_n (pc := 9) 0 rfl rfl dX7_isGood_9 ?_
    refine fX7_61 (pc := 10) rfl hR.s0 dX7_isGood_10 ?_
    refine g_icmpN_ge (pc := 13) 85 dX7_isGood_13 (by decide) (by omega) (by omega) (fun h13 => ?_) (fun h13 => ?_)
    · refine g_iload_n (pc := 85) 2 rfl rfl dX7_isGood_85 ?_
      exact g_zret (pc := 86) rfl dX7_isGood_86 ⟨congrArg (fun z => some (Value.int (gb z))) (by rw [show i = M.1 60 11 by omega]; rfl), rfl⟩
    · refine g_iload_n (pc := 16) 2 rfl rfl dX7_isGood_16 ?_
      refine g_ifB_eq (pc := 17) 85 dX7_isGood_17 (by decide) (fun h17 => ?_) (fun h17 => ?_)
      · refine g_iload_n (pc := 85) 2 rfl rfl dX7_isGood_85 ?_
        exact g_zret (pc := 86) rfl dX7_isGood_86 ⟨congrArg (fun z => some (Value.int (gb z))) (by rw [h17]; exact (gmP_f (i := i) (by omega) h17).symm), rfl⟩
      · refine g_iload_n (pc := 20) 1 rfl rfl dX7_isGood_20 ?_
        refine g_iload_n (pc := 21) 3 rfl rfl dX7_isGood_21 ?_
        refine g_ishrN (pc := 22) (by omega) (by omega) dX7_isGood_22 ?_
        refine g_iconst (pc := 23) (nI 1) (by decide) dX7_isGood_23 ?_
        refine g_iand1 (pc := 24) dX7_isGood_24 ?_
        refine g_iconst (pc := 25) (nI 1) (by decide) dX7_isGood_25 ?_
        refine g_icmpN_ne (pc := 26) 79 dX7_isGood_26 (by decide) (by omega) (by omega) (fun h26 => ?_) (fun h26 => ?_)
        · refine g_iincN (pc := 79) 1 3 [(0, .ref (gAd E 60)), (1, .int (nI set)), (2, .int (gb (gmP (mV M) (M.1 60 11) (mH M) (M.1 60 12) (M.1 60 13) (M.1 60 14) set i))), (3, .int (nI (i + 1)))] rfl dX7_isGood_79 (by decide) rfl rfl ?_
          refine g_goto (pc := 82) 8 dX7_isGood_82 (by decide) ?_
          refine g_lv (pc := 8) (lv' := [(0, .ref (gAd E 60)), (1, .int (nI set)), (2, .int (gb (gmP (mV M) (M.1 60 11) (mH M) (M.1 60 12) (M.1 60 13) (M.1 60 14) set (i + 1)))), (3, .int (nI (i + 1)))]) (by rw [gmP_skip (tbf h26)]) ?_
          exact ihi (by omega)
        · refine g_aload_n (pc := 29) 0 rfl rfl dX7_isGood_29 ?_
          refine g_iload_n (pc := 30) 3 rfl rfl dX7_isGood_30 ?_
          refine g_callV (pc := 31) (mc := mX7_isOfTerm) (rest := []) lX7_132 iX7_isOfTerm (kX7_isOfTerm l E M hR hO i (by omega)) ⟨Nat.le_of_ble_eq_true rfl, Nat.le_of_ble_eq_true rfl⟩ hR.s0 (by decide) (by decide) rfl rfl rfl rfl (Nat.le_of_ble_eq_true rfl) ⟨Nat.zero_le _, Nat.zero_le _⟩ dX7_isGood_31 (g_rI ?_)
          refine g_istore_n (pc := 34) rfl [(0, .ref (gAd E 60)), (1, .int (nI set)), (2, .int (gb (sIn (mV M) (M.1 60 13) (M.1 60 14) i))), (3, .int (nI i))] dX7_isGood_34 (by decide) rfl rfl ?_
          refine g_iconst (pc := 35) (nI 0) (by decide) dX7_isGood_35 ?_
          refine g_istore (pc := 36) [(0, .ref (gAd E 60)), (1, .int (nI set)), (2, .int (gb (sIn (mV M) (M.1 60 13) (M.1 60 14) i))), (3, .int (nI i)), (4, .int (nI 0))] dX7_isGood_36 (by decide) rfl rfl ?_
          have lp38 : ∀ j, j ≤ i → gG l (gV0 4 E (fun v u => v = some (.int (gb (goodM (mV M) (M.1 60 11) (mH M) (M.1 60 12) (M.1 60 13) (M.1 60 14) set))) ∧ u = M)) mX7_isGood E (0, 0) M 38 [(0, .ref (gAd E 60)), (1, .int (nI set)), (2, .int (gb (gmQ (mV M) (M.1 60 13) (M.1 60 14) set i j))), (3, .int (nI i)), (4, .int (nI j))] [] := by
            refine gloop (fun j hij ihj => ?_)
            refine g_iload (pc := 38) 4 rfl dX7_isGood_38 ?_
            refine g_iload_n (pc := 40) 3 rfl rfl dX7_isGood_40 ?_
            refine g_icmpN_ge (pc := 41) 79 dX7_isGood_41 (by decide) (by omega) (by omega) (fun h41 => ?_) (fun h41 => ?_)
            · refine g_iincN (pc := 79) 1 3 [(0, .ref (gAd E 60)), (1, .int (nI set)), (2, .int (gb (gmQ (mV M) (M.1 60 13) (M.1 60 14) set i j))), (3, .int (nI (i + 1))), (4, .int (nI j))] rfl dX7_isGood_79 (by decide) rfl rfl ?_
              refine g_goto (pc := 82) 8 dX7_isGood_82 (by decide) ?_
              refine g_pick (pc := 8) [0, 1, 2, 3] [(0, .ref (gAd E 60)), (1, .int (nI set)), (2, .int (gb (gmQ (mV M) (M.1 60 13) (M.1 60 14) set i j))), (3, .int (nI (i + 1)))] rfl ?_
              refine g_lv (pc := 8) (lv' := [(0, .ref (gAd E 60)), (1, .int (nI set)), (2, .int (gb (gmP (mV M) (M.1 60 11) (mH M) (M.1 60 12) (M.1 60 13) (M.1 60 14) set (i + 1)))), (3, .int (nI (i + 1)))]) (by rw [gmP_step (tbt h26) h17, show i = j by omega]) ?_
              exact ihi (by omega)
            · refine g_iload_n (pc := 44) 2 rfl rfl dX7_isGood_44 ?_
              refine g_ifB_eq (pc := 45) 79 dX7_isGood_45 (by decide) (fun h45 => ?_) (fun h45 => ?_)
              · refine g_iincN (pc := 79) 1 3 [(0, .ref (gAd E 60)), (1, .int (nI set)), (2, .int (gb (gmQ (mV M) (M.1 60 13) (M.1 60 14) set i j))), (3, .int (nI (i + 1))), (4, .int (nI j))] rfl dX7_isGood_79 (by decide) rfl rfl ?_
                refine g_goto (pc := 82) 8 dX7_isGood_82 (by decide) ?_
                refine g_pick (pc := 8) [0, 1, 2, 3] [(0, .ref (gAd E 60)), (1, .int (nI set)), (2, .int (gb (gmQ (mV M) (M.1 60 13) (M.1 60 14) set i j))), (3, .int (nI (i + 1)))] rfl ?_
                refine g_lv (pc := 8) (lv' := [(0, .ref (gAd E 60)), (1, .int (nI set)), (2, .int (gb (gmP (mV M) (M.1 60 11) (mH M) (M.1 60 12) (M.1 60 13) (M.1 60 14) set (i + 1)))), (3, .int (nI (i + 1)))]) (by rw [gmP_step (tbt h26) h17, gmQ_f (j := j) (m := i) (by omega) h45, h45]) ?_
                exact ihi (by omega)
              · refine g_iload_n (pc := 48) 1 rfl rfl dX7_isGood_48 ?_
                refine g_iload (pc := 49) 4 rfl dX7_isGood_49 ?_
                refine g_ishrN (pc := 51) (by omega) (by omega) dX7_isGood_51 ?_
                refine g_iconst (pc := 52) (nI 1) (by decide) dX7_isGood_52 ?_
                refine g_iand1 (pc := 53) dX7_isGood_53 ?_
                refine g_ifN_eq (pc := 54) 67 dX7_isGood_54 (by decide) (by omega) (fun h54 => ?_) (fun h54 => ?_)
                · refine g_iconst (pc := 67) (nI 1) (by decide) dX7_isGood_67 ?_
                  refine g_goto (pc := 68) 72 dX7_isGood_68 (by decide) ?_
                  refine g_istore_n (pc := 72) rfl [(0, .ref (gAd E 60)), (1, .int (nI set)), (2, .int (nI 1)), (3, .int (nI i)), (4, .int (nI j))] dX7_isGood_72 (by decide) rfl rfl ?_
                  refine g_iincN (pc := 73) 1 4 [(0, .ref (gAd E 60)), (1, .int (nI set)), (2, .int (nI 1)), (3, .int (nI i)), (4, .int (nI (j + 1)))] rfl dX7_isGood_73 (by decide) rfl rfl ?_
                  refine g_goto (pc := 76) 38 dX7_isGood_76 (by decide) ?_
                  refine g_lv (pc := 38) (lv' := [(0, .ref (gAd E 60)), (1, .int (nI set)), (2, .int (gb (gmQ (mV M) (M.1 60 13) (M.1 60 14) set i (j + 1)))), (3, .int (nI i)), (4, .int (nI (j + 1)))]) (by rw [gmQ_step h45, tbf (show set / 2 ^ j % 2 ≠ 1 by omega)]; rfl) ?_
                  exact ihj (by omega)
                · refine g_aload_n (pc := 57) 0 rfl rfl dX7_isGood_57 ?_
                  refine g_iload_n (pc := 58) 3 rfl rfl dX7_isGood_58 ?_
                  refine g_iload (pc := 59) 4 rfl dX7_isGood_59 ?_
                  refine g_callV (pc := 61) (mc := mX7_doClash) (rest := []) lX7_128 iX7_doClash (kX7_doClash l E M hR hO i j (by omega) (by omega)) ⟨Nat.le_of_ble_eq_true rfl, Nat.le_of_ble_eq_true rfl⟩ hR.s0 (by decide) (by decide) rfl rfl rfl rfl (Nat.le_of_ble_eq_true rfl) ⟨Nat.zero_le _, Nat.zero_le _⟩ dX7_isGood_61 (g_rI ?_)
                  refine g_ifB_ne (pc := 64) 71 dX7_isGood_64 (by decide) (fun h64 => ?_) (fun h64 => ?_)
                  · refine g_iconst (pc := 71) (nI 0) (by decide) dX7_isGood_71 ?_
                    refine g_istore_n (pc := 72) rfl [(0, .ref (gAd E 60)), (1, .int (nI set)), (2, .int (nI 0)), (3, .int (nI i)), (4, .int (nI j))] dX7_isGood_72 (by decide) rfl rfl ?_
                    refine g_iincN (pc := 73) 1 4 [(0, .ref (gAd E 60)), (1, .int (nI set)), (2, .int (nI 0)), (3, .int (nI i)), (4, .int (nI (j + 1)))] rfl dX7_isGood_73 (by decide) rfl rfl ?_
                    refine g_goto (pc := 76) 38 dX7_isGood_76 (by decide) ?_
                    refine g_lv (pc := 38) (lv' := [(0, .ref (gAd E 60)), (1, .int (nI set)), (2, .int (gb (gmQ (mV M) (M.1 60 13) (M.1 60 14) set i (j + 1)))), (3, .int (nI i)), (4, .int (nI (j + 1)))]) (by rw [gmQ_step h45, tbt (show set / 2 ^ j % 2 = 1 by omega), show sCl (mV M i) (mV M j) = true from by rw [show (i != j) = true from bne_iff_ne.mpr (by omega)] at h64; exact h64]; rfl) ?_
                    exact ihj (by omega)
                  · refine g_iconst (pc := 67) (nI 1) (by decide) dX7_isGood_67 ?_
                    refine g_goto (pc := 68) 72 dX7_isGood_68 (by decide) ?_
                    refine g_istore_n (pc := 72) rfl [(0, .ref (gAd E 60)), (1, .int (nI set)), (2, .int (nI 1)), (3, .int (nI i)), (4, .int (nI j))] dX7_isGood_72 (by decide) rfl rfl ?_
                    refine g_iincN (pc := 73) 1 4 [(0, .ref (gAd E 60)), (1, .int (nI set)), (2, .int (nI 1)), (3, .int (nI i)), (4, .int (nI (j + 1)))] rfl dX7_isGood_73 (by decide) rfl rfl ?_
                    refine g_goto (pc := 76) 38 dX7_isGood_76 (by decide) ?_
                    refine g_lv (pc := 38) (lv' := [(0, .ref (gAd E 60)), (1, .int (nI set)), (2, .int (gb (gmQ (mV M) (M.1 60 13) (M.1 60 14) set i (j + 1)))), (3, .int (nI i)), (4, .int (nI (j + 1)))]) (by rw [gmQ_step h45, tbt (show set / 2 ^ j % 2 = 1 by omega), show sCl (mV M i) (mV M j) = false from by rw [show (i != j) = true from bne_iff_ne.mpr (by omega)] at h64; exact h64]; rfl) ?_
                    exact ihj (by omega)
          refine g_lv (pc := 38) (lv' := [(0, .ref (gAd E 60)), (1, .int (nI set)), (2, .int (gb (gmQ (mV M) (M.1 60 13) (M.1 60 14) set i 0))), (3, .int (nI i)), (4, .int (nI 0))]) (by rw [show gmQ (mV M) (M.1 60 13) (M.1 60 14) set i 0 = sIn (mV M) (M.1 60 13) (M.1 60 14) i from by simp [gmQ, gmJ, sAny]]) ?_
          exact lp38 0 (by omega)
  refine g_lv (pc := 8) (lv' := [(0, .ref (gAd E 60)), (1, .int (nI set)), (2, .int (gb (gmP (mV M) (M.1 60 11) (mH M) (M.1 60 12) (M.1 60 13) (M.1 60 14) set 0))), (3, .int (nI 0))]) (by rw [show gmP (mV M) (M.1 60 11) (mH M) (M.1 60 12) (M.1 60 13) (M.1 60 14) set 0 = sKepts (mV M) (M.1 60 11) (mH M) (M.1 60 12) set from by simp [gmP, sAny]]) ?_
  exact lp8 0 (by omega)
set_option maxRecDepth 100000 in
set_option maxHeartbeats 4000000 in
theorem kX7_findBest (l : Launch) (E : gEnv) (M : gMem) (hR : mR E M) (hO : mO M) : gMet l E mX7_findBest 5 [.ref (gAd E 60)] M (fun v u => v = some (.int (nI (sBest (mV M) (M.1 60 11) (goodM (mV M) (M.1 60 11) (mH M) (M.1 60 12) (M.1 60 13) (M.1 60 14)) (2 ^ M.1 60 11)))) ∧ u = gU M 60 21 (sPrice (mV M) (M.1 60 11) (sBest (mV M) (M.1 60 11) (goodM (mV M) (M.1 60 11) (mH M) (M.1 60 12) (M.1 60 13) (M.1 60 14)) (2 ^ M.1 60 11)))) := by
  have hO' := hO
  obtain ⟨hn, hk, hft, hto, hU, hH⟩ := hO
  have hO := hO'
  have hp : 2 ^ M.1 60 11 ≤ 1024 := Nat.pow_le_pow_right (n := 2) (by decide) hn
  refine gMet_of (mm := mX7_findBest) (h := 5) (M := M) [(0, .ref (gAd E 60))] (by decide) (Nat.le_of_ble_eq_true rfl) rfl ?_
  refine g_iconst (pc := 0) (nI 0) (by decide) dX7_findBest_0 ?_
  refine g_istore_n (pc := 1) rfl [(0, .ref (gAd E 60)), (1, .int (nI 0))] dX7_findBest_1 (by decide) rfl rfl ?_
  refine g_aload_n (pc := 2) 0 rfl rfl dX7_findBest_2 ?_
  refine g_iconst (pc := 3) (nI 0) (by decide) dX7_findBest_3 ?_
  refine uX7_171 (pc := 4) rfl hR.s0 dX7_findBest_4 ?_
  refine g_iconst (pc := 7) (nI 1) (by decide) dX7_findBest_7 ?_
  refine g_istore_n (pc := 8) rfl [(0, .ref (gAd E 60)), (1, .int (nI 0)), (2, .int (nI 1))] dX7_findBest_8 (by decide) rfl rfl ?_
  have lp9 : ∀ z, z ≤ 2 ^ M.1 60 11 → gG l (gV0 5 E (fun v u => v = some (.int (nI (sBest (mV M) (M.1 60 11) (goodM (mV M) (M.1 60 11) (mH M) (M.1 60 12) (M.1 60 13) (M.1 60 14)) (2 ^ M.1 60 11)))) ∧ u = gU M 60 21 (sPrice (mV M) (M.1 60 11) (sBest (mV M) (M.1 60 11) (goodM (mV M) (M.1 60 11) (mH M) (M.1 60 12) (M.1 60 13) (M.1 60 14)) (2 ^ M.1 60 11))))) mX7_findBest E (0, 0) (gU M 60 21 (sPrice (mV M) (M.1 60 11) (sBest (mV M) (M.1 60 11) (goodM (mV M) (M.1 60 11) (mH M) (M.1 60 12) (M.1 60 13) (M.1 60 14)) z))) 9 [(0, .ref (gAd E 60)), (1, .int (nI (sBest (mV M) (M.1 60 11) (goodM (mV M) (M.1 60 11) (mH M) (M.1 60 12) (M.1 60 13) (M.1 60 14)) z))), (2, .int (nI z))] [] := by
    refine gloop (fun z hiz ihz => ?_)
    refine g_iload_n (pc := 9) 2 rfl rfl dX7_findBest_9 ?_
    refine g_iconst (pc := 10) (nI 1) (by decide) dX7_findBest_10 ?_
    refine g_aload_n (pc := 11) 0 rfl rfl dX7_findBest_11 ?_
    refine fX7_61 (pc := 12) rfl hR.s0 dX7_findBest_12 ?_
    refine g_topi (pc := 15) (x' := nI (M.1 60 11)) rfl ?_
    refine g_ishl1 (pc := 15) (by omega) dX7_findBest_15 ?_
    refine g_icmpN_ge (pc := 16) 85 dX7_findBest_16 (by decide) (by omega) (by omega) (fun h16 => ?_) (fun h16 => ?_)
    · refine g_iload_n (pc := 85) 1 rfl rfl dX7_findBest_85 ?_
      exact g_iret (pc := 86) rfl dX7_findBest_86 ⟨congrArg (fun z => some (Value.int z)) (by rw [show z = 2 ^ M.1 60 11 by omega]), by rw [show z = 2 ^ M.1 60 11 by omega]⟩
    · have ho1 := sOnes_le z
      have ho2 := sOnes_le (sBest (mV M) (M.1 60 11) (goodM (mV M) (M.1 60 11) (mH M) (M.1 60 12) (M.1 60 13) (M.1 60 14)) z)
      have hzl := sBest_le (V := mV M) (n := M.1 60 11) (good := (goodM (mV M) (M.1 60 11) (mH M) (M.1 60 12) (M.1 60 13) (M.1 60 14))) z
      have hpz := sPrice_le (V := mV M) (set := z) (M.1 60 11) (fun i hi => (hU i hi).2.2.2.2.2.2.2)
      have hpb := sPrice_le (V := mV M) (set := sBest (mV M) (M.1 60 11) (goodM (mV M) (M.1 60 11) (mH M) (M.1 60 12) (M.1 60 13) (M.1 60 14)) z) (M.1 60 11) (fun i hi => (hU i hi).2.2.2.2.2.2.2)
      refine g_aload_n (pc := 19) 0 rfl rfl dX7_findBest_19 ?_
      refine g_iload_n (pc := 20) 2 rfl rfl dX7_findBest_20 ?_
      refine g_callV (pc := 21) (mc := mX7_pricesOf) (rest := []) lX7_174 iX7_pricesOf (kX7_pricesOf l E (gU M 60 21 (sPrice (mV M) (M.1 60 11) (sBest (mV M) (M.1 60 11) (goodM (mV M) (M.1 60 11) (mH M) (M.1 60 12) (M.1 60 13) (M.1 60 14)) z))) hR hO z (by omega)) ⟨Nat.le_of_ble_eq_true rfl, Nat.le_of_ble_eq_true rfl⟩ hR.s0 (by decide) (by decide) rfl rfl rfl rfl (Nat.le_of_ble_eq_true rfl) ⟨Nat.zero_le _, Nat.zero_le _⟩ dX7_findBest_21 (g_rI ?_)
      refine g_topi (pc := 24) (x' := nI (sPrice (mV M) (M.1 60 11) z)) rfl ?_
      refine g_istore_n (pc := 24) rfl [(0, .ref (gAd E 60)), (1, .int (nI (sBest (mV M) (M.1 60 11) (goodM (mV M) (M.1 60 11) (mH M) (M.1 60 12) (M.1 60 13) (M.1 60 14)) z))), (2, .int (nI z)), (3, .int (nI (sPrice (mV M) (M.1 60 11) z)))] dX7_findBest_24 (by decide) rfl rfl ?_
      refine g_iload_n (pc := 25) 3 rfl rfl dX7_findBest_25 ?_
      refine g_aload_n (pc := 26) 0 rfl rfl dX7_findBest_26 ?_
      refine fX7_171 (pc := 27) rfl hR.s0 dX7_findBest_27 ?_
      refine g_topi (pc := 30) (x' := nI (sPrice (mV M) (M.1 60 11) (sBest (mV M) (M.1 60 11) (goodM (mV M) (M.1 60 11) (mH M) (M.1 60 12) (M.1 60 13) (M.1 60 14)) z))) rfl ?_
      refine g_icmpN_gt (pc := 30) 52 dX7_findBest_30 (by decide) (by omega) (by omega) (fun h30 => ?_) (fun h30 => ?_)
      · have hbet : sBet (mV M) (M.1 60 11) z (sBest (mV M) (M.1 60 11) (goodM (mV M) (M.1 60 11) (mH M) (M.1 60 12) (M.1 60 13) (M.1 60 14)) z) = true := by simp only [sBet, Bool.or_eq_true, decide_eq_true_eq]; exact Or.inl h30
        refine g_iconst (pc := 52) (nI 1) (by decide) dX7_findBest_52 ?_
        refine g_goto (pc := 53) 57 dX7_findBest_53 (by decide) ?_
        refine g_istore (pc := 57) [(0, .ref (gAd E 60)), (1, .int (nI (sBest (mV M) (M.1 60 11) (goodM (mV M) (M.1 60 11) (mH M) (M.1 60 12) (M.1 60 13) (M.1 60 14)) z))), (2, .int (nI z)), (3, .int (nI (sPrice (mV M) (M.1 60 11) z))), (4, .int (nI 1))] dX7_findBest_57 (by decide) rfl rfl ?_
        refine g_iload (pc := 59) 4 rfl dX7_findBest_59 ?_
        refine g_ifN_eq (pc := 61) 79 dX7_findBest_61 (by decide) (by omega) (fun h61 => absurd h61 (by omega)) (fun h61 => ?_)
        refine g_aload_n (pc := 64) 0 rfl rfl dX7_findBest_64 ?_
        refine g_iload_n (pc := 65) 2 rfl rfl dX7_findBest_65 ?_
        refine g_callV (pc := 66) (mc := mX7_isGood) (rest := []) lX7_177 iX7_isGood (kX7_isGood l E (gU M 60 21 (sPrice (mV M) (M.1 60 11) (sBest (mV M) (M.1 60 11) (goodM (mV M) (M.1 60 11) (mH M) (M.1 60 12) (M.1 60 13) (M.1 60 14)) z))) hR hO z (by omega)) ⟨Nat.le_of_ble_eq_true rfl, Nat.le_of_ble_eq_true rfl⟩ hR.s0 (by decide) (by decide) rfl rfl rfl rfl (Nat.le_of_ble_eq_true rfl) ⟨Nat.zero_le _, Nat.zero_le _⟩ dX7_findBest_66 (g_rI ?_)
        refine g_topi (pc := 69) (x' := gb ((goodM (mV M) (M.1 60 11) (mH M) (M.1 60 12) (M.1 60 13) (M.1 60 14)) z)) rfl ?_
        refine g_ifB_eq (pc := 69) 79 dX7_findBest_69 (by decide) (fun h69 => ?_) (fun h69 => ?_)
        · refine g_iincN (pc := 79) 1 2 [(0, .ref (gAd E 60)), (1, .int (nI (sBest (mV M) (M.1 60 11) (goodM (mV M) (M.1 60 11) (mH M) (M.1 60 12) (M.1 60 13) (M.1 60 14)) z))), (2, .int (nI (z + 1))), (3, .int (nI (sPrice (mV M) (M.1 60 11) z))), (4, .int (nI 1))] rfl dX7_findBest_79 (by decide) rfl rfl ?_
          refine g_goto (pc := 82) 9 dX7_findBest_82 (by decide) ?_
          refine g_mm (pc := 9) (M' := gU M 60 21 (sPrice (mV M) (M.1 60 11) (sBest (mV M) (M.1 60 11) (goodM (mV M) (M.1 60 11) (mH M) (M.1 60 12) (M.1 60 13) (M.1 60 14)) (z + 1)))) (by rw [sBest_n2 (good := (goodM (mV M) (M.1 60 11) (mH M) (M.1 60 12) (M.1 60 13) (M.1 60 14))) h69]) ?_
          refine g_pick (pc := 9) [0, 1, 2] [(0, .ref (gAd E 60)), (1, .int (nI (sBest (mV M) (M.1 60 11) (goodM (mV M) (M.1 60 11) (mH M) (M.1 60 12) (M.1 60 13) (M.1 60 14)) z))), (2, .int (nI (z + 1)))] rfl ?_
          refine g_lv (pc := 9) (lv' := [(0, .ref (gAd E 60)), (1, .int (nI (sBest (mV M) (M.1 60 11) (goodM (mV M) (M.1 60 11) (mH M) (M.1 60 12) (M.1 60 13) (M.1 60 14)) (z + 1)))), (2, .int (nI (z + 1)))]) (by rw [sBest_n2 (good := (goodM (mV M) (M.1 60 11) (mH M) (M.1 60 12) (M.1 60 13) (M.1 60 14))) h69]) ?_
          exact ihz (by omega)
        · refine g_iload_n (pc := 72) 2 rfl rfl dX7_findBest_72 ?_
          refine g_istore_n (pc := 73) rfl [(0, .ref (gAd E 60)), (1, .int (nI z)), (2, .int (nI z)), (3, .int (nI (sPrice (mV M) (M.1 60 11) z))), (4, .int (nI 1))] dX7_findBest_73 (by decide) rfl rfl ?_
          refine g_aload_n (pc := 74) 0 rfl rfl dX7_findBest_74 ?_
          refine g_iload_n (pc := 75) 3 rfl rfl dX7_findBest_75 ?_
          refine uX7_171 (pc := 76) rfl hR.s0 dX7_findBest_76 ?_
          refine g_iincN (pc := 79) 1 2 [(0, .ref (gAd E 60)), (1, .int (nI z)), (2, .int (nI (z + 1))), (3, .int (nI (sPrice (mV M) (M.1 60 11) z))), (4, .int (nI 1))] rfl dX7_findBest_79 (by decide) rfl rfl ?_
          refine g_goto (pc := 82) 9 dX7_findBest_82 (by decide) ?_
          refine g_mm (pc := 9) (M' := gU M 60 21 (sPrice (mV M) (M.1 60 11) (sBest (mV M) (M.1 60 11) (goodM (mV M) (M.1 60 11) (mH M) (M.1 60 12) (M.1 60 13) (M.1 60 14)) (z + 1)))) (by rw [gU_gU, sBest_p (good := (goodM (mV M) (M.1 60 11) (mH M) (M.1 60 12) (M.1 60 13) (M.1 60 14))) hbet h69]) ?_
          refine g_pick (pc := 9) [0, 1, 2] [(0, .ref (gAd E 60)), (1, .int (nI z)), (2, .int (nI (z + 1)))] rfl ?_
          refine g_lv (pc := 9) (lv' := [(0, .ref (gAd E 60)), (1, .int (nI (sBest (mV M) (M.1 60 11) (goodM (mV M) (M.1 60 11) (mH M) (M.1 60 12) (M.1 60 13) (M.1 60 14)) (z + 1)))), (2, .int (nI (z + 1)))]) (by rw [sBest_p (good := (goodM (mV M) (M.1 60 11) (mH M) (M.1 60 12) (M.1 60 13) (M.1 60 14))) hbet h69]) ?_
          exact ihz (by omega)
      · refine g_iload_n (pc := 33) 3 rfl rfl dX7_findBest_33 ?_
        refine g_aload_n (pc := 34) 0 rfl rfl dX7_findBest_34 ?_
        refine fX7_171 (pc := 35) rfl hR.s0 dX7_findBest_35 ?_
        refine g_topi (pc := 38) (x' := nI (sPrice (mV M) (M.1 60 11) (sBest (mV M) (M.1 60 11) (goodM (mV M) (M.1 60 11) (mH M) (M.1 60 12) (M.1 60 13) (M.1 60 14)) z))) rfl ?_
        refine g_icmpN_ne (pc := 38) 56 dX7_findBest_38 (by decide) (by omega) (by omega) (fun h38 => ?_) (fun h38 => ?_)
        · have hbet : sBet (mV M) (M.1 60 11) z (sBest (mV M) (M.1 60 11) (goodM (mV M) (M.1 60 11) (mH M) (M.1 60 12) (M.1 60 13) (M.1 60 14)) z) = false := by rw [Bool.eq_false_iff]; simp only [sBet, ne_eq, Bool.or_eq_true, Bool.and_eq_true, beq_iff_eq, decide_eq_true_eq]; omega
          refine g_iconst (pc := 56) (nI 0) (by decide) dX7_findBest_56 ?_
          refine g_istore (pc := 57) [(0, .ref (gAd E 60)), (1, .int (nI (sBest (mV M) (M.1 60 11) (goodM (mV M) (M.1 60 11) (mH M) (M.1 60 12) (M.1 60 13) (M.1 60 14)) z))), (2, .int (nI z)), (3, .int (nI (sPrice (mV M) (M.1 60 11) z))), (4, .int (nI 0))] dX7_findBest_57 (by decide) rfl rfl ?_
          refine g_iload (pc := 59) 4 rfl dX7_findBest_59 ?_
          refine g_ifN_eq (pc := 61) 79 dX7_findBest_61 (by decide) (by omega) (fun h61 => ?_) (fun h61 => absurd h61 (by omega))
          refine g_iincN (pc := 79) 1 2 [(0, .ref (gAd E 60)), (1, .int (nI (sBest (mV M) (M.1 60 11) (goodM (mV M) (M.1 60 11) (mH M) (M.1 60 12) (M.1 60 13) (M.1 60 14)) z))), (2, .int (nI (z + 1))), (3, .int (nI (sPrice (mV M) (M.1 60 11) z))), (4, .int (nI 0))] rfl dX7_findBest_79 (by decide) rfl rfl ?_
          refine g_goto (pc := 82) 9 dX7_findBest_82 (by decide) ?_
          refine g_mm (pc := 9) (M' := gU M 60 21 (sPrice (mV M) (M.1 60 11) (sBest (mV M) (M.1 60 11) (goodM (mV M) (M.1 60 11) (mH M) (M.1 60 12) (M.1 60 13) (M.1 60 14)) (z + 1)))) (by rw [sBest_n1 (good := (goodM (mV M) (M.1 60 11) (mH M) (M.1 60 12) (M.1 60 13) (M.1 60 14))) hbet]) ?_
          refine g_pick (pc := 9) [0, 1, 2] [(0, .ref (gAd E 60)), (1, .int (nI (sBest (mV M) (M.1 60 11) (goodM (mV M) (M.1 60 11) (mH M) (M.1 60 12) (M.1 60 13) (M.1 60 14)) z))), (2, .int (nI (z + 1)))] rfl ?_
          refine g_lv (pc := 9) (lv' := [(0, .ref (gAd E 60)), (1, .int (nI (sBest (mV M) (M.1 60 11) (goodM (mV M) (M.1 60 11) (mH M) (M.1 60 12) (M.1 60 13) (M.1 60 14)) (z + 1)))), (2, .int (nI (z + 1)))]) (by rw [sBest_n1 (good := (goodM (mV M) (M.1 60 11) (mH M) (M.1 60 12) (M.1 60 13) (M.1 60 14))) hbet]) ?_
          exact ihz (by omega)
        · refine g_iload_n (pc := 41) 2 rfl rfl dX7_findBest_41 ?_
          refine g_callS (pc := 42) (mc := mX7_ones) (rest := []) lX7_111 iX7_ones (kX7_ones l E (gU M 60 21 (sPrice (mV M) (M.1 60 11) (sBest (mV M) (M.1 60 11) (goodM (mV M) (M.1 60 11) (mH M) (M.1 60 12) (M.1 60 13) (M.1 60 14)) z))) z (by omega)) ⟨Nat.le_of_ble_eq_true rfl, Nat.le_of_ble_eq_true rfl⟩ rfl rfl (Nat.le_of_ble_eq_true rfl) ⟨Nat.zero_le _, Nat.zero_le _⟩ dX7_findBest_42 (g_rI ?_)
          refine g_iload_n (pc := 45) 1 rfl rfl dX7_findBest_45 ?_
          refine g_callS (pc := 46) (mc := mX7_ones) (rest := [.int (nI (sOnes z))]) lX7_111 iX7_ones (kX7_ones l E (gU M 60 21 (sPrice (mV M) (M.1 60 11) (sBest (mV M) (M.1 60 11) (goodM (mV M) (M.1 60 11) (mH M) (M.1 60 12) (M.1 60 13) (M.1 60 14)) z))) (sBest (mV M) (M.1 60 11) (goodM (mV M) (M.1 60 11) (mH M) (M.1 60 12) (M.1 60 13) (M.1 60 14)) z) (by omega)) ⟨Nat.le_of_ble_eq_true rfl, Nat.le_of_ble_eq_true rfl⟩ rfl rfl (Nat.le_of_ble_eq_true rfl) ⟨Nat.zero_le _, Nat.zero_le _⟩ dX7_findBest_46 (g_rI ?_)
          refine g_icmpN_ge (pc := 49) 56 dX7_findBest_49 (by decide) (by omega) (by omega) (fun h49 => ?_) (fun h49 => ?_)
          · have hbet : sBet (mV M) (M.1 60 11) z (sBest (mV M) (M.1 60 11) (goodM (mV M) (M.1 60 11) (mH M) (M.1 60 12) (M.1 60 13) (M.1 60 14)) z) = false := by rw [Bool.eq_false_iff]; simp only [sBet, ne_eq, Bool.or_eq_true, Bool.and_eq_true, beq_iff_eq, decide_eq_true_eq]; omega
            refine g_iconst (pc := 56) (nI 0) (by decide) dX7_findBest_56 ?_
            refine g_istore (pc := 57) [(0, .ref (gAd E 60)), (1, .int (nI (sBest (mV M) (M.1 60 11) (goodM (mV M) (M.1 60 11) (mH M) (M.1 60 12) (M.1 60 13) (M.1 60 14)) z))), (2, .int (nI z)), (3, .int (nI (sPrice (mV M) (M.1 60 11) z))), (4, .int (nI 0))] dX7_findBest_57 (by decide) rfl rfl ?_
            refine g_iload (pc := 59) 4 rfl dX7_findBest_59 ?_
            refine g_ifN_eq (pc := 61) 79 dX7_findBest_61 (by decide) (by omega) (fun h61 => ?_) (fun h61 => absurd h61 (by omega))
            refine g_iincN (pc := 79) 1 2 [(0, .ref (gAd E 60)), (1, .int (nI (sBest (mV M) (M.1 60 11) (goodM (mV M) (M.1 60 11) (mH M) (M.1 60 12) (M.1 60 13) (M.1 60 14)) z))), (2, .int (nI (z + 1))), (3, .int (nI (sPrice (mV M) (M.1 60 11) z))), (4, .int (nI 0))] rfl dX7_findBest_79 (by decide) rfl rfl ?_
            refine g_goto (pc := 82) 9 dX7_findBest_82 (by decide) ?_
            refine g_mm (pc := 9) (M' := gU M 60 21 (sPrice (mV M) (M.1 60 11) (sBest (mV M) (M.1 60 11) (goodM (mV M) (M.1 60 11) (mH M) (M.1 60 12) (M.1 60 13) (M.1 60 14)) (z + 1)))) (by rw [sBest_n1 (good := (goodM (mV M) (M.1 60 11) (mH M) (M.1 60 12) (M.1 60 13) (M.1 60 14))) hbet]) ?_
            refine g_pick (pc := 9) [0, 1, 2] [(0, .ref (gAd E 60)), (1, .int (nI (sBest (mV M) (M.1 60 11) (goodM (mV M) (M.1 60 11) (mH M) (M.1 60 12) (M.1 60 13) (M.1 60 14)) z))), (2, .int (nI (z + 1)))] rfl ?_
            refine g_lv (pc := 9) (lv' := [(0, .ref (gAd E 60)), (1, .int (nI (sBest (mV M) (M.1 60 11) (goodM (mV M) (M.1 60 11) (mH M) (M.1 60 12) (M.1 60 13) (M.1 60 14)) (z + 1)))), (2, .int (nI (z + 1)))]) (by rw [sBest_n1 (good := (goodM (mV M) (M.1 60 11) (mH M) (M.1 60 12) (M.1 60 13) (M.1 60 14))) hbet]) ?_
            exact ihz (by omega)
          · have hbet : sBet (mV M) (M.1 60 11) z (sBest (mV M) (M.1 60 11) (goodM (mV M) (M.1 60 11) (mH M) (M.1 60 12) (M.1 60 13) (M.1 60 14)) z) = true := by simp only [sBet, Bool.or_eq_true, Bool.and_eq_true, beq_iff_eq, decide_eq_true_eq]; exact Or.inr ⟨h38, h49⟩
            refine g_iconst (pc := 52) (nI 1) (by decide) dX7_findBest_52 ?_
            refine g_goto (pc := 53) 57 dX7_findBest_53 (by decide) ?_
            refine g_istore (pc := 57) [(0, .ref (gAd E 60)), (1, .int (nI (sBest (mV M) (M.1 60 11) (goodM (mV M) (M.1 60 11) (mH M) (M.1 60 12) (M.1 60 13) (M.1 60 14)) z))), (2, .int (nI z)), (3, .int (nI (sPrice (mV M) (M.1 60 11) z))), (4, .int (nI 1))] dX7_findBest_57 (by decide) rfl rfl ?_
            refine g_iload (pc := 59) 4 rfl dX7_findBest_59 ?_
            refine g_ifN_eq (pc := 61) 79 dX7_findBest_61 (by decide) (by omega) (fun h61 => absurd h61 (by omega)) (fun h61 => ?_)
            refine g_aload_n (pc := 64) 0 rfl rfl dX7_findBest_64 ?_
            refine g_iload_n (pc := 65) 2 rfl rfl dX7_findBest_65 ?_
            refine g_callV (pc := 66) (mc := mX7_isGood) (rest := []) lX7_177 iX7_isGood (kX7_isGood l E (gU M 60 21 (sPrice (mV M) (M.1 60 11) (sBest (mV M) (M.1 60 11) (goodM (mV M) (M.1 60 11) (mH M) (M.1 60 12) (M.1 60 13) (M.1 60 14)) z))) hR hO z (by omega)) ⟨Nat.le_of_ble_eq_true rfl, Nat.le_of_ble_eq_true rfl⟩ hR.s0 (by decide) (by decide) rfl rfl rfl rfl (Nat.le_of_ble_eq_true rfl) ⟨Nat.zero_le _, Nat.zero_le _⟩ dX7_findBest_66 (g_rI ?_)
            refine g_topi (pc := 69) (x' := gb ((goodM (mV M) (M.1 60 11) (mH M) (M.1 60 12) (M.1 60 13) (M.1 60 14)) z)) rfl ?_
            refine g_ifB_eq (pc := 69) 79 dX7_findBest_69 (by decide) (fun h69 => ?_) (fun h69 => ?_)
            · refine g_iincN (pc := 79) 1 2 [(0, .ref (gAd E 60)), (1, .int (nI (sBest (mV M) (M.1 60 11) (goodM (mV M) (M.1 60 11) (mH M) (M.1 60 12) (M.1 60 13) (M.1 60 14)) z))), (2, .int (nI (z + 1))), (3, .int (nI (sPrice (mV M) (M.1 60 11) z))), (4, .int (nI 1))] rfl dX7_findBest_79 (by decide) rfl rfl ?_
              refine g_goto (pc := 82) 9 dX7_findBest_82 (by decide) ?_
              refine g_mm (pc := 9) (M' := gU M 60 21 (sPrice (mV M) (M.1 60 11) (sBest (mV M) (M.1 60 11) (goodM (mV M) (M.1 60 11) (mH M) (M.1 60 12) (M.1 60 13) (M.1 60 14)) (z + 1)))) (by rw [sBest_n2 (good := (goodM (mV M) (M.1 60 11) (mH M) (M.1 60 12) (M.1 60 13) (M.1 60 14))) h69]) ?_
              refine g_pick (pc := 9) [0, 1, 2] [(0, .ref (gAd E 60)), (1, .int (nI (sBest (mV M) (M.1 60 11) (goodM (mV M) (M.1 60 11) (mH M) (M.1 60 12) (M.1 60 13) (M.1 60 14)) z))), (2, .int (nI (z + 1)))] rfl ?_
              refine g_lv (pc := 9) (lv' := [(0, .ref (gAd E 60)), (1, .int (nI (sBest (mV M) (M.1 60 11) (goodM (mV M) (M.1 60 11) (mH M) (M.1 60 12) (M.1 60 13) (M.1 60 14)) (z + 1)))), (2, .int (nI (z + 1)))]) (by rw [sBest_n2 (good := (goodM (mV M) (M.1 60 11) (mH M) (M.1 60 12) (M.1 60 13) (M.1 60 14))) h69]) ?_
              exact ihz (by omega)
            · refine g_iload_n (pc := 72) 2 rfl rfl dX7_findBest_72 ?_
              refine g_istore_n (pc := 73) rfl [(0, .ref (gAd E 60)), (1, .int (nI z)), (2, .int (nI z)), (3, .int (nI (sPrice (mV M) (M.1 60 11) z))), (4, .int (nI 1))] dX7_findBest_73 (by decide) rfl rfl ?_
              refine g_aload_n (pc := 74) 0 rfl rfl dX7_findBest_74 ?_
              refine g_iload_n (pc := 75) 3 rfl rfl dX7_findBest_75 ?_
              refine uX7_171 (pc := 76) rfl hR.s0 dX7_findBest_76 ?_
              refine g_iincN (pc := 79) 1 2 [(0, .ref (gAd E 60)), (1, .int (nI z)), (2, .int (nI (z + 1))), (3, .int (nI (sPrice (mV M) (M.1 60 11) z))), (4, .int (nI 1))] rfl dX7_findBest_79 (by decide) rfl rfl ?_
              refine g_goto (pc := 82) 9 dX7_findBest_82 (by decide) ?_
              refine g_mm (pc := 9) (M' := gU M 60 21 (sPrice (mV M) (M.1 60 11) (sBest (mV M) (M.1 60 11) (goodM (mV M) (M.1 60 11) (mH M) (M.1 60 12) (M.1 60 13) (M.1 60 14)) (z + 1)))) (by rw [gU_gU, sBest_p (good := (goodM (mV M) (M.1 60 11) (mH M) (M.1 60 12) (M.1 60 13) (M.1 60 14))) hbet h69]) ?_
              refine g_pick (pc := 9) [0, 1, 2] [(0, .ref (gAd E 60)), (1, .int (nI z)), (2, .int (nI (z + 1)))] rfl ?_
              refine g_lv (pc := 9) (lv' := [(0, .ref (gAd E 60)), (1, .int (nI (sBest (mV M) (M.1 60 11) (goodM (mV M) (M.1 60 11) (mH M) (M.1 60 12) (M.1 60 13) (M.1 60 14)) (z + 1)))), (2, .int (nI (z + 1)))]) (by rw [sBest_p (good := (goodM (mV M) (M.1 60 11) (mH M) (M.1 60 12) (M.1 60 13) (M.1 60 14))) hbet h69]) ?_
              exact ihz (by omega)
  refine g_mm (pc := 9) (M' := gU M 60 21 (sPrice (mV M) (M.1 60 11) (sBest (mV M) (M.1 60 11) (goodM (mV M) (M.1 60 11) (mH M) (M.1 60 12) (M.1 60 13) (M.1 60 14)) 1))) (by rw [show sBest (mV M) (M.1 60 11) (goodM (mV M) (M.1 60 11) (mH M) (M.1 60 12) (M.1 60 13) (M.1 60 14)) 1 = 0 from Nat.le_zero.mp (by have := sBest_le (V := mV M) (n := M.1 60 11) (good := (goodM (mV M) (M.1 60 11) (mH M) (M.1 60 12) (M.1 60 13) (M.1 60 14))) 0; rw [show sBest (mV M) (M.1 60 11) (goodM (mV M) (M.1 60 11) (mH M) (M.1 60 12) (M.1 60 13) (M.1 60 14)) 1 = sBest (mV M) (M.1 60 11) (goodM (mV M) (M.1 60 11) (mH M) (M.1 60 12) (M.1 60 13) (M.1 60 14)) 0 from sBest_n1 (by simp only [sBest, sBet]; simp)]; exact this), sPrice_0]) ?_
  refine g_lv (pc := 9) (lv' := [(0, .ref (gAd E 60)), (1, .int (nI (sBest (mV M) (M.1 60 11) (goodM (mV M) (M.1 60 11) (mH M) (M.1 60 12) (M.1 60 13) (M.1 60 14)) 1))), (2, .int (nI 1))]) (by rw [show sBest (mV M) (M.1 60 11) (goodM (mV M) (M.1 60 11) (mH M) (M.1 60 12) (M.1 60 13) (M.1 60 14)) 1 = 0 from Nat.le_zero.mp (by have := sBest_le (V := mV M) (n := M.1 60 11) (good := (goodM (mV M) (M.1 60 11) (mH M) (M.1 60 12) (M.1 60 13) (M.1 60 14))) 0; rw [show sBest (mV M) (M.1 60 11) (goodM (mV M) (M.1 60 11) (mH M) (M.1 60 12) (M.1 60 13) (M.1 60 14)) 1 = sBest (mV M) (M.1 60 11) (goodM (mV M) (M.1 60 11) (mH M) (M.1 60 12) (M.1 60 13) (M.1 60 14)) 0 from sBest_n1 (by simp only [sBest, sBet]; simp)]; exact this)]) ?_
  exact lp9 1 Nat.one_le_two_pow
set_option maxRecDepth 100000 in
set_option maxHeartbeats 4000000 in
theorem kX7_findWindow (l : Launch) (E : gEnv) (M : gMem) (hR : mR E M) (hO : mO M) (hsg : M.1 66 10 < 1024) (row wk : Nat) (hr : row < 96) (hw : wk ≤ M.1 60 14 + 1) : gMet l E mX7_findWindow 3 [.ref (gAd E 60), .int (nI row), .int (nI wk)] M (fun v u => v = some (.int (gb (decide (sFw (sLf (mV M) (M.1 60 11) (M.1 66 10) row) wk (M.1 60 14 + 1 - wk) ≤ M.1 60 14)))) ∧ u = gU (gU M 60 19 (sFw (sLf (mV M) (M.1 60 11) (M.1 66 10) row) wk (M.1 60 14 + 1 - wk))) 60 20 (sTw (sLf (mV M) (M.1 60 11) (M.1 66 10) row) (sFw (sLf (mV M) (M.1 60 11) (M.1 66 10) row) wk (M.1 60 14 + 1 - wk)) (M.1 60 14 - (sFw (sLf (mV M) (M.1 60 11) (M.1 66 10) row) wk (M.1 60 14 + 1 - wk))))) := by
  have hO' := hO
  obtain ⟨hn, hk, hft, hto, hU, hH⟩ := hO
  have hO := hO'
  refine gMet_of (mm := mX7_findWindow) (h := 3) (M := M) [(0, .ref (gAd E 60)), (1, .int (nI row)), (2, .int (nI wk))] (by decide) (Nat.le_of_ble_eq_true rfl) rfl ?_
  refine g_aload_n (pc := 0) 0 rfl rfl dX7_findWindow_0 ?_
  refine g_iload_n (pc := 1) 2 rfl rfl dX7_findWindow_1 ?_
  refine uX7_162 (pc := 2) rfl hR.s0 dX7_findWindow_2 ?_
  have lp5 : ∀ f, f ≤ M.1 60 14 + 1 → (wk ≤ f) → (sFw (sLf (mV M) (M.1 60 11) (M.1 66 10) row) wk (M.1 60 14 + 1 - wk) = sFw (sLf (mV M) (M.1 60 11) (M.1 66 10) row) f (M.1 60 14 + 1 - f)) → gG l (gV0 3 E (fun v u => v = some (.int (gb (decide (sFw (sLf (mV M) (M.1 60 11) (M.1 66 10) row) wk (M.1 60 14 + 1 - wk) ≤ M.1 60 14)))) ∧ u = gU (gU M 60 19 (sFw (sLf (mV M) (M.1 60 11) (M.1 66 10) row) wk (M.1 60 14 + 1 - wk))) 60 20 (sTw (sLf (mV M) (M.1 60 11) (M.1 66 10) row) (sFw (sLf (mV M) (M.1 60 11) (M.1 66 10) row) wk (M.1 60 14 + 1 - wk)) (M.1 60 14 - (sFw (sLf (mV M) (M.1 60 11) (M.1 66 10) row) wk (M.1 60 14 + 1 - wk)))))) mX7_findWindow E (0, 0) (gU M 60 19 f) 5 [(0, .ref (gAd E 60)), (1, .int (nI row)), (2, .int (nI wk))] [] := by
    refine gloop (fun f hif ihf => ?_)
    intro hf0
    intro he
    refine g_aload_n (pc := 5) 0 rfl rfl dX7_findWindow_5 ?_
    refine fX7_162 (pc := 6) rfl hR.s0 dX7_findWindow_6 ?_
    refine g_topi (pc := 9) (x' := nI f) rfl ?_
    refine g_aload_n (pc := 9) 0 rfl rfl dX7_findWindow_9 ?_
    refine fX7_70 (pc := 10) rfl hR.s0 dX7_findWindow_10 ?_
    refine g_topi (pc := 13) (x' := nI (M.1 60 14)) rfl ?_
    refine g_icmpN_gt (pc := 13) 41 dX7_findWindow_13 (by decide) (by omega) (by omega) (fun h13 => ?_) (fun h13 => ?_)
    · have hfw : sFw (sLf (mV M) (M.1 60 11) (M.1 66 10) row) wk (M.1 60 14 + 1 - wk) = f := by rw [he, show M.1 60 14 + 1 - f = 0 by omega]; rfl
      refine g_aload_n (pc := 41) 0 rfl rfl dX7_findWindow_41 ?_
      refine g_aload_n (pc := 42) 0 rfl rfl dX7_findWindow_42 ?_
      refine fX7_162 (pc := 43) rfl hR.s0 dX7_findWindow_43 ?_
      refine g_topi (pc := 46) (x' := nI f) rfl ?_
      refine uX7_165 (pc := 46) rfl hR.s0 dX7_findWindow_46 ?_
      have lp49 : ∀ t, t ≤ M.1 60 14 + 1 → (f ≤ t) → (sTw (sLf (mV M) (M.1 60 11) (M.1 66 10) row) f (M.1 60 14 - f) = sTw (sLf (mV M) (M.1 60 11) (M.1 66 10) row) t (M.1 60 14 - t)) → gG l (gV0 3 E (fun v u => v = some (.int (gb (decide (sFw (sLf (mV M) (M.1 60 11) (M.1 66 10) row) wk (M.1 60 14 + 1 - wk) ≤ M.1 60 14)))) ∧ u = gU (gU M 60 19 (sFw (sLf (mV M) (M.1 60 11) (M.1 66 10) row) wk (M.1 60 14 + 1 - wk))) 60 20 (sTw (sLf (mV M) (M.1 60 11) (M.1 66 10) row) (sFw (sLf (mV M) (M.1 60 11) (M.1 66 10) row) wk (M.1 60 14 + 1 - wk)) (M.1 60 14 - (sFw (sLf (mV M) (M.1 60 11) (M.1 66 10) row) wk (M.1 60 14 + 1 - wk)))))) mX7_findWindow E (0, 0) (gU (gU M 60 19 f) 60 20 t) 49 [(0, .ref (gAd E 60)), (1, .int (nI row)), (2, .int (nI wk))] [] := by
        refine gloop (fun t hit iht => ?_)
        intro hg0
        intro hg
        refine g_aload_n (pc := 49) 0 rfl rfl dX7_findWindow_49 ?_
        refine fX7_165 (pc := 50) rfl hR.s0 dX7_findWindow_50 ?_
        refine g_topi (pc := 53) (x' := nI t) rfl ?_
        refine g_aload_n (pc := 53) 0 rfl rfl dX7_findWindow_53 ?_
        refine fX7_70 (pc := 54) rfl hR.s0 dX7_findWindow_54 ?_
        refine g_topi (pc := 57) (x' := nI (M.1 60 14)) rfl ?_
        refine g_icmpN_ge (pc := 57) 87 dX7_findWindow_57 (by decide) (by omega) (by omega) (fun h57 => ?_) (fun h57 => ?_)
        · have htw : sTw (sLf (mV M) (M.1 60 11) (M.1 66 10) row) f (M.1 60 14 - f) = t := by rw [hg, show M.1 60 14 - t = 0 by omega]; rfl
          refine g_aload_n (pc := 87) 0 rfl rfl dX7_findWindow_87 ?_
          refine fX7_162 (pc := 88) rfl hR.s0 dX7_findWindow_88 ?_
          refine g_topi (pc := 91) (x' := nI f) rfl ?_
          refine g_aload_n (pc := 91) 0 rfl rfl dX7_findWindow_91 ?_
          refine fX7_70 (pc := 92) rfl hR.s0 dX7_findWindow_92 ?_
          refine g_topi (pc := 95) (x' := nI (M.1 60 14)) rfl ?_
          refine g_icmpN_gt (pc := 95) 102 dX7_findWindow_95 (by decide) (by omega) (by omega) (fun h95 => ?_) (fun h95 => ?_)
          · refine g_iconst (pc := 102) (nI 0) (by decide) dX7_findWindow_102 ?_
            refine g_topi (pc := 103) (x' := gb false) (by decide) ?_
            exact g_zret (pc := 103) rfl dX7_findWindow_103 ⟨congrArg (fun z => some (Value.int (gb z))) (bf_of (by rw [hfw, decide_eq_true_iff]; omega)), by rw [hfw, htw]⟩
          · refine g_iconst (pc := 98) (nI 1) (by decide) dX7_findWindow_98 ?_
            refine g_goto (pc := 99) 103 dX7_findWindow_99 (by decide) ?_
            refine g_topi (pc := 103) (x' := gb true) (by decide) ?_
            exact g_zret (pc := 103) rfl dX7_findWindow_103 ⟨congrArg (fun z => some (Value.int (gb z))) (bt_of (by rw [hfw, decide_eq_true_iff]; omega)), by rw [hfw, htw]⟩
        · refine g_aload_n (pc := 60) 0 rfl rfl dX7_findWindow_60 ?_
          refine g_iload_n (pc := 61) 1 rfl rfl dX7_findWindow_61 ?_
          refine g_aload_n (pc := 62) 0 rfl rfl dX7_findWindow_62 ?_
          refine fX7_165 (pc := 63) rfl hR.s0 dX7_findWindow_63 ?_
          refine g_topi (pc := 66) (x' := nI t) rfl ?_
          refine g_iconst (pc := 66) (nI 1) (by decide) dX7_findWindow_66 ?_
          refine g_iaddN (pc := 67) dX7_findWindow_67 ?_
          refine g_callV (pc := 68) (mc := mX7_soldAt) (rest := []) lX7_156 iX7_soldAt (kX7_soldAt l E (gU (gU M 60 19 f) 60 20 t) hR hO hsg row (t + 1) (by omega) (by omega)) ⟨Nat.le_of_ble_eq_true rfl, Nat.le_of_ble_eq_true rfl⟩ hR.s0 (by decide) (by decide) rfl rfl rfl rfl (Nat.le_of_ble_eq_true rfl) ⟨Nat.zero_le _, Nat.zero_le _⟩ dX7_findWindow_68 (g_rI ?_)
          have hsl := sSold_le (V := mV M) (n := M.1 60 11) (sg := M.1 66 10) (row := row) (wk := t + 1)
          refine g_topi (pc := 71) (x' := nI (sSold (mV M) (M.1 60 11) (M.1 66 10) row (t + 1))) rfl ?_
          refine g_ifN_ne (pc := 71) 87 dX7_findWindow_71 (by decide) (by omega) (fun h71 => ?_) (fun h71 => ?_)
          · have htw : sTw (sLf (mV M) (M.1 60 11) (M.1 66 10) row) f (M.1 60 14 - f) = t := by rw [hg, sTw_s (by omega), if_neg (by simp only [sLf, beq_iff_eq]; omega)]
            refine g_aload_n (pc := 87) 0 rfl rfl dX7_findWindow_87 ?_
            refine fX7_162 (pc := 88) rfl hR.s0 dX7_findWindow_88 ?_
            refine g_topi (pc := 91) (x' := nI f) rfl ?_
            refine g_aload_n (pc := 91) 0 rfl rfl dX7_findWindow_91 ?_
            refine fX7_70 (pc := 92) rfl hR.s0 dX7_findWindow_92 ?_
            refine g_topi (pc := 95) (x' := nI (M.1 60 14)) rfl ?_
            refine g_icmpN_gt (pc := 95) 102 dX7_findWindow_95 (by decide) (by omega) (by omega) (fun h95 => ?_) (fun h95 => ?_)
            · refine g_iconst (pc := 102) (nI 0) (by decide) dX7_findWindow_102 ?_
              refine g_topi (pc := 103) (x' := gb false) (by decide) ?_
              exact g_zret (pc := 103) rfl dX7_findWindow_103 ⟨congrArg (fun z => some (Value.int (gb z))) (bf_of (by rw [hfw, decide_eq_true_iff]; omega)), by rw [hfw, htw]⟩
            · refine g_iconst (pc := 98) (nI 1) (by decide) dX7_findWindow_98 ?_
              refine g_goto (pc := 99) 103 dX7_findWindow_99 (by decide) ?_
              refine g_topi (pc := 103) (x' := gb true) (by decide) ?_
              exact g_zret (pc := 103) rfl dX7_findWindow_103 ⟨congrArg (fun z => some (Value.int (gb z))) (bt_of (by rw [hfw, decide_eq_true_iff]; omega)), by rw [hfw, htw]⟩
          · refine g_aload_n (pc := 74) 0 rfl rfl dX7_findWindow_74 ?_
            refine g_dup (pc := 75) rfl dX7_findWindow_75 ?_
            refine fX7_165 (pc := 76) rfl hR.s0 dX7_findWindow_76 ?_
            refine g_topi (pc := 79) (x' := nI t) rfl ?_
            refine g_iconst (pc := 79) (nI 1) (by decide) dX7_findWindow_79 ?_
            refine g_iaddN (pc := 80) dX7_findWindow_80 ?_
            refine uX7_165 (pc := 81) rfl hR.s0 dX7_findWindow_81 ?_
            refine g_goto (pc := 84) 49 dX7_findWindow_84 (by decide) ?_
            refine g_mm (pc := 49) (M' := gU (gU M 60 19 f) 60 20 (t + 1)) gU_gU ?_
            exact iht (by omega) (by omega) (by rw [hg, sTw_s (by omega), if_pos (by simp only [sLf, beq_iff_eq]; omega)])
      exact lp49 f (by omega) (Nat.le_refl _) rfl
    · refine g_aload_n (pc := 16) 0 rfl rfl dX7_findWindow_16 ?_
      refine g_iload_n (pc := 17) 1 rfl rfl dX7_findWindow_17 ?_
      refine g_aload_n (pc := 18) 0 rfl rfl dX7_findWindow_18 ?_
      refine fX7_162 (pc := 19) rfl hR.s0 dX7_findWindow_19 ?_
      refine g_topi (pc := 22) (x' := nI f) rfl ?_
      refine g_callV (pc := 22) (mc := mX7_soldAt) (rest := []) lX7_156 iX7_soldAt (kX7_soldAt l E (gU M 60 19 f) hR hO hsg row f (by omega) (by omega)) ⟨Nat.le_of_ble_eq_true rfl, Nat.le_of_ble_eq_true rfl⟩ hR.s0 (by decide) (by decide) rfl rfl rfl rfl (Nat.le_of_ble_eq_true rfl) ⟨Nat.zero_le _, Nat.zero_le _⟩ dX7_findWindow_22 (g_rI ?_)
      have hsl := sSold_le (V := mV M) (n := M.1 60 11) (sg := M.1 66 10) (row := row) (wk := f)
      refine g_topi (pc := 25) (x' := nI (sSold (mV M) (M.1 60 11) (M.1 66 10) row f)) rfl ?_
      refine g_ifN_le (pc := 25) 41 dX7_findWindow_25 (by decide) (by omega) (fun h25 => ?_) (fun h25 => ?_)
      · have hfw : sFw (sLf (mV M) (M.1 60 11) (M.1 66 10) row) wk (M.1 60 14 + 1 - wk) = f := by rw [he, sFw_s (by omega), if_pos (by simp only [sLf, beq_iff_eq]; omega)]
        refine g_aload_n (pc := 41) 0 rfl rfl dX7_findWindow_41 ?_
        refine g_aload_n (pc := 42) 0 rfl rfl dX7_findWindow_42 ?_
        refine fX7_162 (pc := 43) rfl hR.s0 dX7_findWindow_43 ?_
        refine g_topi (pc := 46) (x' := nI f) rfl ?_
        refine uX7_165 (pc := 46) rfl hR.s0 dX7_findWindow_46 ?_
        have lp49 : ∀ t, t ≤ M.1 60 14 + 1 → (f ≤ t) → (sTw (sLf (mV M) (M.1 60 11) (M.1 66 10) row) f (M.1 60 14 - f) = sTw (sLf (mV M) (M.1 60 11) (M.1 66 10) row) t (M.1 60 14 - t)) → gG l (gV0 3 E (fun v u => v = some (.int (gb (decide (sFw (sLf (mV M) (M.1 60 11) (M.1 66 10) row) wk (M.1 60 14 + 1 - wk) ≤ M.1 60 14)))) ∧ u = gU (gU M 60 19 (sFw (sLf (mV M) (M.1 60 11) (M.1 66 10) row) wk (M.1 60 14 + 1 - wk))) 60 20 (sTw (sLf (mV M) (M.1 60 11) (M.1 66 10) row) (sFw (sLf (mV M) (M.1 60 11) (M.1 66 10) row) wk (M.1 60 14 + 1 - wk)) (M.1 60 14 - (sFw (sLf (mV M) (M.1 60 11) (M.1 66 10) row) wk (M.1 60 14 + 1 - wk)))))) mX7_findWindow E (0, 0) (gU (gU M 60 19 f) 60 20 t) 49 [(0, .ref (gAd E 60)), (1, .int (nI row)), (2, .int (nI wk))] [] := by
          refine gloop (fun t hit iht => ?_)
          intro hg0
          intro hg
          refine g_aload_n (pc := 49) 0 rfl rfl dX7_findWindow_49 ?_
          refine fX7_165 (pc := 50) rfl hR.s0 dX7_findWindow_50 ?_
          refine g_topi (pc := 53) (x' := nI t) rfl ?_
          refine g_aload_n (pc := 53) 0 rfl rfl dX7_findWindow_53 ?_
          refine fX7_70 (pc := 54) rfl hR.s0 dX7_findWindow_54 ?_
          refine g_topi (pc := 57) (x' := nI (M.1 60 14)) rfl ?_
          refine g_icmpN_ge (pc := 57) 87 dX7_findWindow_57 (by decide) (by omega) (by omega) (fun h57 => ?_) (fun h57 => ?_)
          · have htw : sTw (sLf (mV M) (M.1 60 11) (M.1 66 10) row) f (M.1 60 14 - f) = t := by rw [hg, show M.1 60 14 - t = 0 by omega]; rfl
            refine g_aload_n (pc := 87) 0 rfl rfl dX7_findWindow_87 ?_
            refine fX7_162 (pc := 88) rfl hR.s0 dX7_findWindow_88 ?_
            refine g_topi (pc := 91) (x' := nI f) rfl ?_
            refine g_aload_n (pc := 91) 0 rfl rfl dX7_findWindow_91 ?_
            refine fX7_70 (pc := 92) rfl hR.s0 dX7_findWindow_92 ?_
            refine g_topi (pc := 95) (x' := nI (M.1 60 14)) rfl ?_
            refine g_icmpN_gt (pc := 95) 102 dX7_findWindow_95 (by decide) (by omega) (by omega) (fun h95 => ?_) (fun h95 => ?_)
            · refine g_iconst (pc := 102) (nI 0) (by decide) dX7_findWindow_102 ?_
              refine g_topi (pc := 103) (x' := gb false) (by decide) ?_
              exact g_zret (pc := 103) rfl dX7_findWindow_103 ⟨congrArg (fun z => some (Value.int (gb z))) (bf_of (by rw [hfw, decide_eq_true_iff]; omega)), by rw [hfw, htw]⟩
            · refine g_iconst (pc := 98) (nI 1) (by decide) dX7_findWindow_98 ?_
              refine g_goto (pc := 99) 103 dX7_findWindow_99 (by decide) ?_
              refine g_topi (pc := 103) (x' := gb true) (by decide) ?_
              exact g_zret (pc := 103) rfl dX7_findWindow_103 ⟨congrArg (fun z => some (Value.int (gb z))) (bt_of (by rw [hfw, decide_eq_true_iff]; omega)), by rw [hfw, htw]⟩
          · refine g_aload_n (pc := 60) 0 rfl rfl dX7_findWindow_60 ?_
            refine g_iload_n (pc := 61) 1 rfl rfl dX7_findWindow_61 ?_
            refine g_aload_n (pc := 62) 0 rfl rfl dX7_findWindow_62 ?_
            refine fX7_165 (pc := 63) rfl hR.s0 dX7_findWindow_63 ?_
            refine g_topi (pc := 66) (x' := nI t) rfl ?_
            refine g_iconst (pc := 66) (nI 1) (by decide) dX7_findWindow_66 ?_
            refine g_iaddN (pc := 67) dX7_findWindow_67 ?_
            refine g_callV (pc := 68) (mc := mX7_soldAt) (rest := []) lX7_156 iX7_soldAt (kX7_soldAt l E (gU (gU M 60 19 f) 60 20 t) hR hO hsg row (t + 1) (by omega) (by omega)) ⟨Nat.le_of_ble_eq_true rfl, Nat.le_of_ble_eq_true rfl⟩ hR.s0 (by decide) (by decide) rfl rfl rfl rfl (Nat.le_of_ble_eq_true rfl) ⟨Nat.zero_le _, Nat.zero_le _⟩ dX7_findWindow_68 (g_rI ?_)
            have hsl := sSold_le (V := mV M) (n := M.1 60 11) (sg := M.1 66 10) (row := row) (wk := t + 1)
            refine g_topi (pc := 71) (x' := nI (sSold (mV M) (M.1 60 11) (M.1 66 10) row (t + 1))) rfl ?_
            refine g_ifN_ne (pc := 71) 87 dX7_findWindow_71 (by decide) (by omega) (fun h71 => ?_) (fun h71 => ?_)
            · have htw : sTw (sLf (mV M) (M.1 60 11) (M.1 66 10) row) f (M.1 60 14 - f) = t := by rw [hg, sTw_s (by omega), if_neg (by simp only [sLf, beq_iff_eq]; omega)]
              refine g_aload_n (pc := 87) 0 rfl rfl dX7_findWindow_87 ?_
              refine fX7_162 (pc := 88) rfl hR.s0 dX7_findWindow_88 ?_
              refine g_topi (pc := 91) (x' := nI f) rfl ?_
              refine g_aload_n (pc := 91) 0 rfl rfl dX7_findWindow_91 ?_
              refine fX7_70 (pc := 92) rfl hR.s0 dX7_findWindow_92 ?_
              refine g_topi (pc := 95) (x' := nI (M.1 60 14)) rfl ?_
              refine g_icmpN_gt (pc := 95) 102 dX7_findWindow_95 (by decide) (by omega) (by omega) (fun h95 => ?_) (fun h95 => ?_)
              · refine g_iconst (pc := 102) (nI 0) (by decide) dX7_findWindow_102 ?_
                refine g_topi (pc := 103) (x' := gb false) (by decide) ?_
                exact g_zret (pc := 103) rfl dX7_findWindow_103 ⟨congrArg (fun z => some (Value.int (gb z))) (bf_of (by rw [hfw, decide_eq_true_iff]; omega)), by rw [hfw, htw]⟩
              · refine g_iconst (pc := 98) (nI 1) (by decide) dX7_findWindow_98 ?_
                refine g_goto (pc := 99) 103 dX7_findWindow_99 (by decide) ?_
                refine g_topi (pc := 103) (x' := gb true) (by decide) ?_
                exact g_zret (pc := 103) rfl dX7_findWindow_103 ⟨congrArg (fun z => some (Value.int (gb z))) (bt_of (by rw [hfw, decide_eq_true_iff]; omega)), by rw [hfw, htw]⟩
            · refine g_aload_n (pc := 74) 0 rfl rfl dX7_findWindow_74 ?_
              refine g_dup (pc := 75) rfl dX7_findWindow_75 ?_
              refine fX7_165 (pc := 76) rfl hR.s0 dX7_findWindow_76 ?_
              refine g_topi (pc := 79) (x' := nI t) rfl ?_
              refine g_iconst (pc := 79) (nI 1) (by decide) dX7_findWindow_79 ?_
              refine g_iaddN (pc := 80) dX7_findWindow_80 ?_
              refine uX7_165 (pc := 81) rfl hR.s0 dX7_findWindow_81 ?_
              refine g_goto (pc := 84) 49 dX7_findWindow_84 (by decide) ?_
              refine g_mm (pc := 49) (M' := gU (gU M 60 19 f) 60 20 (t + 1)) gU_gU ?_
              exact iht (by omega) (by omega) (by rw [hg, sTw_s (by omega), if_pos (by simp only [sLf, beq_iff_eq]; omega)])
        exact lp49 f (by omega) (Nat.le_refl _) rfl
      · refine g_aload_n (pc := 28) 0 rfl rfl dX7_findWindow_28 ?_
        refine g_dup (pc := 29) rfl dX7_findWindow_29 ?_
        refine fX7_162 (pc := 30) rfl hR.s0 dX7_findWindow_30 ?_
        refine g_topi (pc := 33) (x' := nI f) rfl ?_
        refine g_iconst (pc := 33) (nI 1) (by decide) dX7_findWindow_33 ?_
        refine g_iaddN (pc := 34) dX7_findWindow_34 ?_
        refine uX7_162 (pc := 35) rfl hR.s0 dX7_findWindow_35 ?_
        refine g_goto (pc := 38) 5 dX7_findWindow_38 (by decide) ?_
        refine g_mm (pc := 5) (M' := gU M 60 19 (f + 1)) gU_gU ?_
        exact ihf (by omega) (by omega) (by rw [he, sFw_s (by omega), if_neg (by simp only [sLf, beq_iff_eq]; omega)])
  exact lp5 wk (by omega) (Nat.le_refl _) rfl
