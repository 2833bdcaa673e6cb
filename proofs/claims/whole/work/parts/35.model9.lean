set_option maxRecDepth 100000 in
set_option maxHeartbeats 4000000 in
theorem kX7_window (l : Launch) (E : gEnv) (M : gMem) (hR : mR E M) (hO : mO M) (hsg : M.1 66 10 < 1024) (x y z kk q : Int32) : gMet l E mX7_window 4 [.ref (gAd E 60), .int x, .int y, .int z, .int kk, .int q] M (fun v u => v = some (.int (fCell x y z (fun i j k => if -1 ≤ kk then fTwo q (sWi (sLf (mV M) (M.1 60 11) (M.1 66 10) (16 * i + 4 * j + k)) (M.1 60 14) kk (nI 0) 60 (M.1 60 13) 0) (sWi (sLf (mV M) (M.1 60 11) (M.1 66 10) (16 * i + 4 * j + k)) (M.1 60 14) kk (nI 1) 60 (M.1 60 13) 0) (-1) else -1) (-1))) ∧ mWn M u) := by
  have hO' := hO
  obtain ⟨hn, hk, hft, hto, hU, hH⟩ := hO
  have hO := hO'
  refine gMet_of (mm := mX7_window) (h := 4) (M := M) [(0, .ref (gAd E 60)), (1, .int x), (2, .int y), (3, .int z), (4, .int kk), (5, .int q)] (by decide) (Nat.le_of_ble_eq_true rfl) rfl ?_
  refine g_iload_n (pc := 0) 1 rfl rfl dX7_window_0 ?_
  refine g_iload_n (pc := 1) 2 rfl rfl dX7_window_1 ?_
  refine g_iload_n (pc := 2) 3 rfl rfl dX7_window_2 ?_
  refine g_callS (pc := 3) (mc := mX7_isRow) (rest := []) lX7_153 iX7_isRow (kX7_isRow l E M (x) (y) (z)) ⟨Nat.le_of_ble_eq_true rfl, Nat.le_of_ble_eq_true rfl⟩ rfl rfl (Nat.le_of_ble_eq_true rfl) ⟨Nat.zero_le _, Nat.zero_le _⟩ dX7_window_3 (g_rI ?_)
  refine g_ifB_eq (pc := 6) 25 dX7_window_6 (by decide) (fun h6 => ?_) (fun h6 => ?_)
  · refine g_iconst (pc := 25) ((-1)) (by decide) dX7_window_25 ?_
    exact g_iret (pc := 26) rfl dX7_window_26 ⟨congrArg (fun z => some (Value.int z)) (by rw [fCell_out (inG3 ▸ h6)]), Or.inl rfl⟩
  · rw [inG3] at h6
    simp only [Bool.and_eq_true] at h6
    obtain ⟨⟨hx, hy⟩, hz⟩ := h6
    obtain ⟨i, hi, rfl⟩ := inR_of hx
    obtain ⟨j, hj, rfl⟩ := inR_of hy
    obtain ⟨k, hk0, rfl⟩ := inR_of hz
    refine g_iload (pc := 9) 4 rfl dX7_window_9 ?_
    refine g_iconst (pc := 11) ((-1)) (by decide) dX7_window_11 ?_
    refine g_icmp_lt (pc := 12) 25 dX7_window_12 (by decide) (fun h12 => ?_) (fun h12 => ?_)
    · refine g_iconst (pc := 25) ((-1)) (by decide) dX7_window_25 ?_
      exact g_iret (pc := 26) rfl dX7_window_26 ⟨congrArg (fun z => some (Value.int z)) (by rw [fCell_in hi hj hk0, if_neg (Int32.not_le.mpr h12)]), Or.inl rfl⟩
    · refine g_iload (pc := 15) 5 rfl dX7_window_15 ?_
      refine g_iconst (pc := 17) (nI 0) (by decide) dX7_window_17 ?_
      refine g_iconst (pc := 18) (nI 1) (by decide) dX7_window_18 ?_
      refine g_callS (pc := 19) (mc := mX7_in) (rest := []) lX7_82 iX7_in (kX7_inG l E M (q) 0 1 (by omega) (by omega)) ⟨Nat.le_of_ble_eq_true rfl, Nat.le_of_ble_eq_true rfl⟩ rfl rfl (Nat.le_of_ble_eq_true rfl) ⟨Nat.zero_le _, Nat.zero_le _⟩ dX7_window_19 (g_rI ?_)
      refine g_ifB_ne (pc := 22) 27 dX7_window_22 (by decide) (fun h22 => ?_) (fun h22 => ?_)
      · have h12 := Int32.not_lt.mp h12
        obtain ⟨qq, hqq, rfl⟩ := inG_tR h22
        rcases (show qq = 0 ∨ qq = 1 by omega) with rfl | rfl
        · refine g_bipush (pc := 27) (nI 16) (by decide) dX7_window_27 ?_
          refine g_iload_n (pc := 29) 1 rfl rfl dX7_window_29 ?_
          refine g_imulN (pc := 30) dX7_window_30 ?_
          refine g_iconst (pc := 31) (nI 4) (by decide) dX7_window_31 ?_
          refine g_iload_n (pc := 32) 2 rfl rfl dX7_window_32 ?_
          refine g_imulN (pc := 33) dX7_window_33 ?_
          refine g_iaddN (pc := 34) dX7_window_34 ?_
          refine g_iload_n (pc := 35) 3 rfl rfl dX7_window_35 ?_
          refine g_iaddN (pc := 36) dX7_window_36 ?_
          refine g_istore (pc := 37) [(0, .ref (gAd E 60)), (1, .int (nI i)), (2, .int (nI j)), (3, .int (nI k)), (4, .int kk), (5, .int (nI 0)), (6, .int (nI (((16 * i) + (4 * j)) + k)))] dX7_window_37 (by decide) rfl rfl ?_
          refine g_iconst (pc := 39) (nI 0) (by decide) dX7_window_39 ?_
          refine g_istore (pc := 40) [(0, .ref (gAd E 60)), (1, .int (nI i)), (2, .int (nI j)), (3, .int (nI k)), (4, .int kk), (5, .int (nI 0)), (6, .int (nI (((16 * i) + (4 * j)) + k))), (7, .int (nI 0))] dX7_window_40 (by decide) rfl rfl ?_
          refine g_aload_n (pc := 42) 0 rfl rfl dX7_window_42 ?_
          refine fX7_67 (pc := 43) rfl hR.s0 dX7_window_43 ?_
          refine g_istore (pc := 46) [(0, .ref (gAd E 60)), (1, .int (nI i)), (2, .int (nI j)), (3, .int (nI k)), (4, .int kk), (5, .int (nI 0)), (6, .int (nI (((16 * i) + (4 * j)) + k))), (7, .int (nI 0)), (8, .int (nI (M.1 60 13)))] dX7_window_46 (by decide) rfl rfl ?_
          have lp : ∀ (d wk c a1 a2 : Nat), wk ≤ M.1 60 14 + 1 → M.1 60 14 + 1 - wk < d → c ≤ wk → sWi (sLf (mV M) (M.1 60 11) (M.1 66 10) (16 * i + 4 * j + k)) (M.1 60 14) kk (nI 0) 60 (M.1 60 13) 0 = sWi (sLf (mV M) (M.1 60 11) (M.1 66 10) (16 * i + 4 * j + k)) (M.1 60 14) kk (nI 0) d wk c → gG l (gV0 4 E (fun v u => v = some (.int (fCell (nI i) (nI j) (nI k) (fun i j k => if -1 ≤ kk then fTwo (nI 0) (sWi (sLf (mV M) (M.1 60 11) (M.1 66 10) (16 * i + 4 * j + k)) (M.1 60 14) kk (nI 0) 60 (M.1 60 13) 0) (sWi (sLf (mV M) (M.1 60 11) (M.1 66 10) (16 * i + 4 * j + k)) (M.1 60 14) kk (nI 1) 60 (M.1 60 13) 0) (-1) else -1) (-1))) ∧ mWn M u)) mX7_window E (0, 0) (gU (gU M 60 19 a1) 60 20 a2) 48 [(0, .ref (gAd E 60)), (1, .int (nI i)), (2, .int (nI j)), (3, .int (nI k)), (4, .int kk), (5, .int (nI 0)), (6, .int (nI (16 * i + 4 * j + k))), (7, .int (nI c)), (8, .int (nI wk))] [] := by
            intro d
            induction d with
            | zero => intro wk c a1 a2 h1 h2; exact absurd h2 (Nat.not_lt_zero _)
            | succ d ih =>
              intro wk c a1 a2 hwk hd hcw he
              have hfl := sFw_le (p := (sLf (mV M) (M.1 60 11) (M.1 66 10) (16 * i + 4 * j + k))) (M.1 60 14 + 1 - wk) wk
              have htl := sTw_le (p := (sLf (mV M) (M.1 60 11) (M.1 66 10) (16 * i + 4 * j + k))) (M.1 60 14 - (sFw (sLf (mV M) (M.1 60 11) (M.1 66 10) (16 * i + 4 * j + k)) wk (M.1 60 14 + 1 - wk))) (sFw (sLf (mV M) (M.1 60 11) (M.1 66 10) (16 * i + 4 * j + k)) wk (M.1 60 14 + 1 - wk))
              refine g_aload_n (pc := 48) 0 rfl rfl dX7_window_48 ?_
              refine g_iload (pc := 49) 6 rfl dX7_window_49 ?_
              refine g_iload (pc := 51) 8 rfl dX7_window_51 ?_
              refine g_callV (pc := 53) (mc := mX7_findWindow) (rest := []) lX7_168 iX7_findWindow (kX7_findWindow l E (gU (gU M 60 19 a1) 60 20 a2) hR hO hsg (16 * i + 4 * j + k) wk (by omega) hwk) ⟨Nat.le_of_ble_eq_true rfl, Nat.le_of_ble_eq_true rfl⟩ hR.s0 (by decide) (by decide) rfl rfl rfl rfl (Nat.le_of_ble_eq_true rfl) ⟨Nat.zero_le _, Nat.zero_le _⟩ dX7_window_53 ?_
              intro v u hq
              obtain ⟨rfl, rfl⟩ := hq
              refine g_mm (pc := 56) (M' := gU (gU M 60 19 (sFw (sLf (mV M) (M.1 60 11) (M.1 66 10) (16 * i + 4 * j + k)) wk (M.1 60 14 + 1 - wk))) 60 20 (sTw (sLf (mV M) (M.1 60 11) (M.1 66 10) (16 * i + 4 * j + k)) (sFw (sLf (mV M) (M.1 60 11) (M.1 66 10) (16 * i + 4 * j + k)) wk (M.1 60 14 + 1 - wk)) (M.1 60 14 - sFw (sLf (mV M) (M.1 60 11) (M.1 66 10) (16 * i + 4 * j + k)) wk (M.1 60 14 + 1 - wk)))) gU_w4 ?_
              refine g_st (pc := 56) (st' := [.int (gb (decide (sFw (sLf (mV M) (M.1 60 11) (M.1 66 10) (16 * i + 4 * j + k)) wk (M.1 60 14 + 1 - wk) ≤ M.1 60 14)))]) rfl ?_
              refine g_ifB_eq (pc := 56) 97 dX7_window_56 (by decide) (fun h56 => ?_) (fun h56 => ?_)
              · refine g_iload (pc := 97) 4 rfl dX7_window_97 ?_
                refine g_iconst (pc := 99) ((-1)) (by decide) dX7_window_99 ?_
                refine g_icmp_ne (pc := 100) 108 dX7_window_100 (by decide) (fun h100 => ?_) (fun h100 => ?_)
                · refine g_bipush (pc := 108) ((-4)) (by decide) dX7_window_108 ?_
                  exact g_iret (pc := 110) rfl dX7_window_110 ⟨congrArg (fun z => some (Value.int z)) (by rw [fCell_in hi hj hk0, if_pos h12, fTwo_0, he]; simp only [sWi]; rw [if_neg (of_decide_eq_false h56), if_neg h100]), Or.inr ⟨_, _, rfl⟩⟩
                · refine g_iload (pc := 103) 7 rfl dX7_window_103 ?_
                  refine g_goto (pc := 105) 110 dX7_window_105 (by decide) ?_
                  exact g_iret (pc := 110) rfl dX7_window_110 ⟨congrArg (fun z => some (Value.int z)) (by rw [fCell_in hi hj hk0, if_pos h12, fTwo_0, he]; simp only [sWi]; rw [if_neg (of_decide_eq_false h56), if_pos h100]), Or.inr ⟨_, _, rfl⟩⟩
              · refine g_iload (pc := 59) 7 rfl dX7_window_59 ?_
                refine g_iload (pc := 61) 4 rfl dX7_window_61 ?_
                refine g_icmp_ne (pc := 63) 83 dX7_window_63 (by decide) (fun h63 => ?_) (fun h63 => ?_)
                · refine g_iincN (pc := 83) 1 7 [(0, .ref (gAd E 60)), (1, .int (nI i)), (2, .int (nI j)), (3, .int (nI k)), (4, .int kk), (5, .int (nI 0)), (6, .int (nI (16 * i + 4 * j + k))), (7, .int (nI (c + 1))), (8, .int (nI wk))] rfl dX7_window_83 (by decide) rfl rfl ?_
                  refine g_aload_n (pc := 86) 0 rfl rfl dX7_window_86 ?_
                  refine fX7_165 (pc := 87) rfl hR.s0 dX7_window_87 ?_
                  refine g_topi (pc := 90) (x' := nI (sTw (sLf (mV M) (M.1 60 11) (M.1 66 10) (16 * i + 4 * j + k)) (sFw (sLf (mV M) (M.1 60 11) (M.1 66 10) (16 * i + 4 * j + k)) wk (M.1 60 14 + 1 - wk)) (M.1 60 14 - sFw (sLf (mV M) (M.1 60 11) (M.1 66 10) (16 * i + 4 * j + k)) wk (M.1 60 14 + 1 - wk)))) (by simp [gU]) ?_
                  refine g_iconst (pc := 90) (nI 1) (by decide) dX7_window_90 ?_
                  refine g_iaddN (pc := 91) dX7_window_91 ?_
                  refine g_istore (pc := 92) [(0, .ref (gAd E 60)), (1, .int (nI i)), (2, .int (nI j)), (3, .int (nI k)), (4, .int kk), (5, .int (nI 0)), (6, .int (nI (16 * i + 4 * j + k))), (7, .int (nI (c + 1))), (8, .int (nI ((sTw (sLf (mV M) (M.1 60 11) (M.1 66 10) (16 * i + 4 * j + k)) (sFw (sLf (mV M) (M.1 60 11) (M.1 66 10) (16 * i + 4 * j + k)) wk (M.1 60 14 + 1 - wk)) (M.1 60 14 - sFw (sLf (mV M) (M.1 60 11) (M.1 66 10) (16 * i + 4 * j + k)) wk (M.1 60 14 + 1 - wk))) + 1)))] dX7_window_92 (by decide) rfl rfl ?_
                  refine g_goto (pc := 94) 48 dX7_window_94 (by decide) ?_
                  refine g_lv (pc := 48) (lv' := [(0, .ref (gAd E 60)), (1, .int (nI i)), (2, .int (nI j)), (3, .int (nI k)), (4, .int kk), (5, .int (nI 0)), (6, .int (nI (16 * i + 4 * j + k))), (7, .int (nI (c + 1))), (8, .int (nI (sTw (sLf (mV M) (M.1 60 11) (M.1 66 10) (16 * i + 4 * j + k)) (sFw (sLf (mV M) (M.1 60 11) (M.1 66 10) (16 * i + 4 * j + k)) wk (M.1 60 14 + 1 - wk)) (M.1 60 14 - sFw (sLf (mV M) (M.1 60 11) (M.1 66 10) (16 * i + 4 * j + k)) wk (M.1 60 14 + 1 - wk)) + 1)))]) rfl ?_
                  exact ih (sTw (sLf (mV M) (M.1 60 11) (M.1 66 10) (16 * i + 4 * j + k)) (sFw (sLf (mV M) (M.1 60 11) (M.1 66 10) (16 * i + 4 * j + k)) wk (M.1 60 14 + 1 - wk)) (M.1 60 14 - sFw (sLf (mV M) (M.1 60 11) (M.1 66 10) (16 * i + 4 * j + k)) wk (M.1 60 14 + 1 - wk)) + 1) (c + 1) _ _ (by have := of_decide_eq_true h56; omega) (by have := of_decide_eq_true h56; omega) (by omega) (by rw [he]; simp only [sWi]; rw [if_pos (of_decide_eq_true h56), if_neg h63])
                · refine g_iload (pc := 66) 5 rfl dX7_window_66 ?_
                  refine g_ifN_ne (pc := 68) 78 dX7_window_68 (by decide) (by omega) (fun h68 => absurd h68 (by omega)) (fun h68 => ?_)
                  refine g_aload_n (pc := 71) 0 rfl rfl dX7_window_71 ?_
                  refine fX7_162 (pc := 72) rfl hR.s0 dX7_window_72 ?_
                  refine g_topi (pc := 75) (x' := nI (sFw (sLf (mV M) (M.1 60 11) (M.1 66 10) (16 * i + 4 * j + k)) wk (M.1 60 14 + 1 - wk))) (by simp [gU]) ?_
                  refine g_goto (pc := 75) 82 dX7_window_75 (by decide) ?_
                  exact g_iret (pc := 82) rfl dX7_window_82 ⟨congrArg (fun z => some (Value.int z)) (by rw [fCell_in hi hj hk0, if_pos h12, fTwo_0, he]; simp only [sWi]; rw [if_pos (of_decide_eq_true h56), if_pos h63, if_pos trivial]), Or.inr ⟨_, _, rfl⟩⟩
          refine g_mm (pc := 48) (M' := gU (gU M 60 19 (M.1 60 19)) 60 20 (M.1 60 20)) gU_w0.symm ?_
          exact lp 60 (M.1 60 13) 0 _ _ (by omega) (by omega) (by omega) rfl
        · refine g_bipush (pc := 27) (nI 16) (by decide) dX7_window_27 ?_
          refine g_iload_n (pc := 29) 1 rfl rfl dX7_window_29 ?_
          refine g_imulN (pc := 30) dX7_window_30 ?_
          refine g_iconst (pc := 31) (nI 4) (by decide) dX7_window_31 ?_
          refine g_iload_n (pc := 32) 2 rfl rfl dX7_window_32 ?_
          refine g_imulN (pc := 33) dX7_window_33 ?_
          refine g_iaddN (pc := 34) dX7_window_34 ?_
          refine g_iload_n (pc := 35) 3 rfl rfl dX7_window_35 ?_
          refine g_iaddN (pc := 36) dX7_window_36 ?_
          refine g_istore (pc := 37) [(0, .ref (gAd E 60)), (1, .int (nI i)), (2, .int (nI j)), (3, .int (nI k)), (4, .int kk), (5, .int (nI 1)), (6, .int (nI (((16 * i) + (4 * j)) + k)))] dX7_window_37 (by decide) rfl rfl ?_
          refine g_iconst (pc := 39) (nI 0) (by decide) dX7_window_39 ?_
          refine g_istore (pc := 40) [(0, .ref (gAd E 60)), (1, .int (nI i)), (2, .int (nI j)), (3, .int (nI k)), (4, .int kk), (5, .int (nI 1)), (6, .int (nI (((16 * i) + (4 * j)) + k))), (7, .int (nI 0))] dX7_window_40 (by decide) rfl rfl ?_
          refine g_aload_n (pc := 42) 0 rfl rfl dX7_window_42 ?_
          refine fX7_67 (pc := 43) rfl hR.s0 dX7_window_43 ?_
          refine g_istore (pc := 46) [(0, .ref (gAd E 60)), (1, .int (nI i)), (2, .int (nI j)), (3, .int (nI k)), (4, .int kk), (5, .int (nI 1)), (6, .int (nI (((16 * i) + (4 * j)) + k))), (7, .int (nI 0)), (8, .int (nI (M.1 60 13)))] dX7_window_46 (by decide) rfl rfl ?_
          have lp : ∀ (d wk c a1 a2 : Nat), wk ≤ M.1 60 14 + 1 → M.1 60 14 + 1 - wk < d → c ≤ wk → sWi (sLf (mV M) (M.1 60 11) (M.1 66 10) (16 * i + 4 * j + k)) (M.1 60 14) kk (nI 1) 60 (M.1 60 13) 0 = sWi (sLf (mV M) (M.1 60 11) (M.1 66 10) (16 * i + 4 * j + k)) (M.1 60 14) kk (nI 1) d wk c → gG l (gV0 4 E (fun v u => v = some (.int (fCell (nI i) (nI j) (nI k) (fun i j k => if -1 ≤ kk then fTwo (nI 1) (sWi (sLf (mV M) (M.1 60 11) (M.1 66 10) (16 * i + 4 * j + k)) (M.1 60 14) kk (nI 0) 60 (M.1 60 13) 0) (sWi (sLf (mV M) (M.1 60 11) (M.1 66 10) (16 * i + 4 * j + k)) (M.1 60 14) kk (nI 1) 60 (M.1 60 13) 0) (-1) else -1) (-1))) ∧ mWn M u)) mX7_window E (0, 0) (gU (gU M 60 19 a1) 60 20 a2) 48 [(0, .ref (gAd E 60)), (1, .int (nI i)), (2, .int (nI j)), (3, .int (nI k)), (4, .int kk), (5, .int (nI 1)), (6, .int (nI (16 * i + 4 * j + k))), (7, .int (nI c)), (8, .int (nI wk))] [] := by
            intro d
            induction d with
            | zero => intro wk c a1 a2 h1 h2; exact absurd h2 (Nat.not_lt_zero _)
            | succ d ih =>
              intro wk c a1 a2 hwk hd hcw he
              have hfl := sFw_le (p := (sLf (mV M) (M.1 60 11) (M.1 66 10) (16 * i + 4 * j + k))) (M.1 60 14 + 1 - wk) wk
              have htl := sTw_le (p := (sLf (mV M) (M.1 60 11) (M.1 66 10) (16 * i + 4 * j + k))) (M.1 60 14 - (sFw (sLf (mV M) (M.1 60 11) (M.1 66 10) (16 * i + 4 * j + k)) wk (M.1 60 14 + 1 - wk))) (sFw (sLf (mV M) (M.1 60 11) (M.1 66 10) (16 * i + 4 * j + k)) wk (M.1 60 14 + 1 - wk))
              refine g_aload_n (pc := 48) 0 rfl rfl dX7_window_48 ?_
              refine g_iload (pc := 49) 6 rfl dX7_window_49 ?_
              refine g_iload (pc := 51) 8 rfl dX7_window_51 ?_
              refine g_callV (pc := 53) (mc := mX7_findWindow) (rest := []) lX7_168 iX7_findWindow (kX7_findWindow l E (gU (gU M 60 19 a1) 60 20 a2) hR hO hsg (16 * i + 4 * j + k) wk (by omega) hwk) ⟨Nat.le_of_ble_eq_true rfl, Nat.le_of_ble_eq_true rfl⟩ hR.s0 (by decide) (by decide) rfl rfl rfl rfl (Nat.le_of_ble_eq_true rfl) ⟨Nat.zero_le _, Nat.zero_le _⟩ dX7_window_53 ?_
              intro v u hq
              obtain ⟨rfl, rfl⟩ := hq
              refine g_mm (pc := 56) (M' := gU (gU M 60 19 (sFw (sLf (mV M) (M.1 60 11) (M.1 66 10) (16 * i + 4 * j + k)) wk (M.1 60 14 + 1 - wk))) 60 20 (sTw (sLf (mV M) (M.1 60 11) (M.1 66 10) (16 * i + 4 * j + k)) (sFw (sLf (mV M) (M.1 60 11) (M.1 66 10) (16 * i + 4 * j + k)) wk (M.1 60 14 + 1 - wk)) (M.1 60 14 - sFw (sLf (mV M) (M.1 60 11) (M.1 66 10) (16 * i + 4 * j + k)) wk (M.1 60 14 + 1 - wk)))) gU_w4 ?_
              refine g_st (pc := 56) (st' := [.int (gb (decide (sFw (sLf (mV M) (M.1 60 11) (M.1 66 10) (16 * i + 4 * j + k)) wk (M.1 60 14 + 1 - wk) ≤ M.1 60 14)))]) rfl ?_
              refine g_ifB_eq (pc := 56) 97 dX7_window_56 (by decide) (fun h56 => ?_) (fun h56 => ?_)
              · refine g_iload (pc := 97) 4 rfl dX7_window_97 ?_
                refine g_iconst (pc := 99) ((-1)) (by decide) dX7_window_99 ?_
                refine g_icmp_ne (pc := 100) 108 dX7_window_100 (by decide) (fun h100 => ?_) (fun h100 => ?_)
                · refine g_bipush (pc := 108) ((-4)) (by decide) dX7_window_108 ?_
                  exact g_iret (pc := 110) rfl dX7_window_110 ⟨congrArg (fun z => some (Value.int z)) (by rw [fCell_in hi hj hk0, if_pos h12, fTwo_1, he]; simp only [sWi]; rw [if_neg (of_decide_eq_false h56), if_neg h100]), Or.inr ⟨_, _, rfl⟩⟩
                · refine g_iload (pc := 103) 7 rfl dX7_window_103 ?_
                  refine g_goto (pc := 105) 110 dX7_window_105 (by decide) ?_
                  exact g_iret (pc := 110) rfl dX7_window_110 ⟨congrArg (fun z => some (Value.int z)) (by rw [fCell_in hi hj hk0, if_pos h12, fTwo_1, he]; simp only [sWi]; rw [if_neg (of_decide_eq_false h56), if_pos h100]), Or.inr ⟨_, _, rfl⟩⟩
              · refine g_iload (pc := 59) 7 rfl dX7_window_59 ?_
                refine g_iload (pc := 61) 4 rfl dX7_window_61 ?_
                refine g_icmp_ne (pc := 63) 83 dX7_window_63 (by decide) (fun h63 => ?_) (fun h63 => ?_)
                · refine g_iincN (pc := 83) 1 7 [(0, .ref (gAd E 60)), (1, .int (nI i)), (2, .int (nI j)), (3, .int (nI k)), (4, .int kk), (5, .int (nI 1)), (6, .int (nI (16 * i + 4 * j + k))), (7, .int (nI (c + 1))), (8, .int (nI wk))] rfl dX7_window_83 (by decide) rfl rfl ?_
                  refine g_aload_n (pc := 86) 0 rfl rfl dX7_window_86 ?_
                  refine fX7_165 (pc := 87) rfl hR.s0 dX7_window_87 ?_
                  refine g_topi (pc := 90) (x' := nI (sTw (sLf (mV M) (M.1 60 11) (M.1 66 10) (16 * i + 4 * j + k)) (sFw (sLf (mV M) (M.1 60 11) (M.1 66 10) (16 * i + 4 * j + k)) wk (M.1 60 14 + 1 - wk)) (M.1 60 14 - sFw (sLf (mV M) (M.1 60 11) (M.1 66 10) (16 * i + 4 * j + k)) wk (M.1 60 14 + 1 - wk)))) (by simp [gU]) ?_
                  refine g_iconst (pc := 90) (nI 1) (by decide) dX7_window_90 ?_
                  refine g_iaddN (pc := 91) dX7_window_91 ?_
                  refine g_istore (pc := 92) [(0, .ref (gAd E 60)), (1, .int (nI i)), (2, .int (nI j)), (3, .int (nI k)), (4, .int kk), (5, .int (nI 1)), (6, .int (nI (16 * i + 4 * j + k))), (7, .int (nI (c + 1))), (8, .int (nI ((sTw (sLf (mV M) (M.1 60 11) (M.1 66 10) (16 * i + 4 * j + k)) (sFw (sLf (mV M) (M.1 60 11) (M.1 66 10) (16 * i + 4 * j + k)) wk (M.1 60 14 + 1 - wk)) (M.1 60 14 - sFw (sLf (mV M) (M.1 60 11) (M.1 66 10) (16 * i + 4 * j + k)) wk (M.1 60 14 + 1 - wk))) + 1)))] dX7_window_92 (by decide) rfl rfl ?_
                  refine g_goto (pc := 94) 48 dX7_window_94 (by decide) ?_
                  refine g_lv (pc := 48) (lv' := [(0, .ref (gAd E 60)), (1, .int (nI i)), (2, .int (nI j)), (3, .int (nI k)), (4, .int kk), (5, .int (nI 1)), (6, .int (nI (16 * i + 4 * j + k))), (7, .int (nI (c + 1))), (8, .int (nI (sTw (sLf (mV M) (M.1 60 11) (M.1 66 10) (16 * i + 4 * j + k)) (sFw (sLf (mV M) (M.1 60 11) (M.1 66 10) (16 * i + 4 * j + k)) wk (M.1 60 14 + 1 - wk)) (M.1 60 14 - sFw (sLf (mV M) (M.1 60 11) (M.1 66 10) (16 * i + 4 * j + k)) wk (M.1 60 14 + 1 - wk)) + 1)))]) rfl ?_
                  exact ih (sTw (sLf (mV M) (M.1 60 11) (M.1 66 10) (16 * i + 4 * j + k)) (sFw (sLf (mV M) (M.1 60 11) (M.1 66 10) (16 * i + 4 * j + k)) wk (M.1 60 14 + 1 - wk)) (M.1 60 14 - sFw (sLf (mV M) (M.1 60 11) (M.1 66 10) (16 * i + 4 * j + k)) wk (M.1 60 14 + 1 - wk)) + 1) (c + 1) _ _ (by have := of_decide_eq_true h56; omega) (by have := of_decide_eq_true h56; omega) (by omega) (by rw [he]; simp only [sWi]; rw [if_pos (of_decide_eq_true h56), if_neg h63])
                · refine g_iload (pc := 66) 5 rfl dX7_window_66 ?_
                  refine g_ifN_ne (pc := 68) 78 dX7_window_68 (by decide) (by omega) (fun h68 => ?_) (fun h68 => absurd h68 (by omega))
                  refine g_aload_n (pc := 78) 0 rfl rfl dX7_window_78 ?_
                  refine fX7_165 (pc := 79) rfl hR.s0 dX7_window_79 ?_
                  refine g_topi (pc := 82) (x' := nI (sTw (sLf (mV M) (M.1 60 11) (M.1 66 10) (16 * i + 4 * j + k)) (sFw (sLf (mV M) (M.1 60 11) (M.1 66 10) (16 * i + 4 * j + k)) wk (M.1 60 14 + 1 - wk)) (M.1 60 14 - sFw (sLf (mV M) (M.1 60 11) (M.1 66 10) (16 * i + 4 * j + k)) wk (M.1 60 14 + 1 - wk)))) (by simp [gU]) ?_
                  exact g_iret (pc := 82) rfl dX7_window_82 ⟨congrArg (fun z => some (Value.int z)) (by rw [fCell_in hi hj hk0, if_pos h12, fTwo_1, he]; simp only [sWi]; rw [if_pos (of_decide_eq_true h56), if_pos h63, if_neg (by decide)]), Or.inr ⟨_, _, rfl⟩⟩
          refine g_mm (pc := 48) (M' := gU (gU M 60 19 (M.1 60 19)) 60 20 (M.1 60 20)) gU_w0.symm ?_
          exact lp 60 (M.1 60 13) 0 _ _ (by omega) (by omega) (by omega) rfl
      · refine g_iconst (pc := 25) ((-1)) (by decide) dX7_window_25 ?_
        exact g_iret (pc := 26) rfl dX7_window_26 ⟨congrArg (fun z => some (Value.int z)) (by rw [fCell_in hi hj hk0, if_pos (Int32.not_lt.mp h12), fTwo_oG h22]), Or.inl rfl⟩
theorem lgS_le {p : Nat → Bool} {to c : Nat} : ∀ d wk g, wk ≤ to + 1 → g.1 ≤ to + 1 → (lgS p to c d wk g).1 ≤ to + 1 := by
  intro d
  induction d with
  | zero => intro wk g _ hg; exact hg
  | succ d ih =>
    intro wk g hwk hg
    have hfl := sFw_le (p := p) (to + 1 - wk) wk
    have htl := sTw_le (p := p) (to - sFw p wk (to + 1 - wk)) (sFw p wk (to + 1 - wk))
    unfold lgS
    split
    · refine ih _ _ (by omega) ?_
      split
      · simp; omega
      · exact hg
    · exact hg
theorem lgM_le {V : Nat → Nat → Nat} {n sg fr to : Nat} (h : fr ≤ to) : ∀ c, (lgM V n sg fr to c).1 ≤ to + 1 := by
  intro c
  induction c with
  | zero => exact Nat.zero_le _
  | succ c ih => exact lgS_le _ _ _ (by omega) ih
theorem lgS_c {p : Nat → Bool} {to c m : Nat} (hm : c ≤ m) : ∀ d wk g, g.2.1 ≤ m → (lgS p to c d wk g).2.1 ≤ m := by
  intro d
  induction d with
  | zero => intro wk g hg; exact hg
  | succ d ih =>
    intro wk g hg
    unfold lgS
    split
    · refine ih _ _ ?_
      split
      · exact hm
      · exact hg
    · exact hg
theorem lgM_c {V : Nat → Nat → Nat} {n sg fr to : Nat} : ∀ c, (lgM V n sg fr to c).2.1 ≤ c := by
  intro c
  induction c with
  | zero => exact Nat.zero_le _
  | succ c ih => exact lgS_c (by omega) _ _ _ (by omega)
set_option maxRecDepth 100000 in
set_option maxHeartbeats 4000000 in
theorem kX7_longest (l : Launch) (E : gEnv) (M : gMem) (hR : mR E M) (hO : mO M) (hsg : M.1 66 10 < 1024) (x : Int32) : gMet l E mX7_longest 4 [.ref (gAd E 60), .int x] M (fun v u => v = some (.int (fSel 5 x (fun q => fLg (lgM (mV M) (M.1 60 11) (M.1 66 10) (M.1 60 13) (M.1 60 14) 96) q) (-1))) ∧ mWn M u) := by
  have hO' := hO
  obtain ⟨hn, hk, hft, hto, hU, hH⟩ := hO
  have hO := hO'
  refine gMet_of (mm := mX7_longest) (h := 4) (M := M) [(0, .ref (gAd E 60)), (1, .int x)] (by decide) (Nat.le_of_ble_eq_true rfl) rfl ?_
  refine g_iload_n (pc := 0) 1 rfl rfl dX7_longest_0 ?_
  refine g_iconst (pc := 1) (nI 0) (by decide) dX7_longest_1 ?_
  refine g_iconst (pc := 2) (nI 4) (by decide) dX7_longest_2 ?_
  refine g_callS (pc := 3) (mc := mX7_in) (rest := []) lX7_82 iX7_in (kX7_inG l E M (x) 0 4 (by omega) (by omega)) ⟨Nat.le_of_ble_eq_true rfl, Nat.le_of_ble_eq_true rfl⟩ rfl rfl (Nat.le_of_ble_eq_true rfl) ⟨Nat.zero_le _, Nat.zero_le _⟩ dX7_longest_3 (g_rI ?_)
  refine g_ifB_ne (pc := 6) 11 dX7_longest_6 (by decide) (fun h6 => ?_) (fun h6 => ?_)
  · obtain ⟨q, hq, rfl⟩ := inG_tR h6
    refine g_iconst (pc := 11) (nI 0) (by decide) dX7_longest_11 ?_
    refine g_istore_n (pc := 12) rfl [(0, .ref (gAd E 60)), (1, .int (nI q)), (2, .int (nI 0))] dX7_longest_12 (by decide) rfl rfl ?_
    refine g_bipush (pc := 13) ((-4)) (by decide) dX7_longest_13 ?_
    refine g_istore_n (pc := 15) rfl [(0, .ref (gAd E 60)), (1, .int (nI q)), (2, .int (nI 0)), (3, .int ((-4)))] dX7_longest_15 (by decide) rfl rfl ?_
    refine g_bipush (pc := 16) ((-4)) (by decide) dX7_longest_16 ?_
    refine g_istore (pc := 18) [(0, .ref (gAd E 60)), (1, .int (nI q)), (2, .int (nI 0)), (3, .int ((-4))), (4, .int ((-4)))] dX7_longest_18 (by decide) rfl rfl ?_
    refine g_iconst (pc := 20) (nI 0) (by decide) dX7_longest_20 ?_
    refine g_istore (pc := 21) [(0, .ref (gAd E 60)), (1, .int (nI q)), (2, .int (nI 0)), (3, .int ((-4))), (4, .int ((-4))), (5, .int (nI 0))] dX7_longest_21 (by decide) rfl rfl ?_
    have lp23 : ∀ c, c ≤ 96 → ∀ a1 a2 : Nat, gG l (gV0 4 E (fun v u => v = some (.int (fSel 5 (nI q) (fun q => fLg (lgM (mV M) (M.1 60 11) (M.1 66 10) (M.1 60 13) (M.1 60 14) 96) q) (-1))) ∧ mWn M u)) mX7_longest E (0, 0) (gU (gU M 60 19 a1) 60 20 a2) 23 [(0, .ref (gAd E 60)), (1, .int (nI q)), (2, .int (nI ((lgM (mV M) (M.1 60 11) (M.1 66 10) (M.1 60 13) (M.1 60 14) c).1))), (3, .int (lgF (lgM (mV M) (M.1 60 11) (M.1 66 10) (M.1 60 13) (M.1 60 14) c))), (4, .int (lgG (lgM (mV M) (M.1 60 11) (M.1 66 10) (M.1 60 13) (M.1 60 14) c))), (5, .int (nI c))] [] := by
      refine gloop (fun c hic ihc => ?_)
      intro a1 a2
      refine g_iload (pc := 23) 5 rfl dX7_longest_23 ?_
      refine g_bipush (pc := 25) (nI 96) (by decide) dX7_longest_25 ?_
      refine g_icmpN_ge (pc := 27) 120 dX7_longest_27 (by decide) (by omega) (by omega) (fun h27 => ?_) (fun h27 => ?_)
      · obtain rfl : c = 96 := by omega
        have hl1 := lgM_le (V := mV M) (n := M.1 60 11) (sg := M.1 66 10) hft 96
        have hl2 := lgM_c (V := mV M) (n := M.1 60 11) (sg := M.1 66 10) (fr := M.1 60 13) (to := M.1 60 14) 96
        by_cases h0 : (lgM (mV M) (M.1 60 11) (M.1 66 10) (M.1 60 13) (M.1 60 14) 96).1 = 0
        · refine g_lv (pc := 120) (lv' := [(0, .ref (gAd E 60)), (1, .int (nI q)), (2, .int (nI ((lgM (mV M) (M.1 60 11) (M.1 66 10) (M.1 60 13) (M.1 60 14) 96).1))), (3, .int ((-4))), (4, .int (lgG (lgM (mV M) (M.1 60 11) (M.1 66 10) (M.1 60 13) (M.1 60 14) 96))), (5, .int (nI 96))]) (by rw [lgF, if_pos h0]) ?_
          refine g_iload_n (pc := 120) 3 rfl rfl dX7_longest_120 ?_
          refine g_bipush (pc := 121) ((-4)) (by decide) dX7_longest_121 ?_
          refine g_icmp_ne (pc := 123) 129 dX7_longest_123 (by decide) (fun h123 => absurd h123 (fun q => q rfl)) (fun h123 => ?_)
          refine g_bipush (pc := 126) ((-4)) (by decide) dX7_longest_126 ?_
          exact g_iret (pc := 128) rfl dX7_longest_128 ⟨congrArg (fun z => some (Value.int z)) (by rw [fSel_in hq (by omega)]; unfold fLg; rw [if_pos h0]), Or.inr ⟨_, _, rfl⟩⟩
        · refine g_lv (pc := 120) (lv' := [(0, .ref (gAd E 60)), (1, .int (nI q)), (2, .int (nI ((lgM (mV M) (M.1 60 11) (M.1 66 10) (M.1 60 13) (M.1 60 14) 96).1))), (3, .int (nI ((lgM (mV M) (M.1 60 11) (M.1 66 10) (M.1 60 13) (M.1 60 14) 96).2.1))), (4, .int (nI ((lgM (mV M) (M.1 60 11) (M.1 66 10) (M.1 60 13) (M.1 60 14) 96).2.2))), (5, .int (nI 96))]) (by rw [lgF, lgG, if_neg h0, if_neg h0]) ?_
          refine g_iload_n (pc := 120) 3 rfl rfl dX7_longest_120 ?_
          refine g_bipush (pc := 121) ((-4)) (by decide) dX7_longest_121 ?_
          refine g_icmp_ne (pc := 123) 129 dX7_longest_123 (by decide) (fun h123 => ?_) (fun h123 => absurd h123 (oN_ne (x := (lgM (mV M) (M.1 60 11) (M.1 66 10) (M.1 60 13) (M.1 60 14) 96).2.1) (by omega)))
          rcases (show q = 0 ∨ q = 1 ∨ q = 2 ∨ q = 3 ∨ q = 4 by omega) with rfl | rfl | rfl | rfl | rfl
          · refine g_iload_n (pc := 129) 1 rfl rfl dX7_longest_129 ?_
            refine g_ifN_ne (pc := 130) 137 dX7_longest_130 (by decide) (by omega) (fun h130 => absurd h130 (by omega)) (fun h130 => ?_)
            refine g_iload_n (pc := 133) 2 rfl rfl dX7_longest_133 ?_
            refine g_goto (pc := 134) 175 dX7_longest_134 (by decide) ?_
            exact g_iret (pc := 175) rfl dX7_longest_175 ⟨congrArg (fun z => some (Value.int z)) (by rw [fSel_in hq (by omega)]; unfold fLg; rw [if_neg h0]; rfl), Or.inr ⟨_, _, rfl⟩⟩
          · refine g_iload_n (pc := 129) 1 rfl rfl dX7_longest_129 ?_
            refine g_ifN_ne (pc := 130) 137 dX7_longest_130 (by decide) (by omega) (fun h130 => ?_) (fun h130 => absurd h130 (by omega))
            refine g_iload_n (pc := 137) 1 rfl rfl dX7_longest_137 ?_
            refine g_iconst (pc := 138) (nI 1) (by decide) dX7_longest_138 ?_
            refine g_icmpN_ne (pc := 139) 149 dX7_longest_139 (by decide) (by omega) (by omega) (fun h139 => absurd h139 (by omega)) (fun h139 => ?_)
            refine g_iload_n (pc := 142) 3 rfl rfl dX7_longest_142 ?_
            refine g_bipush (pc := 143) (nI 16) (by decide) dX7_longest_143 ?_
            refine g_idivN (pc := 145) (by omega) (by omega) (by omega) dX7_longest_145 ?_
            refine g_goto (pc := 146) 175 dX7_longest_146 (by decide) ?_
            exact g_iret (pc := 175) rfl dX7_longest_175 ⟨congrArg (fun z => some (Value.int z)) (by rw [fSel_in hq (by omega)]; unfold fLg; rw [if_neg h0]; rfl), Or.inr ⟨_, _, rfl⟩⟩
          · refine g_iload_n (pc := 129) 1 rfl rfl dX7_longest_129 ?_
            refine g_ifN_ne (pc := 130) 137 dX7_longest_130 (by decide) (by omega) (fun h130 => ?_) (fun h130 => absurd h130 (by omega))
            refine g_iload_n (pc := 137) 1 rfl rfl dX7_longest_137 ?_
            refine g_iconst (pc := 138) (nI 1) (by decide) dX7_longest_138 ?_
            refine g_icmpN_ne (pc := 139) 149 dX7_longest_139 (by decide) (by omega) (by omega) (fun h139 => ?_) (fun h139 => absurd h139 (by omega))
            refine g_iload_n (pc := 149) 1 rfl rfl dX7_longest_149 ?_
            refine g_iconst (pc := 150) (nI 2) (by decide) dX7_longest_150 ?_
            refine g_icmpN_ne (pc := 151) 162 dX7_longest_151 (by decide) (by omega) (by omega) (fun h151 => absurd h151 (by omega)) (fun h151 => ?_)
            refine g_iload_n (pc := 154) 3 rfl rfl dX7_longest_154 ?_
            refine g_iconst (pc := 155) (nI 4) (by decide) dX7_longest_155 ?_
            refine g_idivN (pc := 156) (by omega) (by omega) (by omega) dX7_longest_156 ?_
            refine g_iconst (pc := 157) (nI 4) (by decide) dX7_longest_157 ?_
            refine g_iremN (pc := 158) (by omega) (by omega) (by omega) dX7_longest_158 ?_
            refine g_goto (pc := 159) 175 dX7_longest_159 (by decide) ?_
            exact g_iret (pc := 175) rfl dX7_longest_175 ⟨congrArg (fun z => some (Value.int z)) (by rw [fSel_in hq (by omega)]; unfold fLg; rw [if_neg h0]; rfl), Or.inr ⟨_, _, rfl⟩⟩
          · refine g_iload_n (pc := 129) 1 rfl rfl dX7_longest_129 ?_
            refine g_ifN_ne (pc := 130) 137 dX7_longest_130 (by decide) (by omega) (fun h130 => ?_) (fun h130 => absurd h130 (by omega))
            refine g_iload_n (pc := 137) 1 rfl rfl dX7_longest_137 ?_
            refine g_iconst (pc := 138) (nI 1) (by decide) dX7_longest_138 ?_
            refine g_icmpN_ne (pc := 139) 149 dX7_longest_139 (by decide) (by omega) (by omega) (fun h139 => ?_) (fun h139 => absurd h139 (by omega))
            refine g_iload_n (pc := 149) 1 rfl rfl dX7_longest_149 ?_
            refine g_iconst (pc := 150) (nI 2) (by decide) dX7_longest_150 ?_
            refine g_icmpN_ne (pc := 151) 162 dX7_longest_151 (by decide) (by omega) (by omega) (fun h151 => ?_) (fun h151 => absurd h151 (by omega))
            refine g_iload_n (pc := 162) 1 rfl rfl dX7_longest_162 ?_
            refine g_iconst (pc := 163) (nI 3) (by decide) dX7_longest_163 ?_
            refine g_icmpN_ne (pc := 164) 173 dX7_longest_164 (by decide) (by omega) (by omega) (fun h164 => absurd h164 (by omega)) (fun h164 => ?_)
            refine g_iload_n (pc := 167) 3 rfl rfl dX7_longest_167 ?_
            refine g_iconst (pc := 168) (nI 4) (by decide) dX7_longest_168 ?_
            refine g_iremN (pc := 169) (by omega) (by omega) (by omega) dX7_longest_169 ?_
            refine g_goto (pc := 170) 175 dX7_longest_170 (by decide) ?_
            exact g_iret (pc := 175) rfl dX7_longest_175 ⟨congrArg (fun z => some (Value.int z)) (by rw [fSel_in hq (by omega)]; unfold fLg; rw [if_neg h0]; rfl), Or.inr ⟨_, _, rfl⟩⟩
          · refine g_iload_n (pc := 129) 1 rfl rfl dX7_longest_129 ?_
            refine g_ifN_ne (pc := 130) 137 dX7_longest_130 (by decide) (by omega) (fun h130 => ?_) (fun h130 => absurd h130 (by omega))
            refine g_iload_n (pc := 137) 1 rfl rfl dX7_longest_137 ?_
            refine g_iconst (pc := 138) (nI 1) (by decide) dX7_longest_138 ?_
            refine g_icmpN_ne (pc := 139) 149 dX7_longest_139 (by decide) (by omega) (by omega) (fun h139 => ?_) (fun h139 => absurd h139 (by omega))
            refine g_iload_n (pc := 149) 1 rfl rfl dX7_longest_149 ?_
            refine g_iconst (pc := 150) (nI 2) (by decide) dX7_longest_150 ?_
            refine g_icmpN_ne (pc := 151) 162 dX7_longest_151 (by decide) (by omega) (by omega) (fun h151 => ?_) (fun h151 => absurd h151 (by omega))
            refine g_iload_n (pc := 162) 1 rfl rfl dX7_longest_162 ?_
            refine g_iconst (pc := 163) (nI 3) (by decide) dX7_longest_163 ?_
            refine g_icmpN_ne (pc := 164) 173 dX7_longest_164 (by decide) (by omega) (by omega) (fun h164 => ?_) (fun h164 => absurd h164 (by omega))
            refine g_iload (pc := 173) 4 rfl dX7_longest_173 ?_
            exact g_iret (pc := 175) rfl dX7_longest_175 ⟨congrArg (fun z => some (Value.int z)) (by rw [fSel_in hq (by omega)]; unfold fLg; rw [if_neg h0]; rfl), Or.inr ⟨_, _, rfl⟩⟩
      · refine g_aload_n (pc := 30) 0 rfl rfl dX7_longest_30 ?_
        refine fX7_67 (pc := 31) rfl hR.s0 dX7_longest_31 ?_
        refine g_topi (pc := 34) (x' := nI (M.1 60 13)) (by simp [gU, gUr]) ?_
        refine g_istore (pc := 34) [(0, .ref (gAd E 60)), (1, .int (nI q)), (2, .int (nI ((lgM (mV M) (M.1 60 11) (M.1 66 10) (M.1 60 13) (M.1 60 14) c).1))), (3, .int (lgF (lgM (mV M) (M.1 60 11) (M.1 66 10) (M.1 60 13) (M.1 60 14) c))), (4, .int (lgG (lgM (mV M) (M.1 60 11) (M.1 66 10) (M.1 60 13) (M.1 60 14) c))), (5, .int (nI c)), (6, .int (nI (M.1 60 13)))] dX7_longest_34 (by decide) rfl rfl ?_
        have lp : ∀ (d wk : Nat) (g : Nat × Nat × Nat) (a1 a2 : Nat), wk ≤ M.1 60 14 + 1 → M.1 60 14 + 1 - wk < d → g.1 ≤ M.1 60 14 + 1 → lgM (mV M) (M.1 60 11) (M.1 66 10) (M.1 60 13) (M.1 60 14) (c + 1) = lgS (sLf (mV M) (M.1 60 11) (M.1 66 10) c) (M.1 60 14) c d wk g → gG l (gV0 4 E (fun v u => v = some (.int (fSel 5 (nI q) (fun q => fLg (lgM (mV M) (M.1 60 11) (M.1 66 10) (M.1 60 13) (M.1 60 14) 96) q) (-1))) ∧ mWn M u)) mX7_longest E (0, 0) (gU (gU M 60 19 a1) 60 20 a2) 36 [(0, .ref (gAd E 60)), (1, .int (nI q)), (2, .int (nI g.1)), (3, .int (lgF g)), (4, .int (lgG g)), (5, .int (nI c)), (6, .int (nI wk))] [] := by
          intro d
          induction d with
          | zero => intro wk g a1 a2 h1 h2; exact absurd h2 (Nat.not_lt_zero _)
          | succ d ih =>
            intro wk g a1 a2 hwk hd hg1 he
            have hfl := sFw_le (p := (sLf (mV M) (M.1 60 11) (M.1 66 10) c)) (M.1 60 14 + 1 - wk) wk
            have htl := sTw_le (p := (sLf (mV M) (M.1 60 11) (M.1 66 10) c)) (M.1 60 14 - (sFw (sLf (mV M) (M.1 60 11) (M.1 66 10) c) wk (M.1 60 14 + 1 - wk))) (sFw (sLf (mV M) (M.1 60 11) (M.1 66 10) c) wk (M.1 60 14 + 1 - wk))
            refine g_aload_n (pc := 36) 0 rfl rfl dX7_longest_36 ?_
            refine g_iload (pc := 37) 5 rfl dX7_longest_37 ?_
            refine g_iload (pc := 39) 6 rfl dX7_longest_39 ?_
            refine g_callV (pc := 41) (mc := mX7_findWindow) (rest := []) lX7_168 iX7_findWindow (kX7_findWindow l E (gU (gU M 60 19 a1) 60 20 a2) hR hO hsg c wk (by omega) hwk) ⟨Nat.le_of_ble_eq_true rfl, Nat.le_of_ble_eq_true rfl⟩ hR.s0 (by decide) (by decide) rfl rfl rfl rfl (Nat.le_of_ble_eq_true rfl) ⟨Nat.zero_le _, Nat.zero_le _⟩ dX7_longest_41 ?_
            intro v u hq
            obtain ⟨rfl, rfl⟩ := hq
            refine g_mm (pc := 44) (M' := gU (gU M 60 19 (sFw (sLf (mV M) (M.1 60 11) (M.1 66 10) c) wk (M.1 60 14 + 1 - wk))) 60 20 (sTw (sLf (mV M) (M.1 60 11) (M.1 66 10) c) (sFw (sLf (mV M) (M.1 60 11) (M.1 66 10) c) wk (M.1 60 14 + 1 - wk)) (M.1 60 14 - sFw (sLf (mV M) (M.1 60 11) (M.1 66 10) c) wk (M.1 60 14 + 1 - wk)))) gU_w4 ?_
            refine g_st (pc := 44) (st' := [.int (gb (decide (sFw (sLf (mV M) (M.1 60 11) (M.1 66 10) c) wk (M.1 60 14 + 1 - wk) ≤ M.1 60 14)))]) rfl ?_
            refine g_ifB_eq (pc := 44) 114 dX7_longest_44 (by decide) (fun h44 => ?_) (fun h44 => ?_)
            · have hgl : lgM (mV M) (M.1 60 11) (M.1 66 10) (M.1 60 13) (M.1 60 14) (c + 1) = g := by rw [he]; simp only [lgS]; rw [if_neg (of_decide_eq_false h44)]
              refine g_iincN (pc := 114) 1 5 [(0, .ref (gAd E 60)), (1, .int (nI q)), (2, .int (nI g.1)), (3, .int (lgF g)), (4, .int (lgG g)), (5, .int (nI (c + 1))), (6, .int (nI wk))] rfl dX7_longest_114 (by decide) rfl rfl ?_
              refine g_goto (pc := 117) 23 dX7_longest_117 (by decide) ?_
              refine g_pick (pc := 23) [0, 1, 2, 3, 4, 5] [(0, .ref (gAd E 60)), (1, .int (nI q)), (2, .int (nI g.1)), (3, .int (lgF g)), (4, .int (lgG g)), (5, .int (nI (c + 1)))] rfl ?_
              refine g_lv (pc := 23) (lv' := [(0, .ref (gAd E 60)), (1, .int (nI q)), (2, .int (nI ((lgM (mV M) (M.1 60 11) (M.1 66 10) (M.1 60 13) (M.1 60 14) (c + 1)).1))), (3, .int (lgF (lgM (mV M) (M.1 60 11) (M.1 66 10) (M.1 60 13) (M.1 60 14) (c + 1)))), (4, .int (lgG (lgM (mV M) (M.1 60 11) (M.1 66 10) (M.1 60 13) (M.1 60 14) (c + 1)))), (5, .int (nI (c + 1)))]) (by rw [show lgM (mV M) (M.1 60 11) (M.1 66 10) (M.1 60 13) (M.1 60 14) (c + 1) = g from hgl]) ?_
              exact ihc (by omega) _ _
            · have hfo := of_decide_eq_true h44
              refine g_aload_n (pc := 47) 0 rfl rfl dX7_longest_47 ?_
              refine fX7_165 (pc := 48) rfl hR.s0 dX7_longest_48 ?_
              refine g_topi (pc := 51) (x' := nI (sTw (sLf (mV M) (M.1 60 11) (M.1 66 10) c) (sFw (sLf (mV M) (M.1 60 11) (M.1 66 10) c) wk (M.1 60 14 + 1 - wk)) (M.1 60 14 - sFw (sLf (mV M) (M.1 60 11) (M.1 66 10) c) wk (M.1 60 14 + 1 - wk)))) (by simp [gU]) ?_
              refine g_aload_n (pc := 51) 0 rfl rfl dX7_longest_51 ?_
              refine fX7_162 (pc := 52) rfl hR.s0 dX7_longest_52 ?_
              refine g_topi (pc := 55) (x' := nI (sFw (sLf (mV M) (M.1 60 11) (M.1 66 10) c) wk (M.1 60 14 + 1 - wk))) (by simp [gU]) ?_
              refine g_isubN (pc := 55) (by omega) dX7_longest_55 ?_
              refine g_iconst (pc := 56) (nI 1) (by decide) dX7_longest_56 ?_
              refine g_iaddN (pc := 57) dX7_longest_57 ?_
              refine g_istore (pc := 58) [(0, .ref (gAd E 60)), (1, .int (nI q)), (2, .int (nI g.1)), (3, .int (lgF g)), (4, .int (lgG g)), (5, .int (nI c)), (6, .int (nI wk)), (7, .int (nI (((sTw (sLf (mV M) (M.1 60 11) (M.1 66 10) c) (sFw (sLf (mV M) (M.1 60 11) (M.1 66 10) c) wk (M.1 60 14 + 1 - wk)) (M.1 60 14 - sFw (sLf (mV M) (M.1 60 11) (M.1 66 10) c) wk (M.1 60 14 + 1 - wk))) - (sFw (sLf (mV M) (M.1 60 11) (M.1 66 10) c) wk (M.1 60 14 + 1 - wk))) + 1)))] dX7_longest_58 (by decide) rfl rfl ?_
              refine g_iload (pc := 60) 7 rfl dX7_longest_60 ?_
              refine g_iload_n (pc := 62) 2 rfl rfl dX7_longest_62 ?_
              refine g_icmpN_le (pc := 63) 71 dX7_longest_63 (by decide) (by omega) (by omega) (fun h63 => ?_) (fun h63 => ?_)
              · refine g_iload_n (pc := 71) 3 rfl rfl dX7_longest_71 ?_
                refine g_istore_n (pc := 72) rfl [(0, .ref (gAd E 60)), (1, .int (nI q)), (2, .int (nI g.1)), (3, .int (lgF g)), (4, .int (lgG g)), (5, .int (nI c)), (6, .int (nI wk)), (7, .int (nI (((sTw (sLf (mV M) (M.1 60 11) (M.1 66 10) c) (sFw (sLf (mV M) (M.1 60 11) (M.1 66 10) c) wk (M.1 60 14 + 1 - wk)) (M.1 60 14 - sFw (sLf (mV M) (M.1 60 11) (M.1 66 10) c) wk (M.1 60 14 + 1 - wk))) - (sFw (sLf (mV M) (M.1 60 11) (M.1 66 10) c) wk (M.1 60 14 + 1 - wk))) + 1)))] dX7_longest_72 (by decide) rfl rfl ?_
                refine g_iload (pc := 73) 7 rfl dX7_longest_73 ?_
                refine g_iload_n (pc := 75) 2 rfl rfl dX7_longest_75 ?_
                refine g_icmpN_le (pc := 76) 86 dX7_longest_76 (by decide) (by omega) (by omega) (fun h76 => ?_) (fun h76 => absurd h76 (by omega))
                refine g_iload (pc := 86) 4 rfl dX7_longest_86 ?_
                refine g_istore (pc := 88) [(0, .ref (gAd E 60)), (1, .int (nI q)), (2, .int (nI g.1)), (3, .int (lgF g)), (4, .int (lgG g)), (5, .int (nI c)), (6, .int (nI wk)), (7, .int (nI (((sTw (sLf (mV M) (M.1 60 11) (M.1 66 10) c) (sFw (sLf (mV M) (M.1 60 11) (M.1 66 10) c) wk (M.1 60 14 + 1 - wk)) (M.1 60 14 - sFw (sLf (mV M) (M.1 60 11) (M.1 66 10) c) wk (M.1 60 14 + 1 - wk))) - (sFw (sLf (mV M) (M.1 60 11) (M.1 66 10) c) wk (M.1 60 14 + 1 - wk))) + 1)))] dX7_longest_88 (by decide) rfl rfl ?_
                refine g_iload (pc := 90) 7 rfl dX7_longest_90 ?_
                refine g_iload_n (pc := 92) 2 rfl rfl dX7_longest_92 ?_
                refine g_icmpN_le (pc := 93) 101 dX7_longest_93 (by decide) (by omega) (by omega) (fun h93 => ?_) (fun h93 => absurd h93 (by omega))
                refine g_iload_n (pc := 101) 2 rfl rfl dX7_longest_101 ?_
                refine g_istore_n (pc := 102) rfl [(0, .ref (gAd E 60)), (1, .int (nI q)), (2, .int (nI g.1)), (3, .int (lgF g)), (4, .int (lgG g)), (5, .int (nI c)), (6, .int (nI wk)), (7, .int (nI (((sTw (sLf (mV M) (M.1 60 11) (M.1 66 10) c) (sFw (sLf (mV M) (M.1 60 11) (M.1 66 10) c) wk (M.1 60 14 + 1 - wk)) (M.1 60 14 - sFw (sLf (mV M) (M.1 60 11) (M.1 66 10) c) wk (M.1 60 14 + 1 - wk))) - (sFw (sLf (mV M) (M.1 60 11) (M.1 66 10) c) wk (M.1 60 14 + 1 - wk))) + 1)))] dX7_longest_102 (by decide) rfl rfl ?_
                refine g_aload_n (pc := 103) 0 rfl rfl dX7_longest_103 ?_
                refine fX7_165 (pc := 104) rfl hR.s0 dX7_longest_104 ?_
                refine g_topi (pc := 107) (x' := nI (sTw (sLf (mV M) (M.1 60 11) (M.1 66 10) c) (sFw (sLf (mV M) (M.1 60 11) (M.1 66 10) c) wk (M.1 60 14 + 1 - wk)) (M.1 60 14 - sFw (sLf (mV M) (M.1 60 11) (M.1 66 10) c) wk (M.1 60 14 + 1 - wk)))) (by simp [gU]) ?_
                refine g_iconst (pc := 107) (nI 1) (by decide) dX7_longest_107 ?_
                refine g_iaddN (pc := 108) dX7_longest_108 ?_
                refine g_istore (pc := 109) [(0, .ref (gAd E 60)), (1, .int (nI q)), (2, .int (nI g.1)), (3, .int (lgF g)), (4, .int (lgG g)), (5, .int (nI c)), (6, .int (nI ((sTw (sLf (mV M) (M.1 60 11) (M.1 66 10) c) (sFw (sLf (mV M) (M.1 60 11) (M.1 66 10) c) wk (M.1 60 14 + 1 - wk)) (M.1 60 14 - sFw (sLf (mV M) (M.1 60 11) (M.1 66 10) c) wk (M.1 60 14 + 1 - wk))) + 1))), (7, .int (nI (((sTw (sLf (mV M) (M.1 60 11) (M.1 66 10) c) (sFw (sLf (mV M) (M.1 60 11) (M.1 66 10) c) wk (M.1 60 14 + 1 - wk)) (M.1 60 14 - sFw (sLf (mV M) (M.1 60 11) (M.1 66 10) c) wk (M.1 60 14 + 1 - wk))) - (sFw (sLf (mV M) (M.1 60 11) (M.1 66 10) c) wk (M.1 60 14 + 1 - wk))) + 1)))] dX7_longest_109 (by decide) rfl rfl ?_
                refine g_goto (pc := 111) 36 dX7_longest_111 (by decide) ?_
                refine g_pick (pc := 36) [0, 1, 2, 3, 4, 5, 6] [(0, .ref (gAd E 60)), (1, .int (nI q)), (2, .int (nI g.1)), (3, .int (lgF g)), (4, .int (lgG g)), (5, .int (nI c)), (6, .int (nI ((sTw (sLf (mV M) (M.1 60 11) (M.1 66 10) c) (sFw (sLf (mV M) (M.1 60 11) (M.1 66 10) c) wk (M.1 60 14 + 1 - wk)) (M.1 60 14 - sFw (sLf (mV M) (M.1 60 11) (M.1 66 10) c) wk (M.1 60 14 + 1 - wk))) + 1)))] rfl ?_
                refine g_lv (pc := 36) (lv' := [(0, .ref (gAd E 60)), (1, .int (nI q)), (2, .int (nI g.1)), (3, .int (lgF g)), (4, .int (lgG g)), (5, .int (nI c)), (6, .int (nI (sTw (sLf (mV M) (M.1 60 11) (M.1 66 10) c) (sFw (sLf (mV M) (M.1 60 11) (M.1 66 10) c) wk (M.1 60 14 + 1 - wk)) (M.1 60 14 - sFw (sLf (mV M) (M.1 60 11) (M.1 66 10) c) wk (M.1 60 14 + 1 - wk)) + 1)))]) rfl ?_
                exact ih (sTw (sLf (mV M) (M.1 60 11) (M.1 66 10) c) (sFw (sLf (mV M) (M.1 60 11) (M.1 66 10) c) wk (M.1 60 14 + 1 - wk)) (M.1 60 14 - sFw (sLf (mV M) (M.1 60 11) (M.1 66 10) c) wk (M.1 60 14 + 1 - wk)) + 1) g _ _ (by omega) (by omega) (by omega) (by rw [he]; simp only [lgS]; rw [if_pos hfo, if_neg (by omega)])
              · refine g_iload (pc := 66) 5 rfl dX7_longest_66 ?_
                refine g_goto (pc := 68) 72 dX7_longest_68 (by decide) ?_
                refine g_istore_n (pc := 72) rfl [(0, .ref (gAd E 60)), (1, .int (nI q)), (2, .int (nI g.1)), (3, .int (nI c)), (4, .int (lgG g)), (5, .int (nI c)), (6, .int (nI wk)), (7, .int (nI (((sTw (sLf (mV M) (M.1 60 11) (M.1 66 10) c) (sFw (sLf (mV M) (M.1 60 11) (M.1 66 10) c) wk (M.1 60 14 + 1 - wk)) (M.1 60 14 - sFw (sLf (mV M) (M.1 60 11) (M.1 66 10) c) wk (M.1 60 14 + 1 - wk))) - (sFw (sLf (mV M) (M.1 60 11) (M.1 66 10) c) wk (M.1 60 14 + 1 - wk))) + 1)))] dX7_longest_72 (by decide) rfl rfl ?_
                refine g_iload (pc := 73) 7 rfl dX7_longest_73 ?_
                refine g_iload_n (pc := 75) 2 rfl rfl dX7_longest_75 ?_
                refine g_icmpN_le (pc := 76) 86 dX7_longest_76 (by decide) (by omega) (by omega) (fun h76 => absurd h76 (by omega)) (fun h76 => ?_)
                refine g_aload_n (pc := 79) 0 rfl rfl dX7_longest_79 ?_
                refine fX7_162 (pc := 80) rfl hR.s0 dX7_longest_80 ?_
                refine g_topi (pc := 83) (x' := nI (sFw (sLf (mV M) (M.1 60 11) (M.1 66 10) c) wk (M.1 60 14 + 1 - wk))) (by simp [gU]) ?_
                refine g_goto (pc := 83) 88 dX7_longest_83 (by decide) ?_
                refine g_istore (pc := 88) [(0, .ref (gAd E 60)), (1, .int (nI q)), (2, .int (nI g.1)), (3, .int (nI c)), (4, .int (nI (sFw (sLf (mV M) (M.1 60 11) (M.1 66 10) c) wk (M.1 60 14 + 1 - wk)))), (5, .int (nI c)), (6, .int (nI wk)), (7, .int (nI (((sTw (sLf (mV M) (M.1 60 11) (M.1 66 10) c) (sFw (sLf (mV M) (M.1 60 11) (M.1 66 10) c) wk (M.1 60 14 + 1 - wk)) (M.1 60 14 - sFw (sLf (mV M) (M.1 60 11) (M.1 66 10) c) wk (M.1 60 14 + 1 - wk))) - (sFw (sLf (mV M) (M.1 60 11) (M.1 66 10) c) wk (M.1 60 14 + 1 - wk))) + 1)))] dX7_longest_88 (by decide) rfl rfl ?_
                refine g_iload (pc := 90) 7 rfl dX7_longest_90 ?_
                refine g_iload_n (pc := 92) 2 rfl rfl dX7_longest_92 ?_
                refine g_icmpN_le (pc := 93) 101 dX7_longest_93 (by decide) (by omega) (by omega) (fun h93 => absurd h93 (by omega)) (fun h93 => ?_)
                refine g_iload (pc := 96) 7 rfl dX7_longest_96 ?_
                refine g_goto (pc := 98) 102 dX7_longest_98 (by decide) ?_
                refine g_istore_n (pc := 102) rfl [(0, .ref (gAd E 60)), (1, .int (nI q)), (2, .int (nI (((sTw (sLf (mV M) (M.1 60 11) (M.1 66 10) c) (sFw (sLf (mV M) (M.1 60 11) (M.1 66 10) c) wk (M.1 60 14 + 1 - wk)) (M.1 60 14 - sFw (sLf (mV M) (M.1 60 11) (M.1 66 10) c) wk (M.1 60 14 + 1 - wk))) - (sFw (sLf (mV M) (M.1 60 11) (M.1 66 10) c) wk (M.1 60 14 + 1 - wk))) + 1))), (3, .int (nI c)), (4, .int (nI (sFw (sLf (mV M) (M.1 60 11) (M.1 66 10) c) wk (M.1 60 14 + 1 - wk)))), (5, .int (nI c)), (6, .int (nI wk)), (7, .int (nI (((sTw (sLf (mV M) (M.1 60 11) (M.1 66 10) c) (sFw (sLf (mV M) (M.1 60 11) (M.1 66 10) c) wk (M.1 60 14 + 1 - wk)) (M.1 60 14 - sFw (sLf (mV M) (M.1 60 11) (M.1 66 10) c) wk (M.1 60 14 + 1 - wk))) - (sFw (sLf (mV M) (M.1 60 11) (M.1 66 10) c) wk (M.1 60 14 + 1 - wk))) + 1)))] dX7_longest_102 (by decide) rfl rfl ?_
                refine g_aload_n (pc := 103) 0 rfl rfl dX7_longest_103 ?_
                refine fX7_165 (pc := 104) rfl hR.s0 dX7_longest_104 ?_
                refine g_topi (pc := 107) (x' := nI (sTw (sLf (mV M) (M.1 60 11) (M.1 66 10) c) (sFw (sLf (mV M) (M.1 60 11) (M.1 66 10) c) wk (M.1 60 14 + 1 - wk)) (M.1 60 14 - sFw (sLf (mV M) (M.1 60 11) (M.1 66 10) c) wk (M.1 60 14 + 1 - wk)))) (by simp [gU]) ?_
                refine g_iconst (pc := 107) (nI 1) (by decide) dX7_longest_107 ?_
                refine g_iaddN (pc := 108) dX7_longest_108 ?_
                refine g_istore (pc := 109) [(0, .ref (gAd E 60)), (1, .int (nI q)), (2, .int (nI (((sTw (sLf (mV M) (M.1 60 11) (M.1 66 10) c) (sFw (sLf (mV M) (M.1 60 11) (M.1 66 10) c) wk (M.1 60 14 + 1 - wk)) (M.1 60 14 - sFw (sLf (mV M) (M.1 60 11) (M.1 66 10) c) wk (M.1 60 14 + 1 - wk))) - (sFw (sLf (mV M) (M.1 60 11) (M.1 66 10) c) wk (M.1 60 14 + 1 - wk))) + 1))), (3, .int (nI c)), (4, .int (nI (sFw (sLf (mV M) (M.1 60 11) (M.1 66 10) c) wk (M.1 60 14 + 1 - wk)))), (5, .int (nI c)), (6, .int (nI ((sTw (sLf (mV M) (M.1 60 11) (M.1 66 10) c) (sFw (sLf (mV M) (M.1 60 11) (M.1 66 10) c) wk (M.1 60 14 + 1 - wk)) (M.1 60 14 - sFw (sLf (mV M) (M.1 60 11) (M.1 66 10) c) wk (M.1 60 14 + 1 - wk))) + 1))), (7, .int (nI (((sTw (sLf (mV M) (M.1 60 11) (M.1 66 10) c) (sFw (sLf (mV M) (M.1 60 11) (M.1 66 10) c) wk (M.1 60 14 + 1 - wk)) (M.1 60 14 - sFw (sLf (mV M) (M.1 60 11) (M.1 66 10) c) wk (M.1 60 14 + 1 - wk))) - (sFw (sLf (mV M) (M.1 60 11) (M.1 66 10) c) wk (M.1 60 14 + 1 - wk))) + 1)))] dX7_longest_109 (by decide) rfl rfl ?_
                refine g_goto (pc := 111) 36 dX7_longest_111 (by decide) ?_
                refine g_pick (pc := 36) [0, 1, 2, 3, 4, 5, 6] [(0, .ref (gAd E 60)), (1, .int (nI q)), (2, .int (nI (((sTw (sLf (mV M) (M.1 60 11) (M.1 66 10) c) (sFw (sLf (mV M) (M.1 60 11) (M.1 66 10) c) wk (M.1 60 14 + 1 - wk)) (M.1 60 14 - sFw (sLf (mV M) (M.1 60 11) (M.1 66 10) c) wk (M.1 60 14 + 1 - wk))) - (sFw (sLf (mV M) (M.1 60 11) (M.1 66 10) c) wk (M.1 60 14 + 1 - wk))) + 1))), (3, .int (nI c)), (4, .int (nI (sFw (sLf (mV M) (M.1 60 11) (M.1 66 10) c) wk (M.1 60 14 + 1 - wk)))), (5, .int (nI c)), (6, .int (nI ((sTw (sLf (mV M) (M.1 60 11) (M.1 66 10) c) (sFw (sLf (mV M) (M.1 60 11) (M.1 66 10) c) wk (M.1 60 14 + 1 - wk)) (M.1 60 14 - sFw (sLf (mV M) (M.1 60 11) (M.1 66 10) c) wk (M.1 60 14 + 1 - wk))) + 1)))] rfl ?_
                refine g_lv (pc := 36) (lv' := [(0, .ref (gAd E 60)), (1, .int (nI q)), (2, .int (nI ((sTw (sLf (mV M) (M.1 60 11) (M.1 66 10) c) (sFw (sLf (mV M) (M.1 60 11) (M.1 66 10) c) wk (M.1 60 14 + 1 - wk)) (M.1 60 14 - sFw (sLf (mV M) (M.1 60 11) (M.1 66 10) c) wk (M.1 60 14 + 1 - wk)) - (sFw (sLf (mV M) (M.1 60 11) (M.1 66 10) c) wk (M.1 60 14 + 1 - wk)) + 1, c, sFw (sLf (mV M) (M.1 60 11) (M.1 66 10) c) wk (M.1 60 14 + 1 - wk)).1))), (3, .int (lgF (sTw (sLf (mV M) (M.1 60 11) (M.1 66 10) c) (sFw (sLf (mV M) (M.1 60 11) (M.1 66 10) c) wk (M.1 60 14 + 1 - wk)) (M.1 60 14 - sFw (sLf (mV M) (M.1 60 11) (M.1 66 10) c) wk (M.1 60 14 + 1 - wk)) - (sFw (sLf (mV M) (M.1 60 11) (M.1 66 10) c) wk (M.1 60 14 + 1 - wk)) + 1, c, sFw (sLf (mV M) (M.1 60 11) (M.1 66 10) c) wk (M.1 60 14 + 1 - wk)))), (4, .int (lgG (sTw (sLf (mV M) (M.1 60 11) (M.1 66 10) c) (sFw (sLf (mV M) (M.1 60 11) (M.1 66 10) c) wk (M.1 60 14 + 1 - wk)) (M.1 60 14 - sFw (sLf (mV M) (M.1 60 11) (M.1 66 10) c) wk (M.1 60 14 + 1 - wk)) - (sFw (sLf (mV M) (M.1 60 11) (M.1 66 10) c) wk (M.1 60 14 + 1 - wk)) + 1, c, sFw (sLf (mV M) (M.1 60 11) (M.1 66 10) c) wk (M.1 60 14 + 1 - wk)))), (5, .int (nI c)), (6, .int (nI (sTw (sLf (mV M) (M.1 60 11) (M.1 66 10) c) (sFw (sLf (mV M) (M.1 60 11) (M.1 66 10) c) wk (M.1 60 14 + 1 - wk)) (M.1 60 14 - sFw (sLf (mV M) (M.1 60 11) (M.1 66 10) c) wk (M.1 60 14 + 1 - wk)) + 1)))]) (by simp only [lgF, lgG]; rw [if_neg (by omega), if_neg (by omega)]) ?_
                exact ih (sTw (sLf (mV M) (M.1 60 11) (M.1 66 10) c) (sFw (sLf (mV M) (M.1 60 11) (M.1 66 10) c) wk (M.1 60 14 + 1 - wk)) (M.1 60 14 - sFw (sLf (mV M) (M.1 60 11) (M.1 66 10) c) wk (M.1 60 14 + 1 - wk)) + 1) (sTw (sLf (mV M) (M.1 60 11) (M.1 66 10) c) (sFw (sLf (mV M) (M.1 60 11) (M.1 66 10) c) wk (M.1 60 14 + 1 - wk)) (M.1 60 14 - sFw (sLf (mV M) (M.1 60 11) (M.1 66 10) c) wk (M.1 60 14 + 1 - wk)) - (sFw (sLf (mV M) (M.1 60 11) (M.1 66 10) c) wk (M.1 60 14 + 1 - wk)) + 1, c, sFw (sLf (mV M) (M.1 60 11) (M.1 66 10) c) wk (M.1 60 14 + 1 - wk)) _ _ (by omega) (by omega) (by show sTw (sLf (mV M) (M.1 60 11) (M.1 66 10) c) (sFw (sLf (mV M) (M.1 60 11) (M.1 66 10) c) wk (M.1 60 14 + 1 - wk)) (M.1 60 14 - sFw (sLf (mV M) (M.1 60 11) (M.1 66 10) c) wk (M.1 60 14 + 1 - wk)) - (sFw (sLf (mV M) (M.1 60 11) (M.1 66 10) c) wk (M.1 60 14 + 1 - wk)) + 1 ≤ _; omega) (by rw [he]; simp only [lgS]; rw [if_pos hfo, if_pos h63])
        exact lp 60 (M.1 60 13) (lgM (mV M) (M.1 60 11) (M.1 66 10) (M.1 60 13) (M.1 60 14) c) a1 a2 (by omega) (by omega) (lgM_le hft c) rfl
    refine g_mm (pc := 23) (M' := gU (gU M 60 19 (M.1 60 19)) 60 20 (M.1 60 20)) gU_w0.symm ?_
    refine g_lv (pc := 23) (lv' := [(0, .ref (gAd E 60)), (1, .int (nI q)), (2, .int (nI ((lgM (mV M) (M.1 60 11) (M.1 66 10) (M.1 60 13) (M.1 60 14) 0).1))), (3, .int (lgF (lgM (mV M) (M.1 60 11) (M.1 66 10) (M.1 60 13) (M.1 60 14) 0))), (4, .int (lgG (lgM (mV M) (M.1 60 11) (M.1 66 10) (M.1 60 13) (M.1 60 14) 0))), (5, .int (nI 0))]) rfl ?_
    exact lp23 0 (by omega) _ _
  · refine g_iconst (pc := 9) ((-1)) (by decide) dX7_longest_9 ?_
    exact g_iret (pc := 10) rfl dX7_longest_10 ⟨congrArg (fun z => some (Value.int z)) (by rw [fSel_oG (n := 4) h6]), Or.inl rfl⟩
