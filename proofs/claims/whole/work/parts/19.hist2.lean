theorem chs {E : gEnv} {M : gMem} {c : Nat} (hS : cSs E) (h : hOk M) (hc : c < 6) : gSh E (M.2 6 c) = 2 := by
  have h1 := h.1 c hc
  have h2 := hS.2.2.2.2.2.2.2.2.2 (M.2 6 c - 10) (by omega)
  rw [show 10 + (M.2 6 c - 10) = M.2 6 c by omega] at h2
  exact h2
theorem hRot_eq (M : gMem) : gU (gUr (gUr (gUr (gUr (gUr (gUr M 6 0 (M.2 6 1)) 6 1 (M.2 6 2)) 6 2 (M.2 6 3)) 6 3 (M.2 6 4)) 6 4 (M.2 6 5)) 6 5 (M.2 6 0)) 5 1 5 = hRot M := by
  refine Prod.ext (funext fun a => funext fun k => ?_) (funext fun a => funext fun k => ?_)
  · simp only [gU, gUr, hRot]
  · simp only [gU, gUr, hRot]
    by_cases ha : a = 6
    · subst ha
      match k with
      | 0 => rfl
      | 1 => rfl
      | 2 => rfl
      | 3 => rfl
      | 4 => rfl
      | 5 => rfl
      | k + 6 => simp; omega
    · simp [ha]
set_option maxRecDepth 100000 in
set_option maxHeartbeats 4000000 in
theorem kX2_loseOldest (l : Launch) (E : gEnv) (M : gMem) (hS : cSs E) (h : hOk M) (hr : M.2 5 0 = 6) : gMetU l E mX2_loseOldest 0 [.ref (gAd E 5)] M (hRot M) := by
  refine gMet_of (mm := mX2_loseOldest) (h := 0) (M := M) [(0, .ref (gAd E 5))] (by decide) (Nat.le_of_ble_eq_true rfl) rfl ?_
  refine g_aload_n (pc := 0) 0 rfl rfl dX2_loseOldest_0 ?_
  refine fX2_11 (pc := 1) 6 rfl hS.2.2.2.2.2.2.1 hr (by decide) dX2_loseOldest_1 ?_
  refine g_iconst (pc := 4) (nI 0) (by decide) dX2_loseOldest_4 ?_
  refine g_aaload (pc := 5) (t0 := 4) (r := (M.2 6 0)) hS.2.2.2.2.2.2.2.1 (by decide) rfl (by rw [hS.2.2.2.2.2.2.2.2.1]; omega) (by rw [hS.2.2.2.2.2.2.2.2.1]; omega) (by simp [gUr]) (by have := h.1 0 (by omega); omega) dX2_loseOldest_5 ?_
  refine g_astore_n (pc := 6) rfl [(0, .ref (gAd E 5)), (1, .ref (gAd E ((M.2 6 0))))] dX2_loseOldest_6 (by decide) rfl rfl ?_
  refine g_iconst (pc := 7) (nI 1) (by decide) dX2_loseOldest_7 ?_
  refine g_istore_n (pc := 8) rfl [(0, .ref (gAd E 5)), (1, .ref (gAd E ((M.2 6 0)))), (2, .int (nI 1))] dX2_loseOldest_8 (by decide) rfl rfl ?_
  refine g_iload_n (pc := 9) 2 rfl rfl dX2_loseOldest_9 ?_
  refine g_bipush (pc := 10) (nI 6) (by decide) dX2_loseOldest_10 ?_
  refine g_icmpN_ge (pc := 12) 35 dX2_loseOldest_12 (by decide) (by omega) (by omega) (fun h12 => absurd h12 (by omega)) (fun h12 => ?_)
  refine g_aload_n (pc := 15) 0 rfl rfl dX2_loseOldest_15 ?_
  refine fX2_11 (pc := 16) 6 rfl hS.2.2.2.2.2.2.1 hr (by decide) dX2_loseOldest_16 ?_
  refine g_iload_n (pc := 19) 2 rfl rfl dX2_loseOldest_19 ?_
  refine g_iconst (pc := 20) (nI 1) (by decide) dX2_loseOldest_20 ?_
  refine g_isubN (pc := 21) (by omega) dX2_loseOldest_21 ?_
  refine g_aload_n (pc := 22) 0 rfl rfl dX2_loseOldest_22 ?_
  refine fX2_11 (pc := 23) 6 rfl hS.2.2.2.2.2.2.1 hr (by decide) dX2_loseOldest_23 ?_
  refine g_iload_n (pc := 26) 2 rfl rfl dX2_loseOldest_26 ?_
  refine g_aaload (pc := 27) (t0 := 4) (r := (M.2 6 1)) hS.2.2.2.2.2.2.2.1 (by decide) rfl (by rw [hS.2.2.2.2.2.2.2.2.1]; omega) (by rw [hS.2.2.2.2.2.2.2.2.1]; omega) (by simp [gUr]) (by have := h.1 1 (by omega); omega) dX2_loseOldest_27 ?_
  refine g_aastore (pc := 28) (t0 := 4) (kv := 2) hS.2.2.2.2.2.2.2.1 (by decide) (chs hS h (c := 1) (by omega)) (by decide) (by decide) rfl rfl (by rw [hS.2.2.2.2.2.2.2.2.1]; omega) (by rw [hS.2.2.2.2.2.2.2.2.1]; omega) (by have := h.1 1 (by omega); omega) dX2_loseOldest_28 ?_
  refine g_iincN (pc := 29) 1 2 [(0, .ref (gAd E 5)), (1, .ref (gAd E ((M.2 6 0)))), (2, .int (nI 2))] rfl dX2_loseOldest_29 (by decide) rfl rfl ?_
  refine g_goto (pc := 32) 9 dX2_loseOldest_32 (by decide) ?_
  refine g_iload_n (pc := 9) 2 rfl rfl dX2_loseOldest_9 ?_
  refine g_bipush (pc := 10) (nI 6) (by decide) dX2_loseOldest_10 ?_
  refine g_icmpN_ge (pc := 12) 35 dX2_loseOldest_12 (by decide) (by omega) (by omega) (fun h12 => absurd h12 (by omega)) (fun h12 => ?_)
  refine g_aload_n (pc := 15) 0 rfl rfl dX2_loseOldest_15 ?_
  refine fX2_11 (pc := 16) 6 rfl hS.2.2.2.2.2.2.1 hr (by decide) dX2_loseOldest_16 ?_
  refine g_iload_n (pc := 19) 2 rfl rfl dX2_loseOldest_19 ?_
  refine g_iconst (pc := 20) (nI 1) (by decide) dX2_loseOldest_20 ?_
  refine g_isubN (pc := 21) (by omega) dX2_loseOldest_21 ?_
  refine g_aload_n (pc := 22) 0 rfl rfl dX2_loseOldest_22 ?_
  refine fX2_11 (pc := 23) 6 rfl hS.2.2.2.2.2.2.1 hr (by decide) dX2_loseOldest_23 ?_
  refine g_iload_n (pc := 26) 2 rfl rfl dX2_loseOldest_26 ?_
  refine g_aaload (pc := 27) (t0 := 4) (r := (M.2 6 2)) hS.2.2.2.2.2.2.2.1 (by decide) rfl (by rw [hS.2.2.2.2.2.2.2.2.1]; omega) (by rw [hS.2.2.2.2.2.2.2.2.1]; omega) (by simp [gUr]) (by have := h.1 2 (by omega); omega) dX2_loseOldest_27 ?_
  refine g_aastore (pc := 28) (t0 := 4) (kv := 2) hS.2.2.2.2.2.2.2.1 (by decide) (chs hS h (c := 2) (by omega)) (by decide) (by decide) rfl rfl (by rw [hS.2.2.2.2.2.2.2.2.1]; omega) (by rw [hS.2.2.2.2.2.2.2.2.1]; omega) (by have := h.1 2 (by omega); omega) dX2_loseOldest_28 ?_
  refine g_iincN (pc := 29) 1 2 [(0, .ref (gAd E 5)), (1, .ref (gAd E ((M.2 6 0)))), (2, .int (nI 3))] rfl dX2_loseOldest_29 (by decide) rfl rfl ?_
  refine g_goto (pc := 32) 9 dX2_loseOldest_32 (by decide) ?_
  refine g_iload_n (pc := 9) 2 rfl rfl dX2_loseOldest_9 ?_
  refine g_bipush (pc := 10) (nI 6) (by decide) dX2_loseOldest_10 ?_
  refine g_icmpN_ge (pc := 12) 35 dX2_loseOldest_12 (by decide) (by omega) (by omega) (fun h12 => absurd h12 (by omega)) (fun h12 => ?_)
  refine g_aload_n (pc := 15) 0 rfl rfl dX2_loseOldest_15 ?_
  refine fX2_11 (pc := 16) 6 rfl hS.2.2.2.2.2.2.1 hr (by decide) dX2_loseOldest_16 ?_
  refine g_iload_n (pc := 19) 2 rfl rfl dX2_loseOldest_19 ?_
  refine g_iconst (pc := 20) (nI 1) (by decide) dX2_loseOldest_20 ?_
  refine g_isubN (pc := 21) (by omega) dX2_loseOldest_21 ?_
  refine g_aload_n (pc := 22) 0 rfl rfl dX2_loseOldest_22 ?_
  refine fX2_11 (pc := 23) 6 rfl hS.2.2.2.2.2.2.1 hr (by decide) dX2_loseOldest_23 ?_
  refine g_iload_n (pc := 26) 2 rfl rfl dX2_loseOldest_26 ?_
  refine g_aaload (pc := 27) (t0 := 4) (r := (M.2 6 3)) hS.2.2.2.2.2.2.2.1 (by decide) rfl (by rw [hS.2.2.2.2.2.2.2.2.1]; omega) (by rw [hS.2.2.2.2.2.2.2.2.1]; omega) (by simp [gUr]) (by have := h.1 3 (by omega); omega) dX2_loseOldest_27 ?_
  refine g_aastore (pc := 28) (t0 := 4) (kv := 2) hS.2.2.2.2.2.2.2.1 (by decide) (chs hS h (c := 3) (by omega)) (by decide) (by decide) rfl rfl (by rw [hS.2.2.2.2.2.2.2.2.1]; omega) (by rw [hS.2.2.2.2.2.2.2.2.1]; omega) (by have := h.1 3 (by omega); omega) dX2_loseOldest_28 ?_
  refine g_iincN (pc := 29) 1 2 [(0, .ref (gAd E 5)), (1, .ref (gAd E ((M.2 6 0)))), (2, .int (nI 4))] rfl dX2_loseOldest_29 (by decide) rfl rfl ?_
  refine g_goto (pc := 32) 9 dX2_loseOldest_32 (by decide) ?_
  refine g_iload_n (pc := 9) 2 rfl rfl dX2_loseOldest_9 ?_
  refine g_bipush (pc := 10) (nI 6) (by decide) dX2_loseOldest_10 ?_
  refine g_icmpN_ge (pc := 12) 35 dX2_loseOldest_12 (by decide) (by omega) (by omega) (fun h12 => absurd h12 (by omega)) (fun h12 => ?_)
  refine g_aload_n (pc := 15) 0 rfl rfl dX2_loseOldest_15 ?_
  refine fX2_11 (pc := 16) 6 rfl hS.2.2.2.2.2.2.1 hr (by decide) dX2_loseOldest_16 ?_
  refine g_iload_n (pc := 19) 2 rfl rfl dX2_loseOldest_19 ?_
  refine g_iconst (pc := 20) (nI 1) (by decide) dX2_loseOldest_20 ?_
  refine g_isubN (pc := 21) (by omega) dX2_loseOldest_21 ?_
  refine g_aload_n (pc := 22) 0 rfl rfl dX2_loseOldest_22 ?_
  refine fX2_11 (pc := 23) 6 rfl hS.2.2.2.2.2.2.1 hr (by decide) dX2_loseOldest_23 ?_
  refine g_iload_n (pc := 26) 2 rfl rfl dX2_loseOldest_26 ?_
  refine g_aaload (pc := 27) (t0 := 4) (r := (M.2 6 4)) hS.2.2.2.2.2.2.2.1 (by decide) rfl (by rw [hS.2.2.2.2.2.2.2.2.1]; omega) (by rw [hS.2.2.2.2.2.2.2.2.1]; omega) (by simp [gUr]) (by have := h.1 4 (by omega); omega) dX2_loseOldest_27 ?_
  refine g_aastore (pc := 28) (t0 := 4) (kv := 2) hS.2.2.2.2.2.2.2.1 (by decide) (chs hS h (c := 4) (by omega)) (by decide) (by decide) rfl rfl (by rw [hS.2.2.2.2.2.2.2.2.1]; omega) (by rw [hS.2.2.2.2.2.2.2.2.1]; omega) (by have := h.1 4 (by omega); omega) dX2_loseOldest_28 ?_
  refine g_iincN (pc := 29) 1 2 [(0, .ref (gAd E 5)), (1, .ref (gAd E ((M.2 6 0)))), (2, .int (nI 5))] rfl dX2_loseOldest_29 (by decide) rfl rfl ?_
  refine g_goto (pc := 32) 9 dX2_loseOldest_32 (by decide) ?_
  refine g_iload_n (pc := 9) 2 rfl rfl dX2_loseOldest_9 ?_
  refine g_bipush (pc := 10) (nI 6) (by decide) dX2_loseOldest_10 ?_
  refine g_icmpN_ge (pc := 12) 35 dX2_loseOldest_12 (by decide) (by omega) (by omega) (fun h12 => absurd h12 (by omega)) (fun h12 => ?_)
  refine g_aload_n (pc := 15) 0 rfl rfl dX2_loseOldest_15 ?_
  refine fX2_11 (pc := 16) 6 rfl hS.2.2.2.2.2.2.1 hr (by decide) dX2_loseOldest_16 ?_
  refine g_iload_n (pc := 19) 2 rfl rfl dX2_loseOldest_19 ?_
  refine g_iconst (pc := 20) (nI 1) (by decide) dX2_loseOldest_20 ?_
  refine g_isubN (pc := 21) (by omega) dX2_loseOldest_21 ?_
  refine g_aload_n (pc := 22) 0 rfl rfl dX2_loseOldest_22 ?_
  refine fX2_11 (pc := 23) 6 rfl hS.2.2.2.2.2.2.1 hr (by decide) dX2_loseOldest_23 ?_
  refine g_iload_n (pc := 26) 2 rfl rfl dX2_loseOldest_26 ?_
  refine g_aaload (pc := 27) (t0 := 4) (r := (M.2 6 5)) hS.2.2.2.2.2.2.2.1 (by decide) rfl (by rw [hS.2.2.2.2.2.2.2.2.1]; omega) (by rw [hS.2.2.2.2.2.2.2.2.1]; omega) (by simp [gUr]) (by have := h.1 5 (by omega); omega) dX2_loseOldest_27 ?_
  refine g_aastore (pc := 28) (t0 := 4) (kv := 2) hS.2.2.2.2.2.2.2.1 (by decide) (chs hS h (c := 5) (by omega)) (by decide) (by decide) rfl rfl (by rw [hS.2.2.2.2.2.2.2.2.1]; omega) (by rw [hS.2.2.2.2.2.2.2.2.1]; omega) (by have := h.1 5 (by omega); omega) dX2_loseOldest_28 ?_
  refine g_iincN (pc := 29) 1 2 [(0, .ref (gAd E 5)), (1, .ref (gAd E ((M.2 6 0)))), (2, .int (nI 6))] rfl dX2_loseOldest_29 (by decide) rfl rfl ?_
  refine g_goto (pc := 32) 9 dX2_loseOldest_32 (by decide) ?_
  refine g_iload_n (pc := 9) 2 rfl rfl dX2_loseOldest_9 ?_
  refine g_bipush (pc := 10) (nI 6) (by decide) dX2_loseOldest_10 ?_
  refine g_icmpN_ge (pc := 12) 35 dX2_loseOldest_12 (by decide) (by omega) (by omega) (fun h12 => ?_) (fun h12 => absurd h12 (by omega))
  refine g_aload_n (pc := 35) 0 rfl rfl dX2_loseOldest_35 ?_
  refine fX2_11 (pc := 36) 6 rfl hS.2.2.2.2.2.2.1 hr (by decide) dX2_loseOldest_36 ?_
  refine g_iconst (pc := 39) (nI 5) (by decide) dX2_loseOldest_39 ?_
  refine g_aload_n (pc := 40) 1 rfl rfl dX2_loseOldest_40 ?_
  refine g_aastore (pc := 41) (t0 := 4) (kv := 2) hS.2.2.2.2.2.2.2.1 (by decide) (chs hS h (c := 0) (by omega)) (by decide) (by decide) rfl rfl (by rw [hS.2.2.2.2.2.2.2.2.1]; omega) (by rw [hS.2.2.2.2.2.2.2.2.1]; omega) (by have := h.1 0 (by omega); omega) dX2_loseOldest_41 ?_
  refine g_aload_n (pc := 42) 0 rfl rfl dX2_loseOldest_42 ?_
  refine g_iconst (pc := 43) (nI 5) (by decide) dX2_loseOldest_43 ?_
  refine uX2_18 (pc := 44) rfl hS.2.2.2.2.2.2.1 dX2_loseOldest_44 ?_
  exact g_vret (pc := 47) rfl dX2_loseOldest_47 ⟨rfl, hRot_eq M⟩
set_option maxRecDepth 100000 in
set_option maxHeartbeats 4000000 in
theorem kX2_add (l : Launch) (E : gEnv) (M : gMem) (hS : cSs E) (h : hOk M) (hr : M.2 5 0 = 6) (hz : M.1 5 1 ≤ 6) (sg i mv : Nat) : gMet l E mX2_add 1 [.ref (gAd E 5), .int (nI sg), .int (nI i), .int (nI mv)] M (fun v u => v = none ∧ hAdd M u sg i mv) := by
  have h0 := h
  refine gMet_of (mm := mX2_add) (h := 1) (M := M) [(0, .ref (gAd E 5)), (1, .int (nI sg)), (2, .int (nI i)), (3, .int (nI mv))] (by decide) (Nat.le_of_ble_eq_true rfl) rfl ?_
  refine g_aload_n (pc := 0) 0 rfl rfl dX2_add_0 ?_
  refine fX2_18 (pc := 1) rfl hS.2.2.2.2.2.2.1 dX2_add_1 ?_
  refine g_bipush (pc := 4) (nI 6) (by decide) dX2_add_4 ?_
  refine g_icmpN_lt (pc := 6) 13 dX2_add_6 (by decide) (by omega) (by omega) (fun h6 => ?_) (fun h6 => ?_)
  · refine g_aload_n (pc := 13) 0 rfl rfl dX2_add_13 ?_
    refine fX2_11 (pc := 14) 6 rfl hS.2.2.2.2.2.2.1 hr (by decide) dX2_add_14 ?_
    refine g_aload_n (pc := 17) 0 rfl rfl dX2_add_17 ?_
    refine fX2_18 (pc := 18) rfl hS.2.2.2.2.2.2.1 dX2_add_18 ?_
    refine g_aaload (pc := 21) (t0 := 4) (r := (M.2 6 (M.1 5 1))) hS.2.2.2.2.2.2.2.1 (by decide) rfl (by rw [hS.2.2.2.2.2.2.2.2.1]; omega) (by rw [hS.2.2.2.2.2.2.2.2.1]; omega) rfl (by have := h.1 (M.1 5 1) (by omega); omega) dX2_add_21 ?_
    refine g_astore (pc := 22) [(0, .ref (gAd E 5)), (1, .int (nI sg)), (2, .int (nI i)), (3, .int (nI mv)), (4, .ref (gAd E ((M.2 6 (M.1 5 1)))))] dX2_add_22 (by decide) rfl rfl ?_
    refine g_aload (pc := 24) 4 rfl dX2_add_24 ?_
    refine g_iload_n (pc := 26) 1 rfl rfl dX2_add_26 ?_
    refine uX2_25 (pc := 27) rfl (chs hS h (c := (M.1 5 1)) (by omega)) dX2_add_27 ?_
    refine g_aload (pc := 30) 4 rfl dX2_add_30 ?_
    refine g_iload_n (pc := 32) 2 rfl rfl dX2_add_32 ?_
    refine uX2_28 (pc := 33) rfl (chs hS h (c := (M.1 5 1)) (by omega)) dX2_add_33 ?_
    refine g_aload (pc := 36) 4 rfl dX2_add_36 ?_
    refine g_iload_n (pc := 38) 3 rfl rfl dX2_add_38 ?_
    refine uX2_31 (pc := 39) rfl (chs hS h (c := (M.1 5 1)) (by omega)) dX2_add_39 ?_
    refine g_aload_n (pc := 42) 0 rfl rfl dX2_add_42 ?_
    refine g_dup (pc := 43) rfl dX2_add_43 ?_
    refine fX2_18 (pc := 44) rfl hS.2.2.2.2.2.2.1 dX2_add_44 ?_
    refine g_topi (pc := 47) (x' := nI ((gU (gU M ((M.2 6 (M.1 5 1))) 0 sg) ((M.2 6 (M.1 5 1))) 1 i).1 5 1)) (by simp [gU, gUr]) ?_
    have q2 : (M).2 6 (M.1 5 1) ≠ 5 := by have := h.1 (M.1 5 1) (by omega); omega
    refine g_topi (pc := 47) (x' := nI (M.1 5 1)) (by simp [gU, Ne.symm q2]) ?_
    refine g_iconst (pc := 47) (nI 1) (by decide) dX2_add_47 ?_
    refine g_iaddN (pc := 48) dX2_add_48 ?_
    refine uX2_18 (pc := 49) rfl hS.2.2.2.2.2.2.1 dX2_add_49 ?_
    exact g_vret (pc := 52) rfl dX2_add_52 ⟨rfl, hAdd_lt h0 h6⟩
  · refine g_aload_n (pc := 9) 0 rfl rfl dX2_add_9 ?_
    refine g_callV (pc := 10) (mc := mX2_loseOldest) (rest := []) lX2_22 iX2_loseOldest (kX2_loseOldest l E M hS h hr) ⟨Nat.le_of_ble_eq_true rfl, Nat.le_of_ble_eq_true rfl⟩ hS.2.2.2.2.2.2.1 (by decide) (by decide) rfl rfl rfl rfl (Nat.le_of_ble_eq_true rfl) ⟨Nat.zero_le _, Nat.zero_le _⟩ dX2_add_10 (g_rU ?_)
    have h := hRot_ok h
    have hr : (hRot M).2 5 0 = 6 := by simp [hRot]; exact hr
    refine g_aload_n (pc := 13) 0 rfl rfl dX2_add_13 ?_
    refine fX2_11 (pc := 14) 6 rfl hS.2.2.2.2.2.2.1 hr (by decide) dX2_add_14 ?_
    refine g_aload_n (pc := 17) 0 rfl rfl dX2_add_17 ?_
    refine fX2_18 (pc := 18) rfl hS.2.2.2.2.2.2.1 dX2_add_18 ?_
    refine g_topi (pc := 21) (x' := nI 5) (by simp [hRot]) ?_
    refine g_aaload (pc := 21) (t0 := 4) (r := ((hRot M).2 6 5)) hS.2.2.2.2.2.2.2.1 (by decide) rfl (by rw [hS.2.2.2.2.2.2.2.2.1]; omega) (by rw [hS.2.2.2.2.2.2.2.2.1]; omega) rfl (by have := h.1 5 (by omega); omega) dX2_add_21 ?_
    refine g_astore (pc := 22) [(0, .ref (gAd E 5)), (1, .int (nI sg)), (2, .int (nI i)), (3, .int (nI mv)), (4, .ref (gAd E (((hRot M).2 6 5))))] dX2_add_22 (by decide) rfl rfl ?_
    refine g_aload (pc := 24) 4 rfl dX2_add_24 ?_
    refine g_iload_n (pc := 26) 1 rfl rfl dX2_add_26 ?_
    refine uX2_25 (pc := 27) rfl (chs hS h (c := 5) (by omega)) dX2_add_27 ?_
    refine g_aload (pc := 30) 4 rfl dX2_add_30 ?_
    refine g_iload_n (pc := 32) 2 rfl rfl dX2_add_32 ?_
    refine uX2_28 (pc := 33) rfl (chs hS h (c := 5) (by omega)) dX2_add_33 ?_
    refine g_aload (pc := 36) 4 rfl dX2_add_36 ?_
    refine g_iload_n (pc := 38) 3 rfl rfl dX2_add_38 ?_
    refine uX2_31 (pc := 39) rfl (chs hS h (c := 5) (by omega)) dX2_add_39 ?_
    refine g_aload_n (pc := 42) 0 rfl rfl dX2_add_42 ?_
    refine g_dup (pc := 43) rfl dX2_add_43 ?_
    refine fX2_18 (pc := 44) rfl hS.2.2.2.2.2.2.1 dX2_add_44 ?_
    refine g_topi (pc := 47) (x' := nI ((gU (gU (hRot M) (((hRot M).2 6 5)) 0 sg) (((hRot M).2 6 5)) 1 i).1 5 1)) (by simp [gU, gUr]) ?_
    have q2 : (hRot M).2 6 5 ≠ 5 := by have := h.1 5 (by omega); omega
    refine g_topi (pc := 47) (x' := nI 5) (by simp [gU, Ne.symm q2]; simp [hRot]) ?_
    refine g_iconst (pc := 47) (nI 1) (by decide) dX2_add_47 ?_
    refine g_iaddN (pc := 48) dX2_add_48 ?_
    refine uX2_18 (pc := 49) rfl hS.2.2.2.2.2.2.1 dX2_add_49 ?_
    exact g_vret (pc := 52) rfl dX2_add_52 ⟨rfl, hAdd_6 h0 (by omega)⟩
set_option maxRecDepth 100000 in
set_option maxHeartbeats 4000000 in
theorem kX2_forget (l : Launch) (E : gEnv) (M : gMem) (hS : cSs E) : gMetU l E mX2_forget 0 [.ref (gAd E 5)] M (gU M 5 1 0) := by
  refine gMet_of (mm := mX2_forget) (h := 0) (M := M) [(0, .ref (gAd E 5))] (by decide) (Nat.le_of_ble_eq_true rfl) rfl ?_
  refine g_aload_n (pc := 0) 0 rfl rfl dX2_forget_0 ?_
  refine g_iconst (pc := 1) (nI 0) (by decide) dX2_forget_1 ?_
  refine uX2_18 (pc := 2) rfl hS.2.2.2.2.2.2.1 dX2_forget_2 ?_
  exact g_vret (pc := 5) rfl dX2_forget_5 ⟨rfl, rfl⟩
set_option maxRecDepth 100000 in
set_option maxHeartbeats 4000000 in
theorem kX2_takeLatest0 (l : Launch) (E : gEnv) (M : gMem) (hS : cSs E) (h : hOk M) (hr : M.2 5 0 = 6) (hz : M.1 5 1 = 0) : gMet l E mX2_takeLatest 0 [.ref (gAd E 5)] M (fun v u => v = some .null ∧ u = M) := by
  refine gMet_of (mm := mX2_takeLatest) (h := 0) (M := M) [(0, .ref (gAd E 5))] (by decide) (Nat.le_of_ble_eq_true rfl) rfl ?_
  refine g_aload_n (pc := 0) 0 rfl rfl dX2_takeLatest_0 ?_
  refine fX2_18 (pc := 1) rfl hS.2.2.2.2.2.2.1 dX2_takeLatest_1 ?_
  refine g_ifN_gt (pc := 4) 9 dX2_takeLatest_4 (by decide) (by omega) (fun h4 => absurd h4 (by omega)) (fun h4 => ?_)
  refine g_null (pc := 7) dX2_takeLatest_7 ?_
  exact g_aret (pc := 8) rfl (Or.inl rfl) dX2_takeLatest_8 ⟨rfl, rfl⟩
set_option maxRecDepth 100000 in
set_option maxHeartbeats 4000000 in
theorem kX2_takeLatest (l : Launch) (E : gEnv) (M : gMem) (hS : cSs E) (h : hOk M) (hr : M.2 5 0 = 6) (hz : M.1 5 1 ≤ 6) (hz0 : 0 < M.1 5 1) : gMet l E mX2_takeLatest 0 [.ref (gAd E 5)] M (fun v u => v = some (.ref (gAd E (M.2 6 (M.1 5 1 - 1)))) ∧ u = gU M 5 1 (M.1 5 1 - 1)) := by
  refine gMet_of (mm := mX2_takeLatest) (h := 0) (M := M) [(0, .ref (gAd E 5))] (by decide) (Nat.le_of_ble_eq_true rfl) rfl ?_
  refine g_aload_n (pc := 0) 0 rfl rfl dX2_takeLatest_0 ?_
  refine fX2_18 (pc := 1) rfl hS.2.2.2.2.2.2.1 dX2_takeLatest_1 ?_
  refine g_ifN_gt (pc := 4) 9 dX2_takeLatest_4 (by decide) (by omega) (fun h4 => ?_) (fun h4 => absurd h4 (by omega))
  refine g_aload_n (pc := 9) 0 rfl rfl dX2_takeLatest_9 ?_
  refine g_dup (pc := 10) rfl dX2_takeLatest_10 ?_
  refine fX2_18 (pc := 11) rfl hS.2.2.2.2.2.2.1 dX2_takeLatest_11 ?_
  refine g_iconst (pc := 14) (nI 1) (by decide) dX2_takeLatest_14 ?_
  refine g_isubN (pc := 15) (by omega) dX2_takeLatest_15 ?_
  refine uX2_18 (pc := 16) rfl hS.2.2.2.2.2.2.1 dX2_takeLatest_16 ?_
  refine g_aload_n (pc := 19) 0 rfl rfl dX2_takeLatest_19 ?_
  refine fX2_11 (pc := 20) 6 rfl hS.2.2.2.2.2.2.1 hr (by decide) dX2_takeLatest_20 ?_
  refine g_aload_n (pc := 23) 0 rfl rfl dX2_takeLatest_23 ?_
  refine fX2_18 (pc := 24) rfl hS.2.2.2.2.2.2.1 dX2_takeLatest_24 ?_
  refine g_topi (pc := 27) (x' := nI ((M.1 5 1) - 1)) (by simp [gU, gUr]) ?_
  refine g_aaload (pc := 27) (t0 := 4) (r := (M.2 6 ((M.1 5 1) - 1))) hS.2.2.2.2.2.2.2.1 (by decide) rfl (by rw [hS.2.2.2.2.2.2.2.2.1]; omega) (by rw [hS.2.2.2.2.2.2.2.2.1]; omega) rfl (by have := h.1 ((M.1 5 1) - 1) (by omega); omega) dX2_takeLatest_27 ?_
  exact g_aret (pc := 28) rfl (Or.inr ⟨_, rfl⟩) dX2_takeLatest_28 ⟨rfl, rfl⟩
