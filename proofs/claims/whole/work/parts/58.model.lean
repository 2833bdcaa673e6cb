/-! the reference's constructor -/
def lnM (i : Nat) : Nat := [200, 70, 12, 70, 12, 11, 66, 7].getD i 0
def flM (i : Nat) : Nat := [0, 3, 4, 9, 10, 15, 16, 18].getD i 0
def pM (E : gEnv) (M : gMem) (n : Nat) (E1 : gEnv) (u : gMem) : Prop := gLe E E1 ∧ (∀ c, gSh E1 c = if 61 ≤ c ∧ c < 61 + n then 9 else gSh E c) ∧ (∀ c, gLn E1 c = if 61 ≤ c ∧ c < 61 + n then lnM (c - 61) else gLn E c) ∧ (∀ c k, c ≤ 60 → u.1 c k = M.1 c k) ∧ (∀ c k, 61 ≤ c → c < 61 + n → u.1 c k = 0) ∧ (∀ c k, c ≠ 60 → u.2 c k = M.2 c k) ∧ (∀ i, i < n → u.2 60 (flM i) = 61 + i) ∧ wf E1 u
theorem flM_ne : ∀ i, i < 8 → ∀ j, j < 8 → i ≠ j → flM i ≠ flM j := by decide
section pMs
variable {E E1 : gEnv} {M u : gMem} {n a : Nat}
theorem pM_0 (hw : wf E M) : pM E M 0 E M := ⟨gLe.rf, fun c => by rw [if_neg (by omega)], fun c => by rw [if_neg (by omega)], fun _ _ _ => rfl, fun c k h1 h2 => by omega, fun _ _ _ => rfl, fun i hi => by omega, hw⟩
theorem pM_s (h : pM E M n E1 u) (hc : ∀ c, 61 ≤ c → gSh E c = 0) : gSh E1 (61 + n) = 0 := by rw [h.2.1, if_neg (by omega)]; exact hc _ (by omega)
theorem pM_n (h : pM E M n E1 u) (hc : ∀ c, 61 ≤ c → gSh E c = 0) : ∀ c k, u.2 c k ≠ 61 + n := wf_ne h.2.2.2.2.2.2.2 (pM_s h hc) (by omega)
theorem pM_a (h : pM E M n E1 u) (h60 : gSh E 60 = 8) : gAd E1 60 = gAd E 60 := h.1.1 60 (by rw [h60]; decide)
theorem pM_60 (h : pM E M n E1 u) (h60 : gSh E 60 = 8) : gSh E1 60 = 8 := by rw [h.2.1, if_neg (by omega)]; exact h60
theorem pM_1 (h : pM E M n E1 u) (hn : n < 8) (h60 : gSh E 60 = 8) (hc : ∀ c, 61 ≤ c → gSh E c = 0) : pM E M (n + 1) (gX E1 (61 + n) a 9 (lnM n)) (gUr (gZr u (61 + n)) 60 (flM n) (61 + n)) := by
  have hr := pM_s h hc
  have h601 := pM_60 h h60
  obtain ⟨hle, hs, hl, h1, h10, h2, h20, hw⟩ := h
  have hs1 : ∀ c, gSh E c ≠ 0 → gSh E1 c ≠ 0 := fun c hc => by rw [hs]; split <;> simp_all
  refine ⟨hle.tr hs1 (gLe.new hr), fun c => ?_, fun c => ?_, fun c k hc => ?_, fun c k hc1 hc2 => ?_, fun c k hc => ?_, fun i hi => ?_, wf_put (wf_new hw hr (by decide)) ?_ ?_⟩
  · by_cases e : c = 61 + n
    · rw [e, gX_sr, if_pos (by omega)]
    · rw [gX_so e, hs]
      by_cases e2 : 61 ≤ c ∧ c < 61 + n
      · rw [if_pos e2, if_pos (by omega)]
      · rw [if_neg e2, if_neg (by omega)]
  · by_cases e : c = 61 + n
    · rw [e, gX_lr, if_pos (by omega), show 61 + n - 61 = n by omega]
    · rw [gX_lo e, hl]
      by_cases e2 : 61 ≤ c ∧ c < 61 + n
      · rw [if_pos e2, if_pos (by omega)]
      · rw [if_neg e2, if_neg (by omega)]
  · show (if c = 61 + n then 0 else u.1 c k) = _
    rw [if_neg (by omega)]; exact h1 c k hc
  · show (if c = 61 + n then 0 else u.1 c k) = _
    by_cases e : c = 61 + n
    · rw [if_pos e]
    · rw [if_neg e]; exact h10 c k hc1 (by omega)
  · show (if c = 60 ∧ k = flM n then 61 + n else (gZr u (61 + n)).2 c k) = _
    rw [if_neg (fun e => hc e.1), gZ2 hw hr]; exact h2 c k hc
  · show (if 60 = 60 ∧ flM i = flM n then 61 + n else (gZr u (61 + n)).2 60 (flM i)) = _
    by_cases e : i = n
    · rw [e, if_pos ⟨rfl, rfl⟩]
    · rw [if_neg (fun q => flM_ne i (by omega) n hn e q.2), gZ2 hw hr]; exact h20 i (by omega)
  · rw [gX_so (by omega)]; rw [h601]; decide
  · rw [gX_sr]; decide
end pMs
theorem pM_R {E E1 : gEnv} {M u : gMem} (h : pM E M 8 E1 u) (h60 : gSh E 60 = 8) : mR E1 u := by
  have h601 := pM_60 h h60
  obtain ⟨hle, hs, hl, h1, h10, h2, h20, hw⟩ := h
  have s : ∀ c, 61 ≤ c → c < 69 → gSh E1 c = 9 := fun c q1 q2 => by rw [hs, if_pos (by omega)]
  have ln : ∀ c, 61 ≤ c → c < 69 → gLn E1 c = lnM (c - 61) := fun c q1 q2 => by rw [hl, if_pos (by omega)]
  exact ⟨⟨h601, ⟨s 61 (by decide) (by decide), ln 61 (by decide) (by decide)⟩, ⟨s 62 (by decide) (by decide), ln 62 (by decide) (by decide)⟩, ⟨s 63 (by decide) (by decide), ln 63 (by decide) (by decide)⟩, ⟨s 64 (by decide) (by decide), ln 64 (by decide) (by decide)⟩, ⟨s 65 (by decide) (by decide), ln 65 (by decide) (by decide)⟩, ⟨s 66 (by decide) (by decide), ln 66 (by decide) (by decide)⟩, ⟨s 67 (by decide) (by decide), ln 67 (by decide) (by decide)⟩, ⟨s 68 (by decide) (by decide), ln 68 (by decide) (by decide)⟩⟩, h20 0 (by decide), h20 1 (by decide), h20 2 (by decide), h20 3 (by decide), h20 4 (by decide), h20 5 (by decide), h20 6 (by decide), h20 7 (by decide)⟩
def fO (i w : Nat) : Nat := (([[3, 1, 1, 2, 10, 1, 40], [3, 3, 2, 20, 40, 0, 25], [6, 1, 2, 30, 48, 1, 30], [1, 2, 12, 8, 51, 0, 9], [32, 15, 15, 2, 48, 0, 60], [35, 1, 4, 15, 20, 0, 12]] : List (List Nat)).getD i []).getD w 0
def fH (i w : Nat) : Nat := (([[1, 0, 12], [2, 0, 20]] : List (List Nat)).getD i []).getD w 0
def sA (n k : Nat) : aB := ((n, fO), (k, fH), 2, 48)
def pR (E : gEnv) (M : gMem) (n k : Nat) (u : gMem) : Prop := mR E u ∧ mRep u (sA n k) ∧ (∀ c k, c < 60 → u.1 c k = M.1 c k) ∧ u.1 60 1 = 0 ∧ (∀ i, u.1 68 i = 0) ∧ (∀ c k, c ≠ 60 → u.2 c k = M.2 c k)
theorem pR_o {E : gEnv} {M u : gMem} {n k : Nat} (h : pR E M n k u) : pR E M (n + 1) k (mPO u (fO n)) := by
  obtain ⟨h1, h2, h3, h4, h5, h6⟩ := h
  refine ⟨mR_2 h1 rfl, ?_, fun c k hc => ?_, ?_, fun i => ?_, h6⟩
  · obtain ⟨m1, m2, m3, m4, m5, m6⟩ := mRep_o (f := fO n) h2
    refine ⟨m1, m2, m3, m4, fun i w hi hw => ?_, m6⟩
    rw [m5 i w hi hw]
    show (if i = n then fO n else fO i) w = fO i w
    by_cases e : i = n
    · rw [if_pos e, e]
    · rw [if_neg e]
  · rw [← h3 c k hc]
    simp only [mPO, gU]
    rw [if_neg (by omega), if_neg (by omega), if_neg (by omega), if_neg (by omega), if_neg (by omega), if_neg (by omega), if_neg (by omega), if_neg (by omega)]
  · rw [← h4]
    simp [mPO, gU]
  · rw [← h5 i]
    simp [mPO, gU]
theorem pR_h {E : gEnv} {M u : gMem} {n k : Nat} (h : pR E M n k u) : pR E M n (k + 1) (mPH u (fH k)) := by
  obtain ⟨h1, h2, h3, h4, h5, h6⟩ := h
  refine ⟨mR_2 h1 rfl, ?_, fun c k hc => ?_, ?_, fun i => ?_, h6⟩
  · obtain ⟨m1, m2, m3, m4, m5, m6⟩ := mRep_h (f := fH k) h2
    refine ⟨m1, m2, m3, m4, m5, fun i w hi hw => ?_⟩
    rw [m6 i w hi hw]
    show (if i = k then fH k else fH i) w = fH i w
    by_cases e : i = k
    · rw [if_pos e, e]
    · rw [if_neg e]
  · rw [← h3 c k hc]
    simp only [mPH, gU]
    rw [if_neg (by omega), if_neg (by omega), if_neg (by omega), if_neg (by omega)]
  · rw [← h4]
    simp [mPH, gU]
  · rw [← h5 i]
    simp [mPH, gU]
def qX7 (E : gEnv) (M : gMem) (E1 : gEnv) (w : gMem) : Prop := gLe E E1 ∧ (∀ c, c < 60 → gSh E1 c = gSh E c ∧ gLn E1 c = gLn E c) ∧ (∀ c k, c ≠ 60 → w.2 c k = M.2 c k) ∧ mR E1 w ∧ ∃ w0, w = mTk w0 ∧ mRep w0 (sA 6 2) ∧ (∀ c k, c < 60 → w0.1 c k = M.1 c k) ∧ w0.1 60 1 = 0 ∧ ∀ i, w0.1 68 i = 0
set_option maxHeartbeats 4000000 in
theorem kX7_init (l : Launch) (E : gEnv) (M : gMem) (h60 : gSh E 60 = 8) (hc : ∀ c, 61 ≤ c → gSh E c = 0) (hw : wf E M) (hz : ∀ k, M.1 60 k = 0) : gMx l E mX7_init 1 8 448 [.ref (gAd E 60)] M (qX7 E M) := by
  refine gMx_of (mm := mX7_init) [(0, .ref (gAd E 60))] (by decide) (Nat.le_of_ble_eq_true rfl) rfl ?_
  refine g_aload_n (pc := 0) 0 rfl rfl dX7_init_0 ?_
  refine g_oinit (pc := 1) (rest := []) lX7_1 oI_i oI_c ⟨Nat.le_of_ble_eq_true rfl, Nat.le_of_ble_eq_true rfl⟩ (Nat.zero_le _) dX7_init_1 ?_
  have h0 : pM E M 0 E M := pM_0 hw
  refine g_aload_n (pc := 4) 0 rfl rfl dX7_init_4 ?_
  refine g_sipush (pc := 5) (nI 200) (by decide) dX7_init_5 ?_
  refine g_newaI (pc := 8) (n := 200) 61 aC_i (by decide) (pM_s h0 hc) (pM_n h0 hc) ⟨Nat.le_of_ble_eq_true rfl, Nat.le_of_ble_eq_true rfl⟩ dX7_init_8 (fun a0 => ?_)
  refine g_st (pc := 10) (st' := [.ref (gAd (gX E 61 a0 9 200) 61), .ref (gAd (gX E 61 a0 9 200) 60)]) (by rw [gX_ar, gX_ao (by decide), pM_a h0 h60]) ?_
  refine uX7_7 (pc := 10) (a := 60) (x := 61) rfl rfl (by rw [gX_so (by decide)]; exact pM_60 h0 h60) (by decide) dX7_init_10 ?_
  have h1 : pM E M 1 (gX E 61 a0 9 200) (gUr (gZr M 61) 60 0 61) := pM_1 h0 (by decide) h60 hc
  revert h1
  generalize (gX E 61 a0 9 200) = E1
  generalize (gUr (gZr M 61) 60 0 61) = M1
  intro h1
  refine g_aload_n (pc := 13) 0 rfl rfl dX7_init_13 ?_
  refine g_bipush (pc := 14) (nI 70) (by decide) dX7_init_14 ?_
  refine g_newaI (pc := 16) (n := 70) 62 aC_i (by decide) (pM_s h1 hc) (pM_n h1 hc) ⟨Nat.le_of_ble_eq_true rfl, Nat.le_of_ble_eq_true rfl⟩ dX7_init_16 (fun a1 => ?_)
  refine g_st (pc := 18) (st' := [.ref (gAd (gX E1 62 a1 9 70) 62), .ref (gAd (gX E1 62 a1 9 70) 60)]) (by rw [gX_ar, gX_ao (by decide), pM_a h1 h60]) ?_
  refine uX7_13 (pc := 18) (a := 60) (x := 62) rfl rfl (by rw [gX_so (by decide)]; exact pM_60 h1 h60) (by decide) dX7_init_18 ?_
  have h2 : pM E M 2 (gX E1 62 a1 9 70) (gUr (gZr M1 62) 60 3 62) := pM_1 h1 (by decide) h60 hc
  revert h2
  generalize (gX E1 62 a1 9 70) = E2
  generalize (gUr (gZr M1 62) 60 3 62) = M2
  intro h2
  refine g_aload_n (pc := 21) 0 rfl rfl dX7_init_21 ?_
  refine g_bipush (pc := 22) (nI 12) (by decide) dX7_init_22 ?_
  refine g_newaI (pc := 24) (n := 12) 63 aC_i (by decide) (pM_s h2 hc) (pM_n h2 hc) ⟨Nat.le_of_ble_eq_true rfl, Nat.le_of_ble_eq_true rfl⟩ dX7_init_24 (fun a2 => ?_)
  refine g_st (pc := 26) (st' := [.ref (gAd (gX E2 63 a2 9 12) 63), .ref (gAd (gX E2 63 a2 9 12) 60)]) (by rw [gX_ar, gX_ao (by decide), pM_a h2 h60]) ?_
  refine uX7_16 (pc := 26) (a := 60) (x := 63) rfl rfl (by rw [gX_so (by decide)]; exact pM_60 h2 h60) (by decide) dX7_init_26 ?_
  have h3 : pM E M 3 (gX E2 63 a2 9 12) (gUr (gZr M2 63) 60 4 63) := pM_1 h2 (by decide) h60 hc
  revert h3
  generalize (gX E2 63 a2 9 12) = E3
  generalize (gUr (gZr M2 63) 60 4 63) = M3
  intro h3
  refine g_aload_n (pc := 29) 0 rfl rfl dX7_init_29 ?_
  refine g_bipush (pc := 30) (nI 70) (by decide) dX7_init_30 ?_
  refine g_newaI (pc := 32) (n := 70) 64 aC_i (by decide) (pM_s h3 hc) (pM_n h3 hc) ⟨Nat.le_of_ble_eq_true rfl, Nat.le_of_ble_eq_true rfl⟩ dX7_init_32 (fun a3 => ?_)
  refine g_st (pc := 34) (st' := [.ref (gAd (gX E3 64 a3 9 70) 64), .ref (gAd (gX E3 64 a3 9 70) 60)]) (by rw [gX_ar, gX_ao (by decide), pM_a h3 h60]) ?_
  refine uX7_19 (pc := 34) (a := 60) (x := 64) rfl rfl (by rw [gX_so (by decide)]; exact pM_60 h3 h60) (by decide) dX7_init_34 ?_
  have h4 : pM E M 4 (gX E3 64 a3 9 70) (gUr (gZr M3 64) 60 9 64) := pM_1 h3 (by decide) h60 hc
  revert h4
  generalize (gX E3 64 a3 9 70) = E4
  generalize (gUr (gZr M3 64) 60 9 64) = M4
  intro h4
  refine g_aload_n (pc := 37) 0 rfl rfl dX7_init_37 ?_
  refine g_bipush (pc := 38) (nI 12) (by decide) dX7_init_38 ?_
  refine g_newaI (pc := 40) (n := 12) 65 aC_i (by decide) (pM_s h4 hc) (pM_n h4 hc) ⟨Nat.le_of_ble_eq_true rfl, Nat.le_of_ble_eq_true rfl⟩ dX7_init_40 (fun a4 => ?_)
  refine g_st (pc := 42) (st' := [.ref (gAd (gX E4 65 a4 9 12) 65), .ref (gAd (gX E4 65 a4 9 12) 60)]) (by rw [gX_ar, gX_ao (by decide), pM_a h4 h60]) ?_
  refine uX7_22 (pc := 42) (a := 60) (x := 65) rfl rfl (by rw [gX_so (by decide)]; exact pM_60 h4 h60) (by decide) dX7_init_42 ?_
  have h5 : pM E M 5 (gX E4 65 a4 9 12) (gUr (gZr M4 65) 60 10 65) := pM_1 h4 (by decide) h60 hc
  revert h5
  generalize (gX E4 65 a4 9 12) = E5
  generalize (gUr (gZr M4 65) 60 10 65) = M5
  intro h5
  refine g_aload_n (pc := 45) 0 rfl rfl dX7_init_45 ?_
  refine g_bipush (pc := 46) (nI 11) (by decide) dX7_init_46 ?_
  refine g_newaI (pc := 48) (n := 11) 66 aC_i (by decide) (pM_s h5 hc) (pM_n h5 hc) ⟨Nat.le_of_ble_eq_true rfl, Nat.le_of_ble_eq_true rfl⟩ dX7_init_48 (fun a5 => ?_)
  refine g_st (pc := 50) (st' := [.ref (gAd (gX E5 66 a5 9 11) 66), .ref (gAd (gX E5 66 a5 9 11) 60)]) (by rw [gX_ar, gX_ao (by decide), pM_a h5 h60]) ?_
  refine uX7_25 (pc := 50) (a := 60) (x := 66) rfl rfl (by rw [gX_so (by decide)]; exact pM_60 h5 h60) (by decide) dX7_init_50 ?_
  have h6 : pM E M 6 (gX E5 66 a5 9 11) (gUr (gZr M5 66) 60 15 66) := pM_1 h5 (by decide) h60 hc
  revert h6
  generalize (gX E5 66 a5 9 11) = E6
  generalize (gUr (gZr M5 66) 60 15 66) = M6
  intro h6
  refine g_aload_n (pc := 53) 0 rfl rfl dX7_init_53 ?_
  refine g_bipush (pc := 54) (nI 66) (by decide) dX7_init_54 ?_
  refine g_newaI (pc := 56) (n := 66) 67 aC_i (by decide) (pM_s h6 hc) (pM_n h6 hc) ⟨Nat.le_of_ble_eq_true rfl, Nat.le_of_ble_eq_true rfl⟩ dX7_init_56 (fun a6 => ?_)
  refine g_st (pc := 58) (st' := [.ref (gAd (gX E6 67 a6 9 66) 67), .ref (gAd (gX E6 67 a6 9 66) 60)]) (by rw [gX_ar, gX_ao (by decide), pM_a h6 h60]) ?_
  refine uX7_28 (pc := 58) (a := 60) (x := 67) rfl rfl (by rw [gX_so (by decide)]; exact pM_60 h6 h60) (by decide) dX7_init_58 ?_
  have h7 : pM E M 7 (gX E6 67 a6 9 66) (gUr (gZr M6 67) 60 16 67) := pM_1 h6 (by decide) h60 hc
  revert h7
  generalize (gX E6 67 a6 9 66) = E7
  generalize (gUr (gZr M6 67) 60 16 67) = M7
  intro h7
  refine g_aload_n (pc := 61) 0 rfl rfl dX7_init_61 ?_
  refine g_bipush (pc := 62) (nI 7) (by decide) dX7_init_62 ?_
  refine g_newaI (pc := 64) (n := 7) 68 aC_i (by decide) (pM_s h7 hc) (pM_n h7 hc) ⟨Nat.le_of_ble_eq_true rfl, Nat.le_of_ble_eq_true rfl⟩ dX7_init_64 (fun a7 => ?_)
  refine g_st (pc := 66) (st' := [.ref (gAd (gX E7 68 a7 9 7) 68), .ref (gAd (gX E7 68 a7 9 7) 60)]) (by rw [gX_ar, gX_ao (by decide), pM_a h7 h60]) ?_
  refine uX7_31 (pc := 66) (a := 60) (x := 68) rfl rfl (by rw [gX_so (by decide)]; exact pM_60 h7 h60) (by decide) dX7_init_66 ?_
  have h8 : pM E M 8 (gX E7 68 a7 9 7) (gUr (gZr M7 68) 60 18 68) := pM_1 h7 (by decide) h60 hc
  revert h8
  generalize (gX E7 68 a7 9 7) = E8
  generalize (gUr (gZr M7 68) 60 18 68) = M8
  intro h8
  have hR := pM_R h8 h60
  have e60 : ∀ k, M8.1 60 k = 0 := fun k => by rw [h8.2.2.2.1 60 k (by decide)]; exact hz k
  refine g_lv (lv' := [(0, .ref (gAd E8 60))]) (by rw [pM_a h8 h60]) ?_
  refine g_aload_n (pc := 69) 0 rfl rfl dX7_init_69 ?_
  refine g_callV (pc := 70) (mc := mX7_beginRead) (rest := []) lX7_34 iX7_beginRead (kX7_beginRead l E8 M8 hR) ⟨Nat.le_of_ble_eq_true rfl, Nat.le_of_ble_eq_true rfl⟩ hR.s0 (by decide) (by decide) rfl rfl rfl rfl (Nat.le_of_ble_eq_true rfl) ⟨Nat.le_of_ble_eq_true rfl, Nat.le_of_ble_eq_true rfl⟩ dX7_init_70 (g_rU ?_)
  refine g_aload_n (pc := 73) 0 rfl rfl dX7_init_73 ?_
  refine g_iconst (pc := 74) (nI 2) (by decide) dX7_init_74 ?_
  refine uX7_37 (pc := 75) (a := 60) rfl hR.s0 dX7_init_75 ?_
  refine g_aload_n (pc := 78) 0 rfl rfl dX7_init_78 ?_
  refine g_bipush (pc := 79) (nI 48) (by decide) dX7_init_79 ?_
  refine uX7_41 (pc := 81) (a := 60) rfl hR.s0 dX7_init_81 ?_
  have p0 : pR E8 M 0 0 (gU (gU (gU (gU (gU (gU M8 60 5 0) 60 6 0) 60 7 0) 60 8 51) 60 7 2) 60 8 48) := by
    refine ⟨mR_2 hR rfl, ⟨?_, ?_, ?_, ?_, fun i w hi hw => absurd hi (Nat.not_lt_zero _), fun i w hi hw => absurd hi (Nat.not_lt_zero _)⟩, fun c k hk => ?_, ?_, fun i => ?_, h8.2.2.2.2.2.1⟩
    · simp [gU, sA]
    · simp [gU, sA]
    · simp [gU, sA]
    · simp [gU, sA]
    · rw [← h8.2.2.2.1 c k (by omega)]
      simp only [gU]
      rw [if_neg (by omega), if_neg (by omega), if_neg (by omega), if_neg (by omega), if_neg (by omega), if_neg (by omega)]
    · rw [← e60 1]
      simp [gU]
    · rw [← h8.2.2.2.2.1 68 i (by decide) (by decide)]
      simp [gU]
  revert p0
  generalize gU (gU (gU (gU (gU (gU M8 60 5 0) 60 6 0) 60 7 0) 60 8 51) 60 7 2) 60 8 48 = u0
  intro p0
  refine g_aload_n (pc := 84) 0 rfl rfl dX7_init_84 ?_
  refine g_iconst (pc := 85) (nI 3) (by decide) dX7_init_85 ?_
  refine g_iconst (pc := 86) (nI 1) (by decide) dX7_init_86 ?_
  refine g_iconst (pc := 87) (nI 1) (by decide) dX7_init_87 ?_
  refine g_iconst (pc := 88) (nI 2) (by decide) dX7_init_88 ?_
  refine g_bipush (pc := 89) (nI 10) (by decide) dX7_init_89 ?_
  refine g_iconst (pc := 91) (nI 1) (by decide) dX7_init_91 ?_
  refine g_bipush (pc := 92) (nI 40) (by decide) dX7_init_92 ?_
  refine g_callV (pc := 94) (mc := mX7_putOffer) (rest := []) lX7_44 iX7_putOffer (kX7_putOffer l E8 u0 p0.1 (fO 0) (by rw [p0.2.1.1]; decide)) ⟨Nat.le_of_ble_eq_true rfl, Nat.le_of_ble_eq_true rfl⟩ hR.s0 (by decide) (by decide) rfl rfl rfl rfl (Nat.le_of_ble_eq_true rfl) ⟨Nat.le_of_ble_eq_true rfl, Nat.le_of_ble_eq_true rfl⟩ dX7_init_94 (g_rU ?_)
  have p1 := pR_o p0
  revert p1
  generalize mPO u0 (fO 0) = u1
  intro p1
  refine g_aload_n (pc := 97) 0 rfl rfl dX7_init_97 ?_
  refine g_iconst (pc := 98) (nI 3) (by decide) dX7_init_98 ?_
  refine g_iconst (pc := 99) (nI 3) (by decide) dX7_init_99 ?_
  refine g_iconst (pc := 100) (nI 2) (by decide) dX7_init_100 ?_
  refine g_bipush (pc := 101) (nI 20) (by decide) dX7_init_101 ?_
  refine g_bipush (pc := 103) (nI 40) (by decide) dX7_init_103 ?_
  refine g_iconst (pc := 105) (nI 0) (by decide) dX7_init_105 ?_
  refine g_bipush (pc := 106) (nI 25) (by decide) dX7_init_106 ?_
  refine g_callV (pc := 108) (mc := mX7_putOffer) (rest := []) lX7_44 iX7_putOffer (kX7_putOffer l E8 u1 p1.1 (fO 1) (by rw [p1.2.1.1]; decide)) ⟨Nat.le_of_ble_eq_true rfl, Nat.le_of_ble_eq_true rfl⟩ hR.s0 (by decide) (by decide) rfl rfl rfl rfl (Nat.le_of_ble_eq_true rfl) ⟨Nat.le_of_ble_eq_true rfl, Nat.le_of_ble_eq_true rfl⟩ dX7_init_108 (g_rU ?_)
  have p2 := pR_o p1
  revert p2
  generalize mPO u1 (fO 1) = u2
  intro p2
  refine g_aload_n (pc := 111) 0 rfl rfl dX7_init_111 ?_
  refine g_bipush (pc := 112) (nI 6) (by decide) dX7_init_112 ?_
  refine g_iconst (pc := 114) (nI 1) (by decide) dX7_init_114 ?_
  refine g_iconst (pc := 115) (nI 2) (by decide) dX7_init_115 ?_
  refine g_bipush (pc := 116) (nI 30) (by decide) dX7_init_116 ?_
  refine g_bipush (pc := 118) (nI 48) (by decide) dX7_init_118 ?_
  refine g_iconst (pc := 120) (nI 1) (by decide) dX7_init_120 ?_
  refine g_bipush (pc := 121) (nI 30) (by decide) dX7_init_121 ?_
  refine g_callV (pc := 123) (mc := mX7_putOffer) (rest := []) lX7_44 iX7_putOffer (kX7_putOffer l E8 u2 p2.1 (fO 2) (by rw [p2.2.1.1]; decide)) ⟨Nat.le_of_ble_eq_true rfl, Nat.le_of_ble_eq_true rfl⟩ hR.s0 (by decide) (by decide) rfl rfl rfl rfl (Nat.le_of_ble_eq_true rfl) ⟨Nat.le_of_ble_eq_true rfl, Nat.le_of_ble_eq_true rfl⟩ dX7_init_123 (g_rU ?_)
  have p3 := pR_o p2
  revert p3
  generalize mPO u2 (fO 2) = u3
  intro p3
  refine g_aload_n (pc := 126) 0 rfl rfl dX7_init_126 ?_
  refine g_iconst (pc := 127) (nI 1) (by decide) dX7_init_127 ?_
  refine g_iconst (pc := 128) (nI 2) (by decide) dX7_init_128 ?_
  refine g_bipush (pc := 129) (nI 12) (by decide) dX7_init_129 ?_
  refine g_bipush (pc := 131) (nI 8) (by decide) dX7_init_131 ?_
  refine g_bipush (pc := 133) (nI 51) (by decide) dX7_init_133 ?_
  refine g_iconst (pc := 135) (nI 0) (by decide) dX7_init_135 ?_
  refine g_bipush (pc := 136) (nI 9) (by decide) dX7_init_136 ?_
  refine g_callV (pc := 138) (mc := mX7_putOffer) (rest := []) lX7_44 iX7_putOffer (kX7_putOffer l E8 u3 p3.1 (fO 3) (by rw [p3.2.1.1]; decide)) ⟨Nat.le_of_ble_eq_true rfl, Nat.le_of_ble_eq_true rfl⟩ hR.s0 (by decide) (by decide) rfl rfl rfl rfl (Nat.le_of_ble_eq_true rfl) ⟨Nat.le_of_ble_eq_true rfl, Nat.le_of_ble_eq_true rfl⟩ dX7_init_138 (g_rU ?_)
  have p4 := pR_o p3
  revert p4
  generalize mPO u3 (fO 3) = u4
  intro p4
  refine g_aload_n (pc := 141) 0 rfl rfl dX7_init_141 ?_
  refine g_bipush (pc := 142) (nI 32) (by decide) dX7_init_142 ?_
  refine g_bipush (pc := 144) (nI 15) (by decide) dX7_init_144 ?_
  refine g_bipush (pc := 146) (nI 15) (by decide) dX7_init_146 ?_
  refine g_iconst (pc := 148) (nI 2) (by decide) dX7_init_148 ?_
  refine g_bipush (pc := 149) (nI 48) (by decide) dX7_init_149 ?_
  refine g_iconst (pc := 151) (nI 0) (by decide) dX7_init_151 ?_
  refine g_bipush (pc := 152) (nI 60) (by decide) dX7_init_152 ?_
  refine g_callV (pc := 154) (mc := mX7_putOffer) (rest := []) lX7_44 iX7_putOffer (kX7_putOffer l E8 u4 p4.1 (fO 4) (by rw [p4.2.1.1]; decide)) ⟨Nat.le_of_ble_eq_true rfl, Nat.le_of_ble_eq_true rfl⟩ hR.s0 (by decide) (by decide) rfl rfl rfl rfl (Nat.le_of_ble_eq_true rfl) ⟨Nat.le_of_ble_eq_true rfl, Nat.le_of_ble_eq_true rfl⟩ dX7_init_154 (g_rU ?_)
  have p5 := pR_o p4
  revert p5
  generalize mPO u4 (fO 4) = u5
  intro p5
  refine g_aload_n (pc := 157) 0 rfl rfl dX7_init_157 ?_
  refine g_bipush (pc := 158) (nI 35) (by decide) dX7_init_158 ?_
  refine g_iconst (pc := 160) (nI 1) (by decide) dX7_init_160 ?_
  refine g_iconst (pc := 161) (nI 4) (by decide) dX7_init_161 ?_
  refine g_bipush (pc := 162) (nI 15) (by decide) dX7_init_162 ?_
  refine g_bipush (pc := 164) (nI 20) (by decide) dX7_init_164 ?_
  refine g_iconst (pc := 166) (nI 0) (by decide) dX7_init_166 ?_
  refine g_bipush (pc := 167) (nI 12) (by decide) dX7_init_167 ?_
  refine g_callV (pc := 169) (mc := mX7_putOffer) (rest := []) lX7_44 iX7_putOffer (kX7_putOffer l E8 u5 p5.1 (fO 5) (by rw [p5.2.1.1]; decide)) ⟨Nat.le_of_ble_eq_true rfl, Nat.le_of_ble_eq_true rfl⟩ hR.s0 (by decide) (by decide) rfl rfl rfl rfl (Nat.le_of_ble_eq_true rfl) ⟨Nat.le_of_ble_eq_true rfl, Nat.le_of_ble_eq_true rfl⟩ dX7_init_169 (g_rU ?_)
  have p6 := pR_o p5
  revert p6
  generalize mPO u5 (fO 5) = u6
  intro p6
  refine g_aload_n (pc := 172) 0 rfl rfl dX7_init_172 ?_
  refine g_iconst (pc := 173) (nI 1) (by decide) dX7_init_173 ?_
  refine g_iconst (pc := 174) (nI 0) (by decide) dX7_init_174 ?_
  refine g_bipush (pc := 175) (nI 12) (by decide) dX7_init_175 ?_
  refine g_callV (pc := 177) (mc := mX7_putHold) (rest := []) lX7_48 iX7_putHold (kX7_putHold l E8 u6 p6.1 (fH 0) (by rw [p6.2.1.2.1]; decide)) ⟨Nat.le_of_ble_eq_true rfl, Nat.le_of_ble_eq_true rfl⟩ hR.s0 (by decide) (by decide) rfl rfl rfl rfl (Nat.le_of_ble_eq_true rfl) ⟨Nat.le_of_ble_eq_true rfl, Nat.le_of_ble_eq_true rfl⟩ dX7_init_177 (g_rU ?_)
  have p7 := pR_h p6
  revert p7
  generalize mPH u6 (fH 0) = u7
  intro p7
  refine g_aload_n (pc := 180) 0 rfl rfl dX7_init_180 ?_
  refine g_iconst (pc := 181) (nI 2) (by decide) dX7_init_181 ?_
  refine g_iconst (pc := 182) (nI 0) (by decide) dX7_init_182 ?_
  refine g_bipush (pc := 183) (nI 20) (by decide) dX7_init_183 ?_
  refine g_callV (pc := 185) (mc := mX7_putHold) (rest := []) lX7_48 iX7_putHold (kX7_putHold l E8 u7 p7.1 (fH 1) (by rw [p7.2.1.2.1]; decide)) ⟨Nat.le_of_ble_eq_true rfl, Nat.le_of_ble_eq_true rfl⟩ hR.s0 (by decide) (by decide) rfl rfl rfl rfl (Nat.le_of_ble_eq_true rfl) ⟨Nat.le_of_ble_eq_true rfl, Nat.le_of_ble_eq_true rfl⟩ dX7_init_185 (g_rU ?_)
  have p8 := pR_h p7
  revert p8
  generalize mPH u7 (fH 1) = u8
  intro p8
  refine g_aload_n (pc := 188) 0 rfl rfl dX7_init_188 ?_
  refine g_callV (pc := 189) (mc := mX7_takeRead) (rest := []) lX7_52 iX7_takeRead (kX7_takeRead l E8 u8 p8.1) ⟨Nat.le_of_ble_eq_true rfl, Nat.le_of_ble_eq_true rfl⟩ hR.s0 (by decide) (by decide) rfl rfl rfl rfl (Nat.le_of_ble_eq_true rfl) ⟨Nat.le_of_ble_eq_true rfl, Nat.le_of_ble_eq_true rfl⟩ dX7_init_189 (g_rU ?_)
  obtain ⟨q1, q2, q3, q4, q5, q6⟩ := p8
  exact g_vretX (pc := 192) rfl dX7_init_192 ⟨h8.1, fun c hc => ⟨by rw [h8.2.1, if_neg (by omega)], by rw [h8.2.2.1, if_neg (by omega)]⟩, q6, mR_2 q1 rfl, u8, rfl, q2, q3, q4, q5⟩ h8.1.2.1 h8.1.2.2.1 h8.1.2.2.2
