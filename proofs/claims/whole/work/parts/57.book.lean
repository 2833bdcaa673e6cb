/-! Book's constructor -/
def qX0 (b : Nat) (E : gEnv) (M : gMem) (E1 : gEnv) (u : gMem) : Prop := gLe E E1 ∧ (∀ c, gSh E1 c = if c = b + 1 then 11 else if c = b + 2 then 12 else if b + 3 ≤ c ∧ c < b + 13 then 5 else if b + 13 ≤ c ∧ c < b + 17 then 4 else gSh E c) ∧ (∀ c, gLn E1 c = if c = b + 1 then 10 else if c = b + 2 then 4 else if b + 3 ≤ c ∧ c < b + 17 then 0 else gLn E c) ∧ (∀ c k, u.1 c k = 0) ∧ (∀ c k, u.2 c k = if c = b + 1 ∧ k < 10 then b + 3 + k else if c = b + 2 ∧ k < 4 then b + 13 + k else if c = b ∧ k = 0 then b + 1 else if c = b ∧ k = 2 then b + 2 else M.2 c k) ∧ wf E1 u
set_option maxHeartbeats 2000000 in
theorem kX0_init (l : Launch) (E : gEnv) (M : gMem) (b : Nat) (hb0 : b ≠ 0) (hb : gSh E b = 1) (hc : ∀ c, b + 1 ≤ c → c < b + 17 → gSh E c = 0) (hw : wf E M) (hz : ∀ c k, M.1 c k = 0) : gMx l E mX0_init 2 16 106 [.ref (gAd E b)] M (qX0 b E M) := by
  refine gMx_of (mm := mX0_init) [(0, .ref (gAd E b))] (by decide) (Nat.le_of_ble_eq_true rfl) rfl ?_
  refine g_aload_n (pc := 0) 0 rfl rfl dX0_init_0 ?_
  refine g_oinit (pc := 1) (rest := []) lX0_3 oI_i oI_c ⟨Nat.le_of_ble_eq_true rfl, Nat.le_of_ble_eq_true rfl⟩ (Nat.zero_le _) dX0_init_1 ?_
  refine g_aload_n (pc := 4) 0 rfl rfl dX0_init_4 ?_
  refine g_bipush (pc := 5) (nI 10) (by decide) dX0_init_5 ?_
  have z1 : gSh E (b + 1) = 0 := hc _ (by omega) (by omega)
  refine g_anew (pc := 7) (n := 10) (kd := 11) (b + 1) (by decide) rfl wN04 aO_4 (by decide) z1 (wf_ne hw z1 (by omega)) ⟨Nat.le_of_ble_eq_true rfl, Nat.le_of_ble_eq_true rfl⟩ dX0_init_7 (fun a => ?_)
  have sb : gSh (gX E (b + 1) a 11 10) b = 1 := by rw [gX_so (by omega)]; exact hb
  have s1 : gSh (gX E (b + 1) a 11 10) (b + 1) = 11 := gX_sr
  have ab : gAd (gX E (b + 1) a 11 10) b = gAd E b := gX_ao (by omega)
  refine g_st (pc := 10) (st' := [.ref (gAd (gX E (b + 1) a 11 10) (b + 1)), .ref (gAd (gX E (b + 1) a 11 10) b)]) (by rw [gX_ar, ab]) ?_
  refine uX0_11 (pc := 10) (a := b) (x := b + 1) rfl rfl sb (by omega) dX0_init_10 ?_
  have hZ : ∀ c k, (gUr (gZr M (b + 1)) b 0 (b + 1)).1 c k = 0 := gZ1 hz
  have hW : wf (gX E (b + 1) a 11 10) (gUr (gZr M (b + 1)) b 0 (b + 1)) := wf_put (wf_new hw z1 (by decide)) (by rw [sb]; decide) (by rw [s1]; decide)
  have r2 : ∀ c k, (gUr (gZr M (b + 1)) b 0 (b + 1)).2 c k = if c = b ∧ k = 0 then b + 1 else M.2 c k := fun c k => by
    show (if c = b ∧ k = 0 then b + 1 else (gZr M (b + 1)).2 c k) = _
    rw [gZ2 hw z1]
  have hle : gLe E (gX E (b + 1) a 11 10) := gLe.new z1
  have hsx : ∀ c, gSh (gX E (b + 1) a 11 10) c = if c = b + 1 then 11 else gSh E c := fun c => rfl
  have hlx : ∀ c, gLn (gX E (b + 1) a 11 10) c = if c = b + 1 then 10 else gLn E c := fun c => rfl
  rw [show gAd E b = gAd (gX E (b + 1) a 11 10) b from ab.symm]
  revert sb s1 ab hZ hW r2 hle hsx hlx
  generalize gX E (b + 1) a 11 10 = E0
  generalize gUr (gZr M (b + 1)) b 0 (b + 1) = M0
  intro sb s1 ab hZ hW r2 hle hsx hlx
  refine g_aload_n (pc := 13) 0 rfl rfl dX0_init_13 ?_
  refine g_iconst (pc := 14) (nI 4) (by decide) dX0_init_14 ?_
  have z2 : gSh E0 (b + 2) = 0 := by rw [hsx, if_neg (by omega)]; exact hc _ (by omega) (by omega)
  refine g_anew (pc := 15) (n := 4) (kd := 12) (b + 2) (by decide) rfl wN03 aO_3 (by decide) z2 (wf_ne hW z2 (by omega)) ⟨Nat.le_of_ble_eq_true rfl, Nat.le_of_ble_eq_true rfl⟩ dX0_init_15 (fun a1 => ?_)
  have sb2 : gSh (gX E0 (b + 2) a1 12 4) b = 1 := by rw [gX_so (by omega)]; exact sb
  have s2 : gSh (gX E0 (b + 2) a1 12 4) (b + 2) = 12 := gX_sr
  have s12 : gSh (gX E0 (b + 2) a1 12 4) (b + 1) = 11 := by rw [gX_so (by omega)]; exact s1
  have ab2 : gAd (gX E0 (b + 2) a1 12 4) b = gAd E0 b := gX_ao (by omega)
  refine g_st (pc := 18) (st' := [.ref (gAd (gX E0 (b + 2) a1 12 4) (b + 2)), .ref (gAd (gX E0 (b + 2) a1 12 4) b)]) (by rw [gX_ar, ab2]) ?_
  refine uX0_19 (pc := 18) (a := b) (x := b + 2) rfl rfl sb2 (by omega) dX0_init_18 ?_
  have hZ1 : ∀ c k, (gUr (gZr M0 (b + 2)) b 2 (b + 2)).1 c k = 0 := gZ1 hZ
  have hW1 : wf (gX E0 (b + 2) a1 12 4) (gUr (gZr M0 (b + 2)) b 2 (b + 2)) := wf_put (wf_new hW z2 (by decide)) (by rw [sb2]; decide) (by rw [s2]; decide)
  have r21 : ∀ c k, (gUr (gZr M0 (b + 2)) b 2 (b + 2)).2 c k = if c = b ∧ k = 2 then b + 2 else if c = b ∧ k = 0 then b + 1 else M.2 c k := fun c k => by
    show (if c = b ∧ k = 2 then b + 2 else (gZr M0 (b + 2)).2 c k) = _
    rw [gZ2 hW z2, r2]
  have hle1 : gLe E (gX E0 (b + 2) a1 12 4) := hle.tr (fun c hc => by rw [hsx]; split <;> simp_all) (gLe.new z2)
  have hsx1 : ∀ c, gSh (gX E0 (b + 2) a1 12 4) c = if c = b + 2 then 12 else if c = b + 1 then 11 else gSh E c := fun c => by
    show (if c = b + 2 then 12 else gSh E0 c) = _
    rw [hsx]
  have hlx1 : ∀ c, gLn (gX E0 (b + 2) a1 12 4) c = if c = b + 2 then 4 else if c = b + 1 then 10 else gLn E c := fun c => by
    show (if c = b + 2 then 4 else gLn E0 c) = _
    rw [hlx]
  rw [show gAd E0 b = gAd (gX E0 (b + 2) a1 12 4) b from ab2.symm]
  revert sb2 s2 s12 ab2 hZ1 hW1 r21 hle1 hsx1 hlx1
  generalize gX E0 (b + 2) a1 12 4 = E3
  generalize gUr (gZr M0 (b + 2)) b 2 (b + 2) = M3
  intro sb2 s2 s12 ab2 hZ1 hW1 r21 hle1 hsx1 hlx1
  refine g_iconst (pc := 21) (nI 0) (by decide) dX0_init_21 ?_
  refine g_istore_n (pc := 22) rfl [(0, .ref (gAd E3 b)), (1, .int (nI 0))] dX0_init_22 (by decide) rfl rfl ?_
  have lp : ∀ i, i ≤ 10 → ∀ E1 u, jF E3 M3 (b + 1) (b + 3) 5 i E1 u → gG l (gVx 2 16 106 E (qX0 b E M)) mX0_init E1 (2 + i, 14 + 8 * i) u 23 [(0, .ref (gAd E3 b)), (1, .int (nI i))] [] := by
    refine gloop (fun i hi ih => ?_)
    intro E1 u hj
    refine g_iload_n (pc := 23) 1 rfl rfl dX0_init_23 ?_
    refine g_bipush (pc := 24) (nI 10) (by decide) dX0_init_24 ?_
    refine g_icmpN_ge (pc := 26) 48 dX0_init_26 (by decide) (by omega) (by omega) (fun h18 => ?_) (fun h18 => ?_)
    · have e6 : i = 10 := by omega
      subst e6
      have k1 : gSh E1 b = 1 := by rw [hj.2.1, if_neg (by omega)]; exact sb2
      have k2 : gSh E1 (b + 2) = 12 := by rw [hj.2.1, if_neg (by omega)]; exact s2
      have a51 : gAd E1 b = gAd E3 b := hj.1.1 b (by rw [sb2]; decide)
      have l2 : gLn E1 (b + 2) = 4 := by rw [hj.2.2.1, if_neg (by omega), hlx1, if_pos rfl]
      refine g_iconst (pc := 48) (nI 0) (by decide) dX0_init_48 ?_
      refine g_istore_n (pc := 49) rfl [(0, .ref (gAd E3 b)), (1, .int (nI 0))] dX0_init_49 (by decide) rfl rfl ?_
      have lp2 : ∀ i, i ≤ 4 → ∀ E2 u2, jF E1 u (b + 2) (b + 13) 4 i E2 u2 → gG l (gVx 2 16 106 E (qX0 b E M)) mX0_init E2 (12 + i, 94 + 3 * i) u2 50 [(0, .ref (gAd E3 b)), (1, .int (nI i))] [] := by
        refine gloop (fun i hi ih => ?_)
        intro E2 u2 hj2
        refine g_iload_n (pc := 50) 1 rfl rfl dX0_init_50 ?_
        refine g_iconst (pc := 51) (nI 4) (by decide) dX0_init_51 ?_
        refine g_icmpN_ge (pc := 52) 74 dX0_init_52 (by decide) (by omega) (by omega) (fun h18 => ?_) (fun h18 => ?_)
        · have e6 : i = 4 := by omega
          subst e6
          obtain ⟨i1, i2, i3, i4, i5, i6⟩ := hj
          obtain ⟨j1, j2, j3, j4, j5, j6⟩ := hj2
          have hl2 : gLe E E1 := hle1.tr (fun c hc => by rw [hsx1]; split <;> (try split) <;> simp_all) i1
          have hl3 : gLe E E2 := hl2.tr (fun c hc => by rw [i2, hsx1]; split <;> (try split) <;> (try split) <;> simp_all) j1
          refine g_vretX (pc := 74) rfl dX0_init_74 ⟨hl3, fun c => ?_, fun c => ?_, j4, fun c k => ?_, j6⟩ hl3.2.1 hl3.2.2.1 hl3.2.2.2
          · rw [j2, i2, hsx1]
            repeat' split
            all_goals first | rfl | omega
          · rw [j3, i3, hlx1]
            repeat' split
            all_goals first | rfl | omega
          · rw [j5, i5, r21]
            repeat' split
            all_goals first | rfl | omega
        · have hi6 : i < 4 := by omega
          have h0 : gSh E1 (b + 13 + i) = 0 := by rw [hj.2.1, if_neg (by omega), hsx1, if_neg (by omega), if_neg (by omega)]; exact hc _ (by omega) (by omega)
          have a52 : gAd E2 b = gAd E3 b := (hj2.1.1 b (by rw [k1]; decide)).trans a51
          refine g_aload_n (pc := 55) 0 rfl rfl dX0_init_55 ?_
          refine g_st (pc := 56) (st' := [.ref (gAd E2 b)]) (by rw [a52]) ?_
          refine fX0_19 (pc := 56) (a := b) (b + 2) rfl (by rw [hj2.2.1, if_neg (by omega)]; exact k1) (by rw [hj2.2.2.2.2.1, if_neg (by omega), hj.2.2.2.2.1, if_neg (by omega), r21, if_pos ⟨rfl, rfl⟩]) (by omega) dX0_init_56 ?_
          refine g_iload_n (pc := 59) 1 rfl rfl dX0_init_59 ?_
          refine g_new (pc := 60) (b + 13 + i) 4 tyX3 rfl (by decide) wsX3 tyX3_ok wN03 wI3 iX3_init.1.1 (by decide) (jF_s hj2 h0) (jF_n hj2 h0 (by omega)) ⟨by show 12 + i + 1 ≤ 16; omega, by show 94 + 3 * i + 3 ≤ 106; omega⟩ dX0_init_60 (fun a2 => ?_)
          refine g_dup (pc := 63) rfl dX0_init_63 ?_
          refine g_callIN (pc := 64) (mc := mX3_init) (As := []) (rest := [.ref a2, .int (nI i), .ref (gAd E2 (b + 2))]) lX0_24 iX3_init rfl rfl (kX3_init l _ _ a2) ⟨Nat.le_of_ble_eq_true rfl, Nat.le_of_ble_eq_true rfl⟩ rfl rfl (Nat.le_of_ble_eq_true rfl) ⟨by show 12 + i + 1 + 0 ≤ 16; omega, by show 94 + 3 * i + 3 + 0 ≤ 106; omega⟩ dX0_init_64 (fun E4 u4 hq _ _ _ => ?_)
          obtain ⟨rfl, rfl⟩ := hq
          have hj1 := jF_1 (a := a2) hj2 h0 (by decide) (by rw [k2]; decide)
          refine g_st (pc := 67) (st' := [.ref (gAd (gX E2 (b + 13 + i) a2 4 0) (b + 13 + i)), .int (nI i), .ref (gAd (gX E2 (b + 13 + i) a2 4 0) (b + 2))]) (by rw [gX_ar, gX_ao (by omega)]) ?_
          have l61 : gLn (gX E2 (b + 13 + i) a2 4 0) (b + 2) = 4 := by rw [gX_lo (by omega), hj2.2.2.1, if_neg (by omega)]; exact l2
          refine g_aastore (pc := 67) (a := b + 2) (v := b + 13 + i) (kd := 12) (kv := 4) (t0 := 3) (by rw [gX_so (by omega), hj2.2.1, if_neg (by omega)]; exact k2) (by decide) gX_sr (by decide) (by decide) rfl rfl (by rw [l61]; exact hi6) (by rw [l61]; decide) (by omega) dX0_init_67 ?_
          refine g_iincN (pc := 68) 1 1 [(0, .ref (gAd E3 b)), (1, .int (nI (i + 1)))] rfl dX0_init_68 (by decide) rfl rfl ?_
          refine g_goto (pc := 71) 50 dX0_init_71 (by decide) ?_
          refine g_widen (k := 12 + (i + 1)) (n := 94 + 3 * (i + 1)) (by show 12 + i + 1 + 0 ≤ _; omega) (by show 94 + 3 * i + 3 + 0 ≤ _; omega) ?_
          exact ih hi6 _ _ hj1
      exact lp2 0 (by decide) _ _ (jF_0 hj.2.2.2.1 hj.2.2.2.2.2)
    · have hi6 : i < 10 := by omega
      have h0 : gSh E3 (b + 3 + i) = 0 := by rw [hsx1, if_neg (by omega), if_neg (by omega)]; exact hc _ (by omega) (by omega)
      have a51 : gAd E1 b = gAd E3 b := hj.1.1 b (by rw [sb2]; decide)
      have l1 : gLn E3 (b + 1) = 10 := by rw [hlx1, if_neg (by omega), if_pos rfl]
      refine g_aload_n (pc := 29) 0 rfl rfl dX0_init_29 ?_
      refine g_st (pc := 30) (st' := [.ref (gAd E1 b)]) (by rw [a51]) ?_
      refine fX0_11 (pc := 30) (a := b) (b + 1) rfl (by rw [hj.2.1, if_neg (by omega)]; exact sb2) (by rw [hj.2.2.2.2.1, if_neg (by omega), r21, if_neg (by omega), if_pos ⟨rfl, rfl⟩]) (by omega) dX0_init_30 ?_
      refine g_iload_n (pc := 33) 1 rfl rfl dX0_init_33 ?_
      refine g_new (pc := 34) (b + 3 + i) 5 tyX4 rfl (by decide) wsX4 tyX4_ok wN04 wI4 iX4_init.1.1 (by decide) (jF_s hj h0) (jF_n hj h0 (by omega)) ⟨by show 2 + i + 1 ≤ 16; omega, by show 14 + 8 * i + 8 ≤ 106; omega⟩ dX0_init_34 (fun a2 => ?_)
      refine g_dup (pc := 37) rfl dX0_init_37 ?_
      refine g_callIN (pc := 38) (mc := mX4_init) (As := []) (rest := [.ref a2, .int (nI i), .ref (gAd E1 (b + 1))]) lX0_23 iX4_init rfl rfl (kX4_init l _ _ a2) ⟨Nat.le_of_ble_eq_true rfl, Nat.le_of_ble_eq_true rfl⟩ rfl rfl (Nat.le_of_ble_eq_true rfl) ⟨by show 2 + i + 1 + 0 ≤ 16; omega, by show 14 + 8 * i + 8 + 0 ≤ 106; omega⟩ dX0_init_38 (fun E4 u4 hq _ _ _ => ?_)
      obtain ⟨rfl, rfl⟩ := hq
      have hj1 := jF_1 (a := a2) hj h0 (by decide) (by rw [s12]; decide)
      refine g_st (pc := 41) (st' := [.ref (gAd (gX E1 (b + 3 + i) a2 5 0) (b + 3 + i)), .int (nI i), .ref (gAd (gX E1 (b + 3 + i) a2 5 0) (b + 1))]) (by rw [gX_ar, gX_ao (by omega)]) ?_
      have l61 : gLn (gX E1 (b + 3 + i) a2 5 0) (b + 1) = 10 := by rw [gX_lo (by omega), hj.2.2.1, if_neg (by omega)]; exact l1
      refine g_aastore (pc := 41) (a := b + 1) (v := b + 3 + i) (kd := 11) (kv := 5) (t0 := 2) (by rw [gX_so (by omega), hj.2.1, if_neg (by omega)]; exact s12) (by decide) gX_sr (by decide) (by decide) rfl rfl (by rw [l61]; exact hi6) (by rw [l61]; decide) (by omega) dX0_init_41 ?_
      refine g_iincN (pc := 42) 1 1 [(0, .ref (gAd E3 b)), (1, .int (nI (i + 1)))] rfl dX0_init_42 (by decide) rfl rfl ?_
      refine g_goto (pc := 45) 23 dX0_init_45 (by decide) ?_
      refine g_widen (k := 2 + (i + 1)) (n := 14 + 8 * (i + 1)) (by show 2 + i + 1 + 0 ≤ _; omega) (by show 14 + 8 * i + 8 + 0 ≤ _; omega) ?_
      exact ih hi6 _ _ hj1
  exact lp 0 (by decide) _ _ (jF_0 hZ1 hW1)
