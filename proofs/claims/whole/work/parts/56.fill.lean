/-! constructors that fill an array with new cells -/
def wf (E : gEnv) (M : gMem) : Prop := (∀ c k, gSh E c = 0 → M.2 c k = 0) ∧ ∀ c k, M.2 c k ≠ 0 → gSh E (M.2 c k) ≠ 0
def gLe (E E1 : gEnv) : Prop := (∀ c, gSh E c ≠ 0 → gAd E1 c = gAd E c) ∧ gBs E1 = gBs E ∧ gD E1 = gD E ∧ gC E1 = gC E
section wfs
variable {E E1 E2 : gEnv} {M : gMem} {r a kd ln : Nat}
theorem gLe.rf : gLe E E := ⟨fun _ _ => rfl, rfl, rfl, rfl⟩
theorem wf_ne (h : wf E M) (hr : gSh E r = 0) (h0 : r ≠ 0) : ∀ c k, M.2 c k ≠ r := fun c k e => h.2 c k (by rw [e]; exact h0) (by rw [e]; exact hr)
theorem gZ2 (h : wf E M) (hr : gSh E r = 0) : ∀ c k, (gZr M r).2 c k = M.2 c k := fun c k => by
  show (if c = r then 0 else M.2 c k) = M.2 c k
  by_cases e : c = r
  · rw [if_pos e, e, h.1 r k hr]
  · rw [if_neg e]
theorem gZ1 (h : ∀ c k, M.1 c k = 0) : ∀ c k, (gZr M r).1 c k = 0 := fun c k => by
  show (if c = r then 0 else M.1 c k) = 0
  rw [h, ite_self]
theorem wf_new (h : wf E M) (hr : gSh E r = 0) (hk : kd ≠ 0) : wf (gX E r a kd ln) (gZr M r) := by
  refine ⟨fun c k hc => ?_, fun c k hc => ?_⟩
  · rw [gZ2 h hr]
    by_cases e : c = r
    · rw [e, gX_sr] at hc; exact absurd hc hk
    · rw [gX_so e] at hc; exact h.1 c k hc
  · rw [gZ2 h hr] at hc ⊢
    have h2 := h.2 c k hc
    have e : M.2 c k ≠ r := fun e => by rw [e] at h2; exact h2 hr
    rw [gX_so e]; exact h2
theorem wf_put {x k : Nat} (h : wf E M) (ha : gSh E a ≠ 0) (hx : gSh E x ≠ 0) : wf E (gUr M a k x) := by
  refine ⟨fun c j hc => ?_, fun c j hc => ?_⟩
  · show (if c = a ∧ j = k then x else M.2 c j) = 0
    rw [if_neg (fun e => ha (by rw [← e.1]; exact hc))]; exact h.1 c j hc
  · have e : (gUr M a k x).2 c j = if c = a ∧ j = k then x else M.2 c j := rfl
    rw [e] at hc ⊢
    by_cases h1 : c = a ∧ j = k
    · rw [if_pos h1]; exact hx
    · rw [if_neg h1] at hc ⊢; exact h.2 c j hc
theorem gLe.tr (h : gLe E E1) (hs : ∀ c, gSh E c ≠ 0 → gSh E1 c ≠ 0) (h' : gLe E1 E2) : gLe E E2 := ⟨fun c hc => (h'.1 c (hs c hc)).trans (h.1 c hc), h'.2.1.trans h.2.1, h'.2.2.1.trans h.2.2.1, h'.2.2.2.trans h.2.2.2⟩
theorem gLe.new (hr : gSh E r = 0) : gLe E (gX E r a kd ln) := ⟨fun c hc => gX_ao (fun e => hc (by rw [e]; exact hr)), rfl, rfl, rfl⟩
end wfs
def jF (E : gEnv) (M : gMem) (ar base kv i : Nat) (E1 : gEnv) (u : gMem) : Prop := gLe E E1 ∧ (∀ c, gSh E1 c = if base ≤ c ∧ c < base + i then kv else gSh E c) ∧ (∀ c, gLn E1 c = if base ≤ c ∧ c < base + i then 0 else gLn E c) ∧ (∀ c k, u.1 c k = 0) ∧ (∀ c k, u.2 c k = if c = ar ∧ k < i then base + k else M.2 c k) ∧ wf E1 u
section jFs
variable {E E1 : gEnv} {M u : gMem} {ar base kv i a : Nat}
theorem jF_0 (hz : ∀ c k, M.1 c k = 0) (hw : wf E M) : jF E M ar base kv 0 E M := ⟨gLe.rf, fun c => by rw [if_neg (by omega)], fun c => by rw [if_neg (by omega)], hz, fun c k => by rw [if_neg (by omega)], hw⟩
theorem jF_s (h : jF E M ar base kv i E1 u) (h0 : gSh E (base + i) = 0) : gSh E1 (base + i) = 0 := by rw [h.2.1, if_neg (by omega)]; exact h0
theorem jF_n (h : jF E M ar base kv i E1 u) (h0 : gSh E (base + i) = 0) (hb : base ≠ 0) : ∀ c k, u.2 c k ≠ base + i := wf_ne h.2.2.2.2.2 (jF_s h h0) (by omega)
theorem jF_1 (h : jF E M ar base kv i E1 u) (h0 : gSh E (base + i) = 0) (hk : kv ≠ 0) (ha : gSh E ar ≠ 0) : jF E M ar base kv (i + 1) (gX E1 (base + i) a kv 0) (gUr (gZr u (base + i)) ar i (base + i)) := by
  have hr := jF_s h h0
  obtain ⟨hle, hs, hl, h1, h2, hw⟩ := h
  have ha1 : ar ≠ base + i := fun e => ha (by rw [e]; exact h0)
  have hs1 : ∀ c, gSh E c ≠ 0 → gSh E1 c ≠ 0 := fun c hc => by rw [hs]; split <;> assumption
  refine ⟨hle.tr hs1 (gLe.new hr), fun c => ?_, fun c => ?_, gZ1 h1, fun c k => ?_, wf_put (wf_new hw hr hk) ?_ ?_⟩
  · by_cases e : c = base + i
    · rw [e, gX_sr, if_pos (by omega)]
    · rw [gX_so e, hs]
      by_cases e2 : base ≤ c ∧ c < base + i
      · rw [if_pos e2, if_pos (by omega)]
      · rw [if_neg e2, if_neg (by omega)]
  · by_cases e : c = base + i
    · rw [e, gX_lr, if_pos (by omega)]
    · rw [gX_lo e, hl]
      by_cases e2 : base ≤ c ∧ c < base + i
      · rw [if_pos e2, if_pos (by omega)]
      · rw [if_neg e2, if_neg (by omega)]
  · show (if c = ar ∧ k = i then base + i else (gZr u (base + i)).2 c k) = _
    rw [gZ2 hw hr, h2]
    by_cases e : c = ar
    · by_cases e1 : k = i
      · rw [if_pos ⟨e, e1⟩, if_pos (by omega), e1]
      · rw [if_neg (by omega)]
        by_cases e2 : k < i
        · rw [if_pos ⟨e, e2⟩, if_pos (by omega)]
        · rw [if_neg (by omega), if_neg (by omega)]
    · rw [if_neg (by omega), if_neg (by omega), if_neg (by omega)]
  · rw [gX_so ha1]; exact hs1 ar ha
  · rw [gX_sr]; exact hk
end jFs
theorem wN2 : Cond.classLink RX2 9 RX1 ∈ gT := gT_in 176 (by decide +kernel) (by decide +kernel)
theorem wI1 : Cond.instantiable RX1 3 ∈ gT := gT_in 178 (by decide +kernel) (by decide +kernel)
theorem wN04 : Cond.classLink RX0 9 RX4 ∈ gT := gT_in 83 (by decide +kernel) (by decide +kernel)
theorem wN03 : Cond.classLink RX0 17 RX3 ∈ gT := gT_in 85 (by decide +kernel) (by decide +kernel)
theorem wI4 : Cond.instantiable RX4 8 ∈ gT := gT_in 87 (by decide +kernel) (by decide +kernel)
theorem wI3 : Cond.instantiable RX3 3 ∈ gT := gT_in 130 (by decide +kernel) (by decide +kernel)
def qX2 (E : gEnv) (M : gMem) (E1 : gEnv) (u : gMem) : Prop := gLe E E1 ∧ (∀ c, gSh E1 c = if c = 6 then 13 else if 10 ≤ c ∧ c < 16 then 2 else gSh E c) ∧ (∀ c, gLn E1 c = if c = 6 then 6 else if 10 ≤ c ∧ c < 16 then 0 else gLn E c) ∧ (∀ c k, u.1 c k = 0) ∧ (∀ c k, u.2 c k = if c = 6 ∧ k < 6 then 10 + k else if c = 5 ∧ k = 0 then 6 else M.2 c k) ∧ wf E1 u
theorem kX2_init (l : Launch) (E : gEnv) (M : gMem) (h5 : gSh E 5 = 3) (h6 : gSh E 6 = 0) (hc : ∀ c, 10 ≤ c → c < 16 → gSh E c = 0) (hw : wf E M) (hz : ∀ c k, M.1 c k = 0) : gMx l E mX2_init 2 7 24 [.ref (gAd E 5)] M (qX2 E M) := by
  refine gMx_of (mm := mX2_init) [(0, .ref (gAd E 5))] (by decide) (Nat.le_of_ble_eq_true rfl) rfl ?_
  refine g_aload_n (pc := 0) 0 rfl rfl dX2_init_0 ?_
  refine g_oinit (pc := 1) (rest := []) lX2_3 oI_i oI_c ⟨Nat.le_of_ble_eq_true rfl, Nat.le_of_ble_eq_true rfl⟩ (Nat.zero_le _) dX2_init_1 ?_
  refine g_aload_n (pc := 4) 0 rfl rfl dX2_init_4 ?_
  refine g_bipush (pc := 5) (nI 6) (by decide) dX2_init_5 ?_
  refine g_anew (pc := 7) (n := 6) (kd := 13) 6 (by decide) rfl wN2 aO_1 (by decide) h6 (wf_ne hw h6 (by decide)) ⟨Nat.le_of_ble_eq_true rfl, Nat.le_of_ble_eq_true rfl⟩ dX2_init_7 (fun a => ?_)
  refine g_st (pc := 10) (st' := [.ref (gAd (gX E 6 a 13 6) 6), .ref (gAd (gX E 6 a 13 6) 5)]) rfl ?_
  have s5 : gSh (gX E 6 a 13 6) 5 = 3 := by rw [gX_so (by decide)]; exact h5
  have s6 : gSh (gX E 6 a 13 6) 6 = 13 := gX_sr
  have l6 : gLn (gX E 6 a 13 6) 6 = 6 := gX_lr
  have sc : ∀ c, 10 ≤ c → c < 16 → gSh (gX E 6 a 13 6) c = 0 := fun c h1 h2 => by rw [gX_so (by omega)]; exact hc c h1 h2
  refine uX2_11 (pc := 10) (a := 5) (x := 6) rfl rfl s5 (by decide) dX2_init_10 ?_
  have a5 : gAd E 5 = gAd (gX E 6 a 13 6) 5 := rfl
  have hZ : ∀ c k, (gUr (gZr M 6) 5 0 6).1 c k = 0 := gZ1 hz
  have hW : wf (gX E 6 a 13 6) (gUr (gZr M 6) 5 0 6) := wf_put (wf_new hw h6 (by decide)) (by rw [s5]; decide) (by rw [s6]; decide)
  have r5 : (gUr (gZr M 6) 5 0 6).2 5 0 = 6 := rfl
  have r2 : ∀ c k, (gUr (gZr M 6) 5 0 6).2 c k = if c = 5 ∧ k = 0 then 6 else M.2 c k := fun c k => by
    show (if c = 5 ∧ k = 0 then 6 else (gZr M 6).2 c k) = _
    rw [gZ2 hw h6]
  have hle : gLe E (gX E 6 a 13 6) := gLe.new h6
  have hsx : ∀ c, gSh (gX E 6 a 13 6) c = if c = 6 then 13 else gSh E c := fun c => rfl
  have hlx : ∀ c, gLn (gX E 6 a 13 6) c = if c = 6 then 6 else gLn E c := fun c => rfl
  rw [a5]
  refine g_iconst (pc := 13) (nI 0) (by decide) dX2_init_13 ?_
  refine g_istore_n (pc := 14) rfl [(0, .ref (gAd (gX E 6 a 13 6) 5)), (1, .int (nI 0))] dX2_init_14 (by decide) rfl rfl ?_
  revert s5 s6 l6 sc a5 hZ hW r5 r2 hle hsx hlx
  generalize gX E 6 a 13 6 = E0
  generalize gUr (gZr M 6) 5 0 6 = M0
  intro s5 s6 l6 sc a5 hZ hW r5 r2 hle hsx hlx
  have lp : ∀ i, i ≤ 6 → ∀ E1 u, jF E0 M0 6 10 2 i E1 u → gG l (gVx 2 7 24 E (qX2 E M)) mX2_init E1 (1 + i, 6 + 3 * i) u 15 [(0, .ref (gAd E0 5)), (1, .int (nI i))] [] := by
    refine gloop (fun i hi ih => ?_)
    intro E1 u hj
    refine g_iload_n (pc := 15) 1 rfl rfl dX2_init_15 ?_
    refine g_bipush (pc := 16) (nI 6) (by decide) dX2_init_16 ?_
    refine g_icmpN_ge (pc := 18) 40 dX2_init_18 (by decide) (by omega) (by omega) (fun h18 => ?_) (fun h18 => ?_)
    · have e6 : i = 6 := by omega
      subst e6
      obtain ⟨j1, j2, j3, j4, j5, j6⟩ := hj
      have hl2 : gLe E E1 := hle.tr (fun c hc => by rw [hsx]; split <;> simp_all) j1
      refine g_vretX (pc := 40) rfl dX2_init_40 ⟨hl2, fun c => ?_, fun c => ?_, j4, fun c k => ?_, j6⟩ hl2.2.1 hl2.2.2.1 hl2.2.2.2
      · rw [j2, hsx]
        by_cases e : c = 6
        · rw [if_pos e, if_pos e, if_neg (by omega)]
        · rw [if_neg e, if_neg e]
      · rw [j3, hlx]
        by_cases e : c = 6
        · rw [if_pos e, if_pos e, if_neg (by omega)]
        · rw [if_neg e, if_neg e]
      · rw [j5, r2]
    · have hi6 : i < 6 := by omega
      have h0 : gSh E0 (10 + i) = 0 := sc _ (by omega) (by omega)
      have a51 : gAd E1 5 = gAd E0 5 := hj.1.1 5 (by rw [s5]; decide)
      refine g_aload_n (pc := 21) 0 rfl rfl dX2_init_21 ?_
      refine g_st (pc := 22) (st' := [.ref (gAd E1 5)]) (by rw [a51]) ?_
      refine fX2_11 (pc := 22) (a := 5) 6 rfl (by rw [hj.2.1, if_neg (by omega)]; exact s5) (by rw [hj.2.2.2.2.1, if_neg (by omega)]; exact r5) (by decide) dX2_init_22 ?_
      refine g_iload_n (pc := 25) 1 rfl rfl dX2_init_25 ?_
      refine g_new (pc := 26) (10 + i) 2 tyX1 rfl (by decide) wsX1 tyX1_ok wN2 wI1 iX1_init.1.1 (by decide) (jF_s hj h0) (jF_n hj h0 (by decide)) ⟨by show 1 + i + 1 ≤ 7; omega, by show 6 + 3 * i + 3 ≤ 24; omega⟩ dX2_init_26 (fun a2 => ?_)
      refine g_dup (pc := 29) rfl dX2_init_29 ?_
      refine g_callIN (pc := 30) (mc := mX1_init) (As := []) (rest := [.ref a2, .int (nI i), .ref (gAd E1 6)]) lX2_17 iX1_init rfl rfl (kX1_init l _ _ a2) ⟨Nat.le_of_ble_eq_true rfl, Nat.le_of_ble_eq_true rfl⟩ rfl rfl (Nat.le_of_ble_eq_true rfl) ⟨by show 1 + i + 1 + 0 ≤ 7; omega, by show 6 + 3 * i + 3 + 0 ≤ 24; omega⟩ dX2_init_30 (fun E2 u2 hq _ _ _ => ?_)
      obtain ⟨rfl, rfl⟩ := hq
      have hj1 := jF_1 (a := a2) hj h0 (by decide) (by rw [s6]; decide)
      refine g_st (pc := 33) (st' := [.ref (gAd (gX E1 (10 + i) a2 2 0) (10 + i)), .int (nI i), .ref (gAd (gX E1 (10 + i) a2 2 0) 6)]) (by rw [gX_ar, gX_ao (by omega)]) ?_
      have l61 : gLn (gX E1 (10 + i) a2 2 0) 6 = 6 := by rw [gX_lo (by omega), hj.2.2.1, if_neg (by omega)]; exact l6
      refine g_aastore (pc := 33) (a := 6) (v := 10 + i) (kd := 13) (kv := 2) (t0 := 4) (by rw [gX_so (by omega), hj.2.1, if_neg (by omega)]; exact s6) (by decide) gX_sr (by decide) (by decide) rfl rfl (by rw [l61]; exact hi6) (by rw [l61]; decide) (by omega) dX2_init_33 ?_
      refine g_iincN (pc := 34) 1 1 [(0, .ref (gAd E0 5)), (1, .int (nI (i + 1)))] rfl dX2_init_34 (by decide) rfl rfl ?_
      refine g_goto (pc := 37) 15 dX2_init_37 (by decide) ?_
      refine g_widen (k := 1 + (i + 1)) (n := 6 + 3 * (i + 1)) (by show 1 + i + 1 + 0 ≤ _; omega) (by show 6 + 3 * i + 3 + 0 ≤ _; omega) ?_
      exact ih hi6 _ _ hj1
  exact lp 0 (by decide) _ _ (jF_0 hZ hW)
