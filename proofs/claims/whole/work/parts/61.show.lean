/-! ShowRights' constructor -/
theorem wNL6 : Cond.classLink RL 7 RX6 ∈ gT := gT_in 57 (by decide +kernel) (by decide +kernel)
theorem wNL7 : Cond.classLink RL 10 RX7 ∈ gT := gT_in 593 (by decide +kernel) (by decide +kernel)
theorem wI6 : Cond.instantiable RX6 7 ∈ gT := gT_in 58 (by decide +kernel) (by decide +kernel)
theorem wI7 : Cond.instantiable RX7 22 ∈ gT := gT_in 594 (by decide +kernel) (by decide +kernel)
theorem wN65 : Cond.classLink RX6 13 RX5 ∈ gT := gT_in 65 (by decide +kernel) (by decide +kernel)
theorem wI5 : Cond.instantiable RX5 1 ∈ gT := gT_in 66 (by decide +kernel) (by decide +kernel)
theorem wN60 : Cond.classLink RX6 20 RX0 ∈ gT := gT_in 77 (by decide +kernel) (by decide +kernel)
theorem wI0 : Cond.instantiable RX0 6 ∈ gT := gT_in 78 (by decide +kernel) (by decide +kernel)
theorem wN62 : Cond.classLink RX6 30 RX2 ∈ gT := gT_in 170 (by decide +kernel) (by decide +kernel)
theorem wI2 : Cond.instantiable RX2 2 ∈ gT := gT_in 171 (by decide +kernel) (by decide +kernel)
def qX6 (E : gEnv) (E1 : gEnv) (w : gMem) : Prop := gLe E E1 ∧ (∀ c, 60 ≤ c → gSh E1 c = 0) ∧ cS E1 w 40 20 ∧ wf E1 w ∧ (∃ s, bRep w 40 s ∧ aOk s ∧ aE s (sA 6 2)) ∧ w.1 1 1 = 0 ∧ w.1 1 5 = 0 ∧ w.1 5 1 = 0 ∧ ∀ i, w.1 4 i < 100
section stages
variable {l : Launch} {E : gEnv} {M : gMem} {Q : gEnv → gMem → Prop} {V : gVt}
/-- a book is made and put into the field -/
theorem st_book {E0 : gEnv} {cs : Nat × Nat} {pc : Nat} (b : Nat) (hV : V.1.frames = 6 ∧ V.1.locals = 240) (hcs : cs.1 + 17 ≤ V.1.cells ∧ cs.2 + 112 ≤ V.1.slots) (hb0 : b ≠ 0) (h1 : gSh E 1 = 7) (hc : ∀ c, b ≤ c → c < b + 17 → gSh E c = 0) (hw : wf E M) (hz : ∀ c k, M.1 c k = 0) (ha : gAd E 1 = gAd E0 1)
    (d0 : decode cX6_init pc = .ok (.aload_n 0, 1)) (d1 : decode cX6_init (pc + 1) = .ok (.new 20, 3)) (d2 : decode cX6_init (pc + 1 + 3) = .ok (.dup, 1)) (d3 : decode cX6_init (pc + 1 + 3 + 1) = .ok (.invokespecial 22, 3))
    (kk : ∀ E1 u, gAd E1 1 = gAd E0 1 → gSh E1 1 = 7 → gSh E1 b = 1 → gLe E E1 → (∀ c, gSh E1 c = if c = b then 1 else if c = b + 1 then 11 else if c = b + 2 then 12 else if b + 3 ≤ c ∧ c < b + 13 then 5 else if b + 13 ≤ c ∧ c < b + 17 then 4 else gSh E c) → (∀ c, gLn E1 c = if c = b then 0 else if c = b + 1 then 10 else if c = b + 2 then 4 else if b + 3 ≤ c ∧ c < b + 17 then 0 else gLn E c) → (∀ c k, u.1 c k = 0) → (∀ c k, u.2 c k = if c = b + 1 ∧ k < 10 then b + 3 + k else if c = b + 2 ∧ k < 4 then b + 13 + k else if c = b ∧ k = 0 then b + 1 else if c = b ∧ k = 2 then b + 2 else M.2 c k) → wf E1 u →
      gG l V mX6_init E1 (cs.1 + 1 + 16, cs.2 + 6 + 106) u (pc + 1 + 3 + 1 + 3) [(0, .ref (gAd E0 1))] [.ref (gAd E1 b), .ref (gAd E1 1)]) : gG l V mX6_init E cs M pc [(0, .ref (gAd E0 1))] [] := by
  have hb : gSh E b = 0 := hc b (by omega) (by omega)
  have hb1 : b ≠ 1 := fun e => by rw [e, h1] at hb; cases hb
  refine g_aload_n (pc := pc) 0 rfl rfl d0 ?_
  refine g_new (pc := pc + 1) b 1 tyX0 rfl (by decide) wsX0 tyX0_ok wN60 wI0 iX0_init.1.1 (by decide) hb (wf_ne hw hb hb0) ⟨by omega, by omega⟩ d1 (fun a => ?_)
  refine g_dup (pc := pc + 1 + 3) rfl d2 ?_
  have hk := kX0_init l (gX E b a 1 0) (gZr M b) b hb0 gX_sr (fun c q1 q2 => by rw [gX_so (by omega)]; exact hc c (by omega) q2) (wf_new hw hb (by decide)) (gZ1 hz)
  rw [gX_ar] at hk
  refine g_callI (pc := pc + 1 + 3 + 1) (mc := mX0_init) (As := []) (rest := [.ref a, .ref (gAd E0 1)]) lX6_22 iX0_init rfl rfl hk ⟨by rw [hV.1]; decide, by rw [hV.2]; decide⟩ rfl rfl (Nat.le_of_ble_eq_true rfl) ⟨by show cs.1 + 1 + 16 ≤ _; omega, by show cs.2 + 6 + 106 ≤ _; omega⟩ d3 (fun E1 u hq _ _ _ => ?_)
  obtain ⟨q1, q2, q3, q4, q5, q6⟩ := hq
  have ab : gAd E1 b = a := by rw [q1.1 b (by rw [gX_sr]; decide), gX_ar]
  have a1 : gAd E1 1 = gAd E0 1 := by rw [q1.1 1 (by rw [gX_so (by omega), h1]; decide), gX_ao (by omega), ha]
  have s1 : gSh E1 1 = 7 := by
    rw [q2, if_neg, if_neg, if_neg, if_neg, gX_so (by omega)]
    · exact h1
    · intro q; have := hc 1 (by omega) (by omega); rw [h1] at this; cases this
    · intro q; have := hc 1 (by omega) (by omega); rw [h1] at this; cases this
    · intro q; have := hc 1 (by omega) (by omega); rw [h1] at this; cases this
    · intro q; have := hc 1 (by omega) (by omega); rw [h1] at this; cases this
  have sb : gSh E1 b = 1 := by rw [q2, if_neg (by omega), if_neg (by omega), if_neg (by omega), if_neg (by omega), gX_sr]
  refine g_st (st' := [.ref (gAd E1 b), .ref (gAd E1 1)]) (by rw [ab, a1]) ?_
  refine kk E1 u a1 s1 sb ((gLe.new hb).tr (fun c hc => by show (if c = b then 1 else gSh E c) ≠ 0; split <;> simp_all) q1) (fun c => ?_) (fun c => ?_) q4 (fun c k => ?_) q6
  · rw [q2]
    show _ = _
    by_cases e : c = b
    · rw [if_neg (by omega), if_neg (by omega), if_neg (by omega), if_neg (by omega), e, gX_sr, if_pos rfl]
    · rw [gX_so e, if_neg e]
  · rw [q3]
    by_cases e : c = b
    · rw [if_neg (by omega), if_neg (by omega), if_neg (by omega), e, gX_lr, if_pos rfl]
    · rw [gX_lo e, if_neg e]
  · rw [q5, gZ2 hw hb]
end stages
theorem st_cS {E E2 E3 E4 E5 : gEnv} {M2 u3 M3 u4 M4 M5 : gMem} (s15 : gSh E5 1 = 7) (s55 : gSh E5 5 = 3)
    (hs5 : ∀ c, gSh E5 c = if c = 6 then 13 else if 10 ≤ c ∧ c < 16 then 2 else if c = 5 then 3 else gSh E4 c) (hl5 : ∀ c, gLn E5 c = if c = 6 then 6 else if 10 ≤ c ∧ c < 16 then 0 else if c = 5 then 0 else gLn E4 c) (hr5 : ∀ c k, M5.2 c k = if c = 1 ∧ k = 6 then 5 else if c = 6 ∧ k < 6 then 10 + k else if c = 5 ∧ k = 0 then 6 else M4.2 c k)
    (hs4 : (∀ c, gSh E4 c = if c = 40 then 1 else if c = 40 + 1 then 11 else if c = 40 + 2 then 12 else if 40 + 3 ≤ c ∧ c < 40 + 13 then 5 else if 40 + 13 ≤ c ∧ c < 40 + 17 then 4 else gSh E3 c)) (hl4 : (∀ c, gLn E4 c = if c = 40 then 0 else if c = 40 + 1 then 10 else if c = 40 + 2 then 4 else if 40 + 3 ≤ c ∧ c < 40 + 17 then 0 else gLn E3 c)) (hr4' : ∀ c k, M4.2 c k = if c = 1 ∧ k = 4 then 40 else u4.2 c k) (hr4 : (∀ c k, u4.2 c k = if c = 40 + 1 ∧ k < 10 then 40 + 3 + k else if c = 40 + 2 ∧ k < 4 then 40 + 13 + k else if c = 40 ∧ k = 0 then 40 + 1 else if c = 40 ∧ k = 2 then 40 + 2 else M3.2 c k))
    (hs3 : (∀ c, gSh E3 c = if c = 20 then 1 else if c = 20 + 1 then 11 else if c = 20 + 2 then 12 else if 20 + 3 ≤ c ∧ c < 20 + 13 then 5 else if 20 + 13 ≤ c ∧ c < 20 + 17 then 4 else gSh E2 c)) (hl3 : (∀ c, gLn E3 c = if c = 20 then 0 else if c = 20 + 1 then 10 else if c = 20 + 2 then 4 else if 20 + 3 ≤ c ∧ c < 20 + 17 then 0 else gLn E2 c)) (hr3' : ∀ c k, M3.2 c k = if c = 1 ∧ k = 3 then 20 else u3.2 c k) (hr3 : (∀ c k, u3.2 c k = if c = 20 + 1 ∧ k < 10 then 20 + 3 + k else if c = 20 + 2 ∧ k < 4 then 20 + 13 + k else if c = 20 ∧ k = 0 then 20 + 1 else if c = 20 ∧ k = 2 then 20 + 2 else M2.2 c k))
    (hs2 : ∀ c, gSh E2 c = if c = 4 then 9 else if c = 3 then 6 else if c = 2 then 10 else gSh E c) (hl2 : ∀ c, gLn E2 c = if c = 4 then 7 else if c = 3 then 0 else if c = 2 then 200 else gLn E c) (hr2 : ∀ c k, M2.2 c k = if c = 1 ∧ k = 2 then 3 else if c = 3 ∧ k = 0 then 4 else if c = 1 ∧ k = 0 then 2 else 0) : cS E5 M5 20 40 := by
  have a5 : ∀ c, c < 5 → gSh E5 c = gSh E2 c := fun c q => by rw [hs5, if_neg (by omega), if_neg (by omega), if_neg (by omega), hs4, if_neg (by omega), if_neg (by omega), if_neg (by omega), if_neg (by omega), if_neg (by omega), hs3, if_neg (by omega), if_neg (by omega), if_neg (by omega), if_neg (by omega), if_neg (by omega)]
  have b5 : ∀ c, c < 5 → gLn E5 c = gLn E2 c := fun c q => by rw [hl5, if_neg (by omega), if_neg (by omega), if_neg (by omega), hl4, if_neg (by omega), if_neg (by omega), if_neg (by omega), if_neg (by omega), hl3, if_neg (by omega), if_neg (by omega), if_neg (by omega), if_neg (by omega)]
  have a2 : ∀ c, 20 ≤ c → c < 37 → gSh E5 c = gSh E3 c := fun c q1 q2 => by rw [hs5, if_neg (by omega), if_neg (by omega), if_neg (by omega), hs4, if_neg (by omega), if_neg (by omega), if_neg (by omega), if_neg (by omega), if_neg (by omega)]
  have b2 : ∀ c, 20 ≤ c → c < 37 → gLn E5 c = gLn E3 c := fun c q1 q2 => by rw [hl5, if_neg (by omega), if_neg (by omega), if_neg (by omega), hl4, if_neg (by omega), if_neg (by omega), if_neg (by omega), if_neg (by omega)]
  have a4 : ∀ c, 40 ≤ c → c < 57 → gSh E5 c = gSh E4 c := fun c q1 q2 => by rw [hs5, if_neg (by omega), if_neg (by omega), if_neg (by omega)]
  have b4 : ∀ c, 40 ≤ c → c < 57 → gLn E5 c = gLn E4 c := fun c q1 q2 => by rw [hl5, if_neg (by omega), if_neg (by omega), if_neg (by omega)]
  have r1 : ∀ c k, c < 5 → ¬ (c = 1 ∧ (k = 6 ∨ k = 4 ∨ k = 3)) → M5.2 c k = M2.2 c k := fun c k q1 q2 => by rw [hr5, if_neg (by omega), if_neg (by omega), if_neg (by omega), hr4', if_neg (by omega), hr4, if_neg (by omega), if_neg (by omega), if_neg (by omega), if_neg (by omega), hr3', if_neg (by omega), hr3, if_neg (by omega), if_neg (by omega), if_neg (by omega), if_neg (by omega)]
  have r20 : ∀ c k, 20 ≤ c → c < 37 → M5.2 c k = u3.2 c k := fun c k q1 q2 => by rw [hr5, if_neg (by omega), if_neg (by omega), if_neg (by omega), hr4', if_neg (by omega), hr4, if_neg (by omega), if_neg (by omega), if_neg (by omega), if_neg (by omega), hr3', if_neg (by omega)]
  have r40 : ∀ c k, 40 ≤ c → c < 57 → M5.2 c k = u4.2 c k := fun c k q1 q2 => by rw [hr5, if_neg (by omega), if_neg (by omega), if_neg (by omega), hr4', if_neg (by omega)]
  refine ⟨⟨s15, ?_, ?_, ?_, ?_, ?_, s55, ?_, ?_, fun c q => ?_⟩, ⟨?_, ?_, ?_, ?_, ?_, ?_, ?_⟩, ⟨⟨?_, ?_, ?_, ?_, ?_, ?_, ?_⟩, fun i q => ⟨?_, ?_⟩, fun i q => ⟨?_, ?_⟩⟩, ⟨⟨?_, ?_, ?_, ?_, ?_, ?_, ?_⟩, fun i q => ⟨?_, ?_⟩, fun i q => ⟨?_, ?_⟩⟩, Or.inl ⟨rfl, rfl⟩, fun c q => ?_, fun c d q q' e => ?_⟩
  · rw [a5 2 (by decide), hs2]; rfl
  · rw [b5 2 (by decide), hl2]; rfl
  · rw [a5 3 (by decide), hs2]; rfl
  · rw [a5 4 (by decide), hs2]; rfl
  · rw [b5 4 (by decide), hl2]; rfl
  · rw [hs5]; rfl
  · rw [hl5]; rfl
  · rw [hs5, if_neg (by omega), if_pos (by omega)]
  · rw [r1 1 0 (by decide) (by omega), hr2]; rfl
  · rw [r1 1 2 (by decide) (by omega), hr2]; rfl
  · rw [hr5]; rfl
  · rw [r1 3 0 (by decide) (by omega), hr2]; rfl
  · rw [hr5]; rfl
  · rw [hr5, if_neg (by omega), if_neg (by omega), if_neg (by omega), hr4', if_neg (by omega), hr4, if_neg (by omega), if_neg (by omega), if_neg (by omega), if_neg (by omega), hr3', if_pos (by omega)]
  · rw [hr5, if_neg (by omega), if_neg (by omega), if_neg (by omega), hr4', if_pos (by omega)]
  · rw [a2 _ (by omega) (by omega), hs3, if_pos (by omega)]
  · rw [a2 _ (by omega) (by omega), hs3, if_neg (by omega), if_pos (by omega)]
  · rw [b2 _ (by omega) (by omega), hl3, if_neg (by omega), if_pos (by omega)]
  · rw [a2 _ (by omega) (by omega), hs3, if_neg (by omega), if_neg (by omega), if_pos (by omega)]
  · rw [b2 _ (by omega) (by omega), hl3, if_neg (by omega), if_neg (by omega), if_pos (by omega)]
  · rw [r20 _ _ (by omega) (by omega), hr3, if_neg (by omega), if_neg (by omega), if_pos (by omega)]
  · rw [r20 _ _ (by omega) (by omega), hr3, if_neg (by omega), if_neg (by omega), if_neg (by omega), if_pos (by omega)]
  · rw [a2 _ (by omega) (by omega), hs3, if_neg (by omega), if_neg (by omega), if_neg (by omega), if_pos (by omega)]
  · rw [r20 _ _ (by omega) (by omega), hr3, if_pos (by omega)]
  · rw [a2 _ (by omega) (by omega), hs3, if_neg (by omega), if_neg (by omega), if_neg (by omega), if_neg (by omega), if_pos (by omega)]
  · rw [r20 _ _ (by omega) (by omega), hr3, if_neg (by omega), if_pos (by omega)]
  · rw [a4 _ (by omega) (by omega), hs4, if_pos (by omega)]
  · rw [a4 _ (by omega) (by omega), hs4, if_neg (by omega), if_pos (by omega)]
  · rw [b4 _ (by omega) (by omega), hl4, if_neg (by omega), if_pos (by omega)]
  · rw [a4 _ (by omega) (by omega), hs4, if_neg (by omega), if_neg (by omega), if_pos (by omega)]
  · rw [b4 _ (by omega) (by omega), hl4, if_neg (by omega), if_neg (by omega), if_pos (by omega)]
  · rw [r40 _ _ (by omega) (by omega), hr4, if_neg (by omega), if_neg (by omega), if_pos (by omega)]
  · rw [r40 _ _ (by omega) (by omega), hr4, if_neg (by omega), if_neg (by omega), if_neg (by omega), if_pos (by omega)]
  · rw [a4 _ (by omega) (by omega), hs4, if_neg (by omega), if_neg (by omega), if_neg (by omega), if_pos (by omega)]
  · rw [r40 _ _ (by omega) (by omega), hr4, if_pos (by omega)]
  · rw [a4 _ (by omega) (by omega), hs4, if_neg (by omega), if_neg (by omega), if_neg (by omega), if_neg (by omega), if_pos (by omega)]
  · rw [r40 _ _ (by omega) (by omega), hr4, if_neg (by omega), if_pos (by omega)]
  · rw [hr5, if_neg (by omega), if_pos (by omega)]; omega
  · rw [hr5, if_neg (by omega), if_pos (by omega), hr5, if_neg (by omega), if_pos (by omega)] at e; omega
set_option maxHeartbeats 4000000 in
theorem kX6_init (l : Launch) (E : gEnv) (M : gMem) (h1 : gSh E 1 = 7) (hc : ∀ c, c ≠ 1 → gSh E c = 0) (hz : ∀ c k, M.1 c k = 0) (hr : ∀ c k, M.2 c k = 0) : gMx l E mX6_init 6 45 458 [.ref (gAd E 1)] M (qX6 E) := by
  have hw : wf E M := ⟨fun c k _ => hr c k, fun c k h => absurd (hr c k) h⟩
  have on1 : ∀ c, gSh E c ≠ 0 → c = 1 := fun c q => Classical.byContradiction fun z => q (hc c z)
  refine gMx_of (mm := mX6_init) [(0, .ref (gAd E 1))] (by decide) (Nat.le_of_ble_eq_true rfl) rfl ?_
  refine g_aload_n (pc := 0) 0 rfl rfl dX6_init_0 ?_
  refine g_oinit (pc := 1) (rest := []) lX6_3 oI_i oI_c ⟨Nat.le_of_ble_eq_true rfl, Nat.le_of_ble_eq_true rfl⟩ (Nat.zero_le _) dX6_init_1 ?_
  refine g_aload_n (pc := 4) 0 rfl rfl dX6_init_4 ?_
  refine g_sipush (pc := 5) (nI 200) (by decide) dX6_init_5 ?_
  have z2 : gSh E 2 = 0 := hc 2 (by decide)
  refine g_newaC (pc := 8) (n := 200) 2 aC_c (by decide) z2 (wf_ne hw z2 (by decide)) ⟨Nat.le_of_ble_eq_true rfl, Nat.le_of_ble_eq_true rfl⟩ dX6_init_8 (fun a => ?_)
  refine g_st (pc := 10) (st' := [.ref (gAd (gX E 2 a 10 200) 2), .ref (gAd (gX E 2 a 10 200) 1)]) rfl ?_
  have s1 : gSh (gX E 2 a 10 200) 1 = 7 := h1
  refine uX6_9 (pc := 10) (a := 1) (x := 2) rfl rfl s1 (by decide) dX6_init_10 ?_
  have hW : wf (gX E 2 a 10 200) (gUr (gZr M 2) 1 0 2) := wf_put (wf_new hw z2 (by decide)) (by rw [s1]; decide) (by rw [gX_sr]; decide)
  have hZ : ∀ c k, (gUr (gZr M 2) 1 0 2).1 c k = 0 := gZ1 hz
  have hr2 : ∀ c k, (gUr (gZr M 2) 1 0 2).2 c k = if c = 1 ∧ k = 0 then 2 else 0 := fun c k => by
    show (if c = 1 ∧ k = 0 then 2 else (gZr M 2).2 c k) = _
    rw [gZ2 hw z2, hr]
  have hs : ∀ c, gSh (gX E 2 a 10 200) c = if c = 2 then 10 else gSh E c := fun c => rfl
  have hl : ∀ c, gLn (gX E 2 a 10 200) c = if c = 2 then 200 else gLn E c := fun c => rfl
  have hle : gLe E (gX E 2 a 10 200) := gLe.new z2
  revert s1 hW hZ hr2 hs hl hle
  generalize gX E 2 a 10 200 = E1
  generalize gUr (gZr M 2) 1 0 2 = M1
  intro s1 hW hZ hr2 hs hl hle
  -- the reader
  refine g_aload_n (pc := 13) 0 rfl rfl dX6_init_13 ?_
  have z3 : gSh E1 3 = 0 := by rw [hs, if_neg (by decide)]; exact hc 3 (by decide)
  refine g_new (pc := 14) 3 6 tyX5 rfl (by decide) wsX5 tyX5_ok wN65 wI5 iX5_init.1.1 (by decide) z3 (wf_ne hW z3 (by decide)) ⟨Nat.le_of_ble_eq_true rfl, Nat.le_of_ble_eq_true rfl⟩ dX6_init_14 (fun a3 => ?_)
  refine g_dup (pc := 17) rfl dX6_init_17 ?_
  have z4 : gSh (gX E1 3 a3 6 0) 4 = 0 := by rw [gX_so (by decide), hs, if_neg (by decide)]; exact hc 4 (by decide)
  have w3 : wf (gX E1 3 a3 6 0) (gZr M1 3) := wf_new hW z3 (by decide)
  have hk := kX5_init l (gX E1 3 a3 6 0) (gZr M1 3) gX_sr z4 (wf_ne w3 z4 (by decide))
  rw [gX_ar] at hk
  refine g_callIN (pc := 18) (mc := mX5_init) (As := []) (rest := [.ref a3, .ref (gAd E 1)]) lX6_15 iX5_init rfl rfl hk ⟨Nat.le_of_ble_eq_true rfl, Nat.le_of_ble_eq_true rfl⟩ rfl rfl (Nat.le_of_ble_eq_true rfl) ⟨Nat.le_of_ble_eq_true rfl, Nat.le_of_ble_eq_true rfl⟩ dX6_init_18 (fun E2 u2 hq _ _ _ => ?_)
  obtain ⟨a4, rfl, rfl⟩ := hq
  have a1E : gAd E1 1 = gAd E 1 := hle.1 1 (by rw [h1]; decide)
  refine g_st (pc := 21) (st' := [.ref (gAd (gX (gX E1 3 a3 6 0) 4 a4 9 7) 3), .ref (gAd (gX (gX E1 3 a3 6 0) 4 a4 9 7) 1)]) (by rw [gX_ao (by decide), gX_ar, gX_ao (by decide), gX_ao (by decide), a1E]) ?_
  have s12 : gSh (gX (gX E1 3 a3 6 0) 4 a4 9 7) 1 = 7 := s1
  refine uX6_16 (pc := 21) (a := 1) (x := 3) rfl rfl s12 (by decide) dX6_init_21 ?_
  have hZ2 : ∀ c k, (gUr (gUr (gZr (gZr M1 3) 4) 3 0 4) 1 2 3).1 c k = 0 := gZ1 (gZ1 hZ)
  have w4 : wf (gX (gX E1 3 a3 6 0) 4 a4 9 7) (gZr (gZr M1 3) 4) := wf_new w3 z4 (by decide)
  have hW2 : wf (gX (gX E1 3 a3 6 0) 4 a4 9 7) (gUr (gUr (gZr (gZr M1 3) 4) 3 0 4) 1 2 3) := wf_put (wf_put w4 (by rw [gX_so (by decide), gX_sr]; decide) (by rw [gX_sr]; decide)) (by rw [s12]; decide) (by rw [gX_so (by decide), gX_sr]; decide)
  have hr22 : ∀ c k, (gUr (gUr (gZr (gZr M1 3) 4) 3 0 4) 1 2 3).2 c k = if c = 1 ∧ k = 2 then 3 else if c = 3 ∧ k = 0 then 4 else if c = 1 ∧ k = 0 then 2 else 0 := fun c k => by
    show (if c = 1 ∧ k = 2 then 3 else if c = 3 ∧ k = 0 then 4 else (gZr (gZr M1 3) 4).2 c k) = _
    rw [gZ2 w3 z4, gZ2 hW z3, hr2]
  have hs2 : ∀ c, gSh (gX (gX E1 3 a3 6 0) 4 a4 9 7) c = if c = 4 then 9 else if c = 3 then 6 else if c = 2 then 10 else gSh E c := fun c => by
    show (if c = 4 then 9 else if c = 3 then 6 else gSh E1 c) = _
    rw [hs]
  have hl2 : ∀ c, gLn (gX (gX E1 3 a3 6 0) 4 a4 9 7) c = if c = 4 then 7 else if c = 3 then 0 else if c = 2 then 200 else gLn E c := fun c => by
    show (if c = 4 then 7 else if c = 3 then 0 else gLn E1 c) = _
    rw [hl]
  have hle2 : gLe E (gX (gX E1 3 a3 6 0) 4 a4 9 7) := (hle.tr (fun c q => by rw [on1 c q, s1]; decide) (gLe.new z3)).tr (fun c q => by rw [on1 c q, gX_so (by decide), s1]; decide) (gLe.new z4)
  revert s12 hW2 hZ2 hr22 hs2 hl2 hle2
  generalize gX (gX E1 3 a3 6 0) 4 a4 9 7 = E2
  generalize gUr (gUr (gZr (gZr M1 3) 4) 3 0 4) 1 2 3 = M2
  intro s12 hZ2 hW2 hr22 hs2 hl2 hle2
  have o2 : ∀ c, 5 ≤ c → gSh E2 c = 0 := fun c q => by rw [hs2, if_neg (by omega), if_neg (by omega), if_neg (by omega)]; exact hc c (by omega)
  -- the books
  refine st_book (pc := 24) 20 ⟨rfl, rfl⟩ ⟨Nat.le_of_ble_eq_true rfl, Nat.le_of_ble_eq_true rfl⟩ (by decide) s12 (fun c q1 q2 => o2 c (by omega)) hW2 hZ2 (hle2.1 1 (by rw [h1]; decide)) dX6_init_24 dX6_init_25 dX6_init_28 dX6_init_29 (fun E3 u3 ad3 s13 sb3 le3 hs3 hl3 hZ3 hr3 hW3 => ?_)
  refine uX6_23 (pc := 32) (a := 1) (x := 20) rfl s13 (by decide) dX6_init_32 ?_
  have hr3' : ∀ c k, (gUr u3 1 3 20).2 c k = if c = 1 ∧ k = 3 then 20 else u3.2 c k := fun c k => rfl
  have hW3' : wf E3 (gUr u3 1 3 20) := wf_put hW3 (by rw [s13]; decide) (by rw [sb3]; decide)
  have hZ3' : ∀ c k, (gUr u3 1 3 20).1 c k = 0 := hZ3
  have o3 : ∀ c, 5 ≤ c → ¬ (20 ≤ c ∧ c < 37) → gSh E3 c = 0 := fun c q1 q2 => by rw [hs3, if_neg (by omega), if_neg (by omega), if_neg (by omega), if_neg (by omega), if_neg (by omega)]; exact o2 c q1
  refine st_book (pc := 35) 40 ⟨rfl, rfl⟩ ⟨Nat.le_of_ble_eq_true rfl, Nat.le_of_ble_eq_true rfl⟩ (by decide) s13 (fun c q1 q2 => o3 c (by omega) (by omega)) hW3' hZ3' ad3 dX6_init_35 dX6_init_36 dX6_init_39 dX6_init_40 (fun E4 u4 ad4 s14 sb4 le4 hs4 hl4 hZ4 hr4 hW4 => ?_)
  refine uX6_27 (pc := 43) (a := 1) (x := 40) rfl s14 (by decide) dX6_init_43 ?_
  have hr4' : ∀ c k, (gUr u4 1 4 40).2 c k = if c = 1 ∧ k = 4 then 40 else u4.2 c k := fun c k => rfl
  have hW4' : wf E4 (gUr u4 1 4 40) := wf_put hW4 (by rw [s14]; decide) (by rw [sb4]; decide)
  have hZ4' : ∀ c k, (gUr u4 1 4 40).1 c k = 0 := hZ4
  have o4 : ∀ c, 5 ≤ c → ¬ (20 ≤ c ∧ c < 37) → ¬ (40 ≤ c ∧ c < 57) → gSh E4 c = 0 := fun c q1 q2 q3 => by rw [hs4, if_neg (by omega), if_neg (by omega), if_neg (by omega), if_neg (by omega), if_neg (by omega)]; exact o3 c q1 q2
  revert hr4' hW4' hZ4'
  generalize gUr u4 1 4 40 = M4
  intro hr4' hW4' hZ4'
  -- the history
  refine g_aload_n (pc := 46) 0 rfl rfl dX6_init_46 ?_
  have z5 : gSh E4 5 = 0 := o4 5 (by omega) (by omega) (by omega)
  refine g_new (pc := 47) 5 3 tyX2 rfl (by decide) wsX2 tyX2_ok wN62 wI2 iX2_init.1.1 (by decide) z5 (wf_ne hW4' z5 (by decide)) ⟨Nat.le_of_ble_eq_true rfl, Nat.le_of_ble_eq_true rfl⟩ dX6_init_47 (fun a5 => ?_)
  refine g_dup (pc := 50) rfl dX6_init_50 ?_
  have hk2 := kX2_init l (gX E4 5 a5 3 0) (gZr M4 5) gX_sr (by rw [gX_so (by decide)]; exact o4 6 (by omega) (by omega) (by omega)) (fun c q1 q2 => by rw [gX_so (by omega)]; exact o4 c (by omega) (by omega) (by omega)) (wf_new hW4' z5 (by decide)) (gZ1 hZ4')
  rw [gX_ar] at hk2
  refine g_callI (pc := 51) (mc := mX2_init) (As := []) (rest := [.ref a5, .ref (gAd E 1)]) lX6_32 iX2_init rfl rfl hk2 ⟨Nat.le_of_ble_eq_true rfl, Nat.le_of_ble_eq_true rfl⟩ rfl rfl (Nat.le_of_ble_eq_true rfl) ⟨Nat.le_of_ble_eq_true rfl, Nat.le_of_ble_eq_true rfl⟩ dX6_init_51 (fun E5 u5 hq _ _ _ => ?_)
  obtain ⟨q1, q2, q3, q4, q5, q6⟩ := hq
  have ad5 : gAd E5 5 = a5 := by rw [q1.1 5 (by rw [gX_sr]; decide), gX_ar]
  have ad51 : gAd E5 1 = gAd E 1 := by rw [q1.1 1 (by rw [gX_so (by decide), s14]; decide), gX_ao (by decide), ad4]
  have s15 : gSh E5 1 = 7 := by rw [q2, if_neg (by decide), if_neg (by decide), gX_so (by decide)]; exact s14
  have s55 : gSh E5 5 = 3 := by rw [q2, if_neg (by decide), if_neg (by decide), gX_sr]
  refine g_st (pc := 54) (st' := [.ref (gAd E5 5), .ref (gAd E5 1)]) (by rw [ad5, ad51]) ?_
  refine uX6_33 (pc := 54) (a := 1) (x := 5) rfl rfl s15 (by decide) dX6_init_54 ?_
  have hW5 : wf E5 (gUr u5 1 6 5) := wf_put q6 (by rw [s15]; decide) (by rw [s55]; decide)
  refine g_lv (lv' := [(0, .ref (gAd E5 1))]) (by rw [ad51]) ?_
  have hs5 : ∀ c, gSh E5 c = if c = 6 then 13 else if 10 ≤ c ∧ c < 16 then 2 else if c = 5 then 3 else gSh E4 c := fun c => by rw [q2]; rfl
  have hl5 : ∀ c, gLn E5 c = if c = 6 then 6 else if 10 ≤ c ∧ c < 16 then 0 else if c = 5 then 0 else gLn E4 c := fun c => by rw [q3]; rfl
  have hr5 : ∀ c k, (gUr u5 1 6 5).2 c k = if c = 1 ∧ k = 6 then 5 else if c = 6 ∧ k < 6 then 10 + k else if c = 5 ∧ k = 0 then 6 else M4.2 c k := fun c k => by
    show (if c = 1 ∧ k = 6 then 5 else u5.2 c k) = _
    rw [q5, gZ2 hW4' z5]
  have hle4 : gLe E E4 := (hle2.tr (fun c q => by rw [on1 c q, s12]; decide) le3).tr (fun c q => by rw [on1 c q, s13]; decide) le4
  have hle5 : gLe E E5 := (hle4.tr (fun c q => by rw [on1 c q, s14]; decide) (gLe.new z5)).tr (fun c q => by rw [on1 c q, gX_so (by decide), s14]; decide) q1
  refine kX6_tail l E E5 (gUr u5 1 6 5) (qX6 E) ?_ hW5 q4 hle5.2.1 hle5.2.2.1 hle5.2.2.2 (fun w k1 k2 k3 k4 k5 k6 k7 => ⟨hle5, fun c q => ?_, k1, k2, k3, k4, k5, k6, k7⟩)
  · exact st_cS s15 s55 hs5 hl5 hr5 hs4 hl4 hr4' hr4 hs3 hl3 hr3' hr3 hs2 hl2 hr22
  · rw [hs5, if_neg (by omega), if_neg (by omega), if_neg (by omega)]; exact o4 c (by omega) (by omega) (by omega)
