/-! ShowRights' constructor: the text that it begins with -/
def mTx (M : gMem) (i : Nat) : gMem := (fun c k => if c = 2 ∧ k < i then tB k else if c = 1 ∧ k = 1 then i else M.1 c k, M.2)
theorem mTx_0 {M : gMem} (h : M.1 1 1 = 0) : mTx M 0 = M := by
  refine Prod.ext ?_ rfl
  funext c k
  show (if c = 2 ∧ k < 0 then tB k else if c = 1 ∧ k = 1 then 0 else M.1 c k) = M.1 c k
  rw [if_neg (by omega)]
  by_cases e : c = 1 ∧ k = 1
  · rw [if_pos e, e.1, e.2, h]
  · rw [if_neg e]
theorem mTx_1 {M : gMem} {i : Nat} : gU (gU (mTx M i) 2 i (tB i)) 1 1 (i + 1) = mTx M (i + 1) := by
  refine Prod.ext ?_ rfl
  funext c k
  show (if c = 1 ∧ k = 1 then i + 1 else if c = 2 ∧ k = i then tB i else if c = 2 ∧ k < i then tB k else if c = 1 ∧ k = 1 then i else M.1 c k) = (if c = 2 ∧ k < i + 1 then tB k else if c = 1 ∧ k = 1 then i + 1 else M.1 c k)
  by_cases e1 : c = 1 ∧ k = 1
  · rw [if_pos e1, if_neg (by omega), if_pos e1]
  · rw [if_neg e1, if_neg e1, if_neg e1]
    by_cases e2 : c = 2 ∧ k = i
    · rw [if_pos e2, if_pos (by omega), e2.2]
    · rw [if_neg e2]
      by_cases e3 : c = 2 ∧ k < i
      · rw [if_pos e3, if_pos (by omega)]
      · rw [if_neg e3, if_neg (by omega)]
theorem wf_2 {E : gEnv} {M u : gMem} (h : wf E M) (e : u.2 = M.2) : wf E u := by unfold wf at h ⊢; rw [e]; exact h
theorem tx_d : (rMt tB 131 201 0 (fun _ => 0) s00).1 = none ∧ aE (rMt tB 131 201 0 (fun _ => 0) s00).2 (sA 6 2) := by unfold aE; decide +kernel
theorem aE_t {a b c : aB} (h : aE a b) (h' : aE b c) : aE a c := by
  obtain ⟨h1, h2, h3, h4, h5⟩ := h
  obtain ⟨g1, g2, g3, g4, g5⟩ := h'
  exact ⟨h1.trans g1, fun i hi w hw => (h2 i hi w hw).trans (g2 i (by omega) w hw), h3.trans g3, fun i hi w hw => (h4 i hi w hw).trans (g4 i (by omega) w hw), h5.trans g5⟩
theorem tx_read {t nf : Nat → Nat} (ht : ∀ p, p < 131 → t p = tB p) : (rP t 131 131 0 0 nf s00).1 = none ∧ aE (rP t 131 131 0 0 nf s00).2 (sA 6 2) := by
  obtain ⟨h1, h2⟩ := read_same (L := 131) (t := t) (u := tB) (by decide) ht nf (fun _ => 0)
  exact ⟨h1.trans tx_d.1, aE_t h2 tx_d.2⟩
set_option maxHeartbeats 2000000 in
theorem kX6_tail (l : Launch) (E0 E : gEnv) (M : gMem) (Q : gEnv → gMem → Prop) (hS : cS E M 20 40) (hw : wf E M) (hz : ∀ c k, M.1 c k = 0) (hb : gBs E = gBs E0) (hd : gD E = gD E0) (hcc : gC E = gC E0)
    (hq : ∀ w, cS E w 40 20 → wf E w → (∃ s, bRep w 40 s ∧ aOk s ∧ aE s (sA 6 2)) → w.1 1 1 = 0 → w.1 1 5 = 0 → w.1 5 1 = 0 → (∀ i, w.1 4 i < 100) → Q E w) : gG l (gVx 6 45 458 E0 Q) mX6_init E (45, 458) M 57 [(0, .ref (gAd E 1))] [] := by
  refine g_iconst (pc := 57) (nI 0) (by decide) dX6_init_57 ?_
  refine g_istore_n (pc := 58) rfl [(0, .ref (gAd E 1)), (1, .int (nI 0))] dX6_init_58 (by decide) rfl rfl ?_
  refine g_mm (pc := 59) (M' := mTx M 0) (mTx_0 (hz 1 1)).symm ?_
  have lp : ∀ i, i ≤ 131 → gG l (gVx 6 45 458 E0 Q) mX6_init E (45, 458) (mTx M i) 59 [(0, .ref (gAd E 1)), (1, .int (nI i))] [] := by
    refine gloop (fun i hi ih => ?_)
    refine g_iload_n (pc := 59) 1 rfl rfl dX6_init_59 ?_
    refine g_ldcT (pc := 60) rfl dX6_init_60 ?_
    refine g_callT (pc := 62) (mc := mJ0_length_8abf5) (rest := [.int (nI i)]) lX6_39 iJ0_length_8abf5 (kJ0_length l E (mTx M i)) ⟨Nat.le_of_ble_eq_true rfl, Nat.le_of_ble_eq_true rfl⟩ rfl rfl rfl (Nat.le_of_ble_eq_true rfl) ⟨Nat.le_of_ble_eq_true rfl, Nat.le_of_ble_eq_true rfl⟩ dX6_init_62 (g_rI ?_)
    refine g_icmpN_ge (pc := 65) 100 dX6_init_65 (by decide) (by omega) (by omega) (fun h65 => ?_) (fun h65 => ?_)
    · have e131 : i = 131 := by omega
      subst e131
      have t11 : (mTx M 131).1 1 1 = 131 := rfl
      have t2 : ∀ p, p < 131 → (mTx M 131).1 2 p = tB p := fun p hp => if_pos ⟨rfl, hp⟩
      have t4 : ∀ i, (mTx M 131).1 4 i = 0 := fun i => hz 4 i
      have hS1 : cS E (mTx M 131) 20 40 := hS
      have hrd := tx_read (t := (mTx M 131).1 2) (nf := (mTx M 131).1 4) t2
      refine g_aload_n (pc := 100) 0 rfl rfl dX6_init_100 ?_
      refine g_callV (pc := 101) (mc := mX6_layText) (rest := []) lX6_53 iX6_layText (kX6_layText_ok l E (mTx M 131) 20 40 hS1 (by rw [t11]; decide) (fun p hp => by rw [t11] at hp; rw [t2 p hp]; exact (tB_ch p hp).2.1) (fun i => by rw [t4]; decide) (by rw [t11]; exact hrd.1) (by rw [t11, hrd.2.1]; decide)) ⟨Nat.le_of_ble_eq_true rfl, Nat.le_of_ble_eq_true rfl⟩ hS.s1 (by decide) (by decide) rfl rfl rfl rfl (Nat.le_of_ble_eq_true rfl) ⟨Nat.le_of_ble_eq_true rfl, Nat.le_of_ble_eq_true rfl⟩ dX6_init_101 (fun v u q => ?_)
      rw [t11] at q
      obtain ⟨rfl, u0, hf, h4, hbr, hok, hu⟩ := q
      refine g_pop (pc := 104) rfl dX6_init_104 ?_
      refine g_aload_n (pc := 105) 0 rfl rfl dX6_init_105 ?_
      refine g_iconst (pc := 106) (nI 0) (by decide) dX6_init_106 ?_
      refine uX6_49 (pc := 107) (a := 1) rfl hS.s1 dX6_init_107 ?_
      have hu2 : u0.2 = M.2 := hf.2
      have w2 : ∀ a k, (gU u 1 1 0).2 a k = if a = 1 ∧ k = 4 then 20 else if a = 1 ∧ k = 3 then 40 else M.2 a k := fun a k => by
        rw [hu]
        simp only [gU, gUr]
        rw [hu2]
      have w1 : ∀ a k, ¬ (a = 1 ∧ k = 1) → ¬ (a = 1 ∧ k = 5) → ¬ (a = 5 ∧ k = 1) → (gU u 1 1 0).1 a k = u0.1 a k := fun a k q1 q2 q3 => by
        rw [hu]
        simp only [gU, gUr]
        rw [if_neg q1, if_neg q3, if_neg q2]
      have w15 : (gU u 1 1 0).1 1 5 = 0 := by rw [hu]; simp [gU, gUr]
      have w51 : (gU u 1 1 0).1 5 1 = 0 := by rw [hu]; simp [gU, gUr]
      have wo : ∀ a k, a ≠ 1 → (gU u 1 1 0).2 a k = M.2 a k := fun a k ha => by rw [w2, if_neg (fun z => ha z.1), if_neg (fun z => ha z.1)]
      have hwf : wf E (gU u 1 1 0) := by
        refine wf_2 (M := gUr (gUr u0 1 3 40) 1 4 20) ?_ (by rw [hu]; rfl)
        exact wf_put (wf_put (wf_2 hw hu2) (by rw [hS.s1]; decide) (by rw [hS.D.1.1]; decide)) (by rw [hS.s1]; decide) (by rw [hS.B.1.1]; decide)
      refine g_vretX (pc := 110) rfl dX6_init_110 (hq _ ?_ hwf ⟨_, ?_, hok, hrd.2⟩ rfl w15 w51 (fun i => by rw [w1 4 i (by omega) (by omega) (by omega)]; exact h4 i)) hb hd hcc
      · obtain ⟨c1, ⟨r1, r2, r3, r4, r5, r6, r7⟩, c3, c4, c5, c6, c7⟩ := hS
        refine ⟨c1, ⟨by rw [w2]; simpa using r1, by rw [w2]; simpa using r2, by rw [w2]; simpa using r3, by rw [wo _ _ (by omega)]; exact r4, by rw [wo _ _ (by omega)]; exact r5, by rw [w2]; simp, by rw [w2]; simp⟩, cBr_of c4 (fun a k ha => wo a k (by omega)), cBr_of c3 (fun a k ha => wo a k (by omega)), by omega, fun c hc => ?_, fun c d hc hd h => ?_⟩
        · rw [wo _ _ (by omega)]; exact c6 c hc
        · rw [wo _ _ (by omega), wo _ _ (by omega)] at h; exact c7 c d hc hd h
      · obtain ⟨h1, h2, h3, h5, h6, h7, h8⟩ := hbr
        have hs1 := hok.1
        have hs2 := hok.2.1
        exact ⟨by rw [w1 _ _ (by omega) (by omega) (by omega)]; exact h1, by rw [w1 _ _ (by omega) (by omega) (by omega)]; exact h2, by rw [w1 _ _ (by omega) (by omega) (by omega)]; exact h3, by rw [w1 _ _ (by omega) (by omega) (by omega)]; exact h5, fun i w hi hw => by rw [w1 _ _ (by omega) (by omega) (by omega)]; exact h6 i w hi hw, fun i hi => by rw [w1 _ _ (by omega) (by omega) (by omega)]; exact h7 i hi, fun i w hi hw => by rw [w1 _ _ (by omega) (by omega) (by omega)]; exact h8 i w hi hw⟩
    · have hi6 : i < 131 := by omega
      refine g_iload_n (pc := 68) 1 rfl rfl dX6_init_68 ?_
      refine g_sipush (pc := 69) (nI 200) (by decide) dX6_init_69 ?_
      refine g_icmpN_ge (pc := 72) 100 dX6_init_72 (by decide) (by omega) (by omega) (fun h72 => absurd h72 (by omega)) (fun h72 => ?_)
      refine g_aload_n (pc := 75) 0 rfl rfl dX6_init_75 ?_
      refine fX6_9 (pc := 76) (a := 1) 2 rfl hS.s1 hS.rt (by decide) dX6_init_76 ?_
      refine g_iload_n (pc := 79) 1 rfl rfl dX6_init_79 ?_
      refine g_ldcT (pc := 80) rfl dX6_init_80 ?_
      refine g_iload_n (pc := 82) 1 rfl rfl dX6_init_82 ?_
      refine g_callT (pc := 83) (mc := mJ0_charAt_5068e) (rest := [.int (nI i), .ref (gAd E 2)]) lX6_45 iJ0_charAt_5068e (kJ0_charAt l E (mTx M i) i hi6) ⟨Nat.le_of_ble_eq_true rfl, Nat.le_of_ble_eq_true rfl⟩ rfl rfl rfl (Nat.le_of_ble_eq_true rfl) ⟨Nat.le_of_ble_eq_true rfl, Nat.le_of_ble_eq_true rfl⟩ dX6_init_83 (g_rI ?_)
      refine g_castore (pc := 86) (a := 2) hS.s2 (by rw [hS.l2]; omega) (by rw [hS.l2]; decide) (Nat.lt_of_le_of_lt (tB_ch i hi6).2.1 (by decide)) dX6_init_86 ?_
      refine g_aload_n (pc := 87) 0 rfl rfl dX6_init_87 ?_
      refine g_iload_n (pc := 88) 1 rfl rfl dX6_init_88 ?_
      refine g_iconst (pc := 89) (nI 1) (by decide) dX6_init_89 ?_
      refine g_iaddN (pc := 90) dX6_init_90 ?_
      refine uX6_49 (pc := 91) (a := 1) rfl hS.s1 dX6_init_91 ?_
      refine g_iincN (pc := 94) 1 1 [(0, .ref (gAd E 1)), (1, .int (nI (i + 1)))] rfl dX6_init_94 (by decide) rfl rfl ?_
      refine g_goto (pc := 97) 59 dX6_init_97 (by decide) ?_
      refine g_mm (pc := 59) mTx_1 ?_
      exact ih hi6
  exact lp 0 (by decide)
