def qItem (r : Option aB) (b : Nat) (v : Option Value) (u : gMem) : Prop := match r with
  | none => v = some (.int (gb false))
  | some s => v = some (.int (gb true)) ∧ bRep u b s
theorem qI_n {r : Option aB} {b : Nat} {u : gMem} (h : r = none) : qItem r b (some (.int (gb false))) u := by rw [h]; rfl
theorem qI_s {r : Option aB} {b : Nat} {u : gMem} {s : aB} (h : r = some s) (hb : bRep u b s) : qItem r b (some (.int (gb true))) u := by rw [h]; exact ⟨rfl, hb⟩
theorem bRep_t {u : gMem} {b f t : Nat} {s : aB} (h : bRep u b s) : bRep (gU (gU u b 4 f) b 5 t) b (s.1, s.2.1, f, t) := by
  obtain ⟨h1, h2, h3, h4, h5, h6, h7⟩ := h
  refine ⟨?_, ?_, ?_, ?_, fun i w hi hw => ?_, fun i hi => ?_, fun i w hi hw => ?_⟩
  · simp [gU]; exact h1
  · simp [gU]; exact h2
  · simp [gU]
  · simp [gU]
  · rw [gU_o (by omega), gU_o (by omega)]; exact h5 i w hi hw
  · rw [gU_o (by omega), gU_o (by omega)]; exact h6 i hi
  · rw [gU_o (by omega), gU_o (by omega)]; exact h7 i w hi hw
theorem fRd_U {M u : gMem} {b a k x : Nat} (h : fRd M u b) (h1 : b ≤ a) (h2 : a < b + 17) : fRd M (gU u a k x) b := ⟨fun c j h4 hc => by rw [gU_o (by omega)]; exact h.1 c j h4 hc, h.2⟩
theorem fRd_ao {M u : gMem} {b : Nat} (h : fRd M u b) (hn : u.1 b 1 < 10) : fRd M (mAO u b) b := by
  unfold mAO
  exact fRd_U (fRd_U (fRd_U (fRd_U (fRd_U (fRd_U (fRd_U (fRd_U (fRd_U h (by omega) (by omega)) (by omega) (by omega)) (by omega) (by omega)) (by omega) (by omega)) (by omega) (by omega)) (by omega) (by omega)) (by omega) (by omega)) (by omega) (by omega)) (by omega) (by omega)
theorem fRd_ah {M u : gMem} {b x y z : Nat} (h : fRd M u b) (hn : u.1 b 3 < 4) : fRd M (mAH u b x y z) b := by
  unfold mAH
  exact fRd_U (fRd_U (fRd_U (fRd_U h (by omega) (by omega)) (by omega) (by omega)) (by omega) (by omega)) (by omega) (by omega)
theorem mAO_o {u : gMem} {b c j : Nat} (h : c ≠ b + 3 + u.1 b 1) (hb : c ≠ b) : (mAO u b).1 c j = u.1 c j := by
  simp only [mAO]
  rw [gU_o hb]
  repeat rw [gU_o h]
theorem bRep_o {u : gMem} {b : Nat} {s : aB} (h : bRep u b s) (hn : s.1.1 < 10) (hb : 4 < b) : bRep (mAO u b) b ((s.1.1 + 1, updR s.1.2 s.1.1 (u.1 4)), s.2) := by
  obtain ⟨h1, h2, h3, h4, h5, h6, h7⟩ := h
  have hbn : b ≠ b + 3 + u.1 b 1 := by omega
  have e : ∀ k, k ≠ 1 → (mAO u b).1 b k = u.1 b k := by
    intro k hk
    simp only [mAO]
    rw [gU_k hk]
    repeat rw [gU_o hbn]
  have en : ∀ w, w < 7 → (mAO u b).1 (b + 3 + u.1 b 1) w = u.1 4 w := by
    intro w hw
    have hbn2 : b + 3 + u.1 b 1 ≠ b := by omega
    simp only [mAO]
    rw [gU_o hbn2]
    simp only [gU]
    rcases (show w = 0 ∨ w = 1 ∨ w = 2 ∨ w = 3 ∨ w = 4 ∨ w = 5 ∨ w = 6 by omega) with rfl | rfl | rfl | rfl | rfl | rfl | rfl <;> simp
  refine ⟨?_, ?_, ?_, ?_, fun i w hi hw => ?_, fun i hi => ?_, fun i w hi hw => ?_⟩
  · show (mAO u b).1 b 1 = s.1.1 + 1
    simp only [mAO]; rw [gU_s, h1]
  · rw [e 3 (by decide)]; exact h2
  · rw [e 4 (by decide)]; exact h3
  · rw [e 5 (by decide)]; exact h4
  · have hi : i < s.1.1 + 1 := hi
    show (mAO u b).1 (b + 3 + i) w = updR s.1.2 s.1.1 (u.1 4) i w
    by_cases hin : i = s.1.1
    · subst hin
      have q := en w hw
      rw [h1] at q
      rw [q]; simp [updR]
    · rw [mAO_o (by omega) (by omega), h5 i w (by omega) hw]; simp [updR, hin]
  · have hi : i < s.1.1 + 1 := hi
    by_cases hin : i = s.1.1
    · subst hin
      rw [← h1]
      have hbn2 : b + 3 + u.1 b 1 ≠ b := by omega
      simp only [mAO]
      rw [gU_o hbn2, gU_s]
    · rw [mAO_o (by omega) (by omega)]; exact h6 i (by omega)
  · rw [mAO_o (by omega) (by omega)]; exact h7 i w hi hw
theorem mAH_o {u : gMem} {b c j x y z : Nat} (h : c ≠ b + 13 + u.1 b 3) (hb : c ≠ b) : (mAH u b x y z).1 c j = u.1 c j := by
  simp only [mAH]
  rw [gU_o hb, gU_o h, gU_o h, gU_o h]
theorem bRep_h {u : gMem} {b : Nat} {s : aB} {f : Nat → Nat} (h : bRep u b s) (hn : s.2.1.1 < 4) (h10 : s.1.1 ≤ 10) : bRep (mAH u b (f 0) (f 1) (f 2)) b (s.1, (s.2.1.1 + 1, updR s.2.1.2 s.2.1.1 f), s.2.2) := by
  obtain ⟨h1, h2, h3, h4, h5, h6, h7⟩ := h
  have hbn : b ≠ b + 13 + u.1 b 3 := by omega
  have e : ∀ k, k ≠ 3 → (mAH u b (f 0) (f 1) (f 2)).1 b k = u.1 b k := by
    intro k hk
    simp only [mAH]
    rw [gU_k hk, gU_o hbn, gU_o hbn, gU_o hbn]
  refine ⟨?_, ?_, ?_, ?_, fun i w hi hw => ?_, fun i hi => ?_, fun i w hi hw => ?_⟩
  · rw [e 1 (by decide)]; exact h1
  · show (mAH u b (f 0) (f 1) (f 2)).1 b 3 = s.2.1.1 + 1
    simp only [mAH]; rw [gU_s, h2]
  · rw [e 4 (by decide)]; exact h3
  · rw [e 5 (by decide)]; exact h4
  · rw [mAH_o (by have : i < s.1.1 := hi; omega) (by omega)]; exact h5 i w hi hw
  · rw [mAH_o (by have : i < s.1.1 := hi; omega) (by omega)]; exact h6 i hi
  · have hi : i < s.2.1.1 + 1 := hi
    show (mAH u b (f 0) (f 1) (f 2)).1 (b + 13 + i) w = updR s.2.1.2 s.2.1.1 f i w
    by_cases hin : i = s.2.1.1
    · subst hin
      rw [← h2]
      have hbn2 : b + 13 + u.1 b 3 ≠ b := by omega
      simp only [mAH]
      rw [gU_o hbn2]
      simp only [gU, updR]
      rcases (show w = 0 ∨ w = 1 ∨ w = 2 by omega) with rfl | rfl | rfl <;> simp
    · rw [mAH_o (by omega) (by omega), h7 i w (by omega) hw]; simp [updR, hin]
set_option maxRecDepth 100000 in
set_option maxHeartbeats 4000000 in
theorem kX5_readItem (l : Launch) (E : gEnv) (M : gMem) (b b' : Nat) (hS : cS E M b b') (s e : Nat) (st : aB) (hse : s ≤ e) (hee : e < 200) (hT : ∀ p, p < e + 1 → M.1 2 p ≤ 126) (hN : ∀ i, M.1 4 i < 100) (hst : aOk st) (hRp : bRep M b' st) : gMet l E mX5_readItem 3 [.ref (gAd E 3), .ref (gAd E b'), .ref (gAd E 2), .int (nI s), .int (nI e)] M (fun v u => fRd M u b' ∧ u.1 4 = (aN (M.1 2) (e - (s + 1)) (s + 1) 0 (M.1 4) 0 0).2 ∧ qItem (rI (M.1 2 s) (aN (M.1 2) (e - (s + 1)) (s + 1) 0 (M.1 4) 0 0).1 (aN (M.1 2) (e - (s + 1)) (s + 1) 0 (M.1 4) 0 0).2 st) b' v u) := by
  have hbb := hS.2.2.2.2.1
  refine gMet_of (mm := mX5_readItem) (h := 3) (M := M) [(0, .ref (gAd E 3)), (1, .ref (gAd E b')), (2, .ref (gAd E 2)), (3, .int (nI s)), (4, .int (nI e))] (by decide) (Nat.le_of_ble_eq_true rfl) rfl ?_
  refine g_aload_n (pc := 0) 2 rfl rfl dX5_readItem_0 ?_
  refine g_iload_n (pc := 1) 3 rfl rfl dX5_readItem_1 ?_
  refine g_caload (pc := 2) hS.s2 (by rw [hS.l2]; omega) (by rw [hS.l2]; omega) dX5_readItem_2 ?_
  refine g_istore (pc := 3) [(0, .ref (gAd E 3)), (1, .ref (gAd E b')), (2, .ref (gAd E 2)), (3, .int (nI s)), (4, .int (nI e)), (5, .int (nI (M.1 2 s)))] dX5_readItem_3 (by decide) rfl rfl ?_
  refine g_aload_n (pc := 5) 0 rfl rfl dX5_readItem_5 ?_
  refine g_aload_n (pc := 6) 2 rfl rfl dX5_readItem_6 ?_
  refine g_iload_n (pc := 7) 3 rfl rfl dX5_readItem_7 ?_
  refine g_iconst (pc := 8) (nI 1) (by decide) dX5_readItem_8 ?_
  refine g_iaddN (pc := 9) dX5_readItem_9 ?_
  refine g_iload (pc := 10) 4 rfl dX5_readItem_10 ?_
  refine g_callV (pc := 12) (mc := mX5_readNumbers) (rest := []) lX5_24 iX5_readNumbers (kX5_readNumbers l E M b b' hS (s + 1) e (by omega) (by omega) (fun p hp => hT p (by omega))) ⟨Nat.le_of_ble_eq_true rfl, Nat.le_of_ble_eq_true rfl⟩ hS.s3 (by decide) (by decide) rfl rfl rfl rfl (Nat.le_of_ble_eq_true rfl) ⟨Nat.zero_le _, Nat.zero_le _⟩ dX5_readItem_12 ?_
  intro v u hq
  obtain ⟨rfl, rfl⟩ := hq
  have hle := aN_le (t := M.1 2) (e - (s + 1)) (s + 1) 0 (M.1 4) 0 0 (by omega) (fun _ => rfl) (fun _ => by omega) ⟨by omega, by omega⟩ hN
  obtain ⟨cn, nf, hA⟩ : ∃ cn nf, aN (M.1 2) (e - (s + 1)) (s + 1) 0 (M.1 4) 0 0 = (cn, nf) := ⟨_, _, rfl⟩
  rw [hA] at hle ⊢
  show gG l (gV0 3 E _) mX5_readItem E (0, 0) (gRow M 4 nf) 15 [(0, .ref (gAd E 3)), (1, .ref (gAd E b')), (2, .ref (gAd E 2)), (3, .int (nI s)), (4, .int (nI e)), (5, .int (nI (M.1 2 s)))] [.int (nI cn)]
  obtain ⟨hle1, hle2⟩ := hle
  have hle1 : cn ≤ 7 := hle1
  have hle2 : ∀ i, nf i < 100 := hle2
  have hR := bRep_row (f := nf) (show 4 < b' by omega) hRp
  have hF := fRd_row M b' nf
  have hc := hT s (by omega)
  refine g_istore (pc := 15) [(0, .ref (gAd E 3)), (1, .ref (gAd E b')), (2, .ref (gAd E 2)), (3, .int (nI s)), (4, .int (nI e)), (5, .int (nI (M.1 2 s))), (6, .int (nI cn))] dX5_readItem_15 (by decide) rfl rfl ?_
  refine g_iload (pc := 17) 5 rfl dX5_readItem_17 ?_
  refine g_bipush (pc := 19) (nI 116) (by decide) dX5_readItem_19 ?_
  refine g_icmpN_ne (pc := 21) 55 dX5_readItem_21 (by decide) (by omega) (by omega) (fun h21 => ?_) (fun h21 => ?_)
  · refine g_iload (pc := 55) 5 rfl dX5_readItem_55 ?_
    refine g_bipush (pc := 57) (nI 111) (by decide) dX5_readItem_57 ?_
    refine g_icmpN_ne (pc := 59) 86 dX5_readItem_59 (by decide) (by omega) (by omega) (fun h59 => ?_) (fun h59 => ?_)
    · refine g_iload (pc := 86) 5 rfl dX5_readItem_86 ?_
      refine g_bipush (pc := 88) (nI 104) (by decide) dX5_readItem_88 ?_
      refine g_icmpN_ne (pc := 90) 130 dX5_readItem_90 (by decide) (by omega) (by omega) (fun h90 => ?_) (fun h90 => ?_)
      · refine g_iconst (pc := 130) (nI 0) (by decide) dX5_readItem_130 ?_
        refine g_topi (pc := 131) (x' := gb false) (by decide) ?_
        exact g_zret (pc := 131) rfl dX5_readItem_131 ⟨hF, funext fun i => gRow_at, qI_n (by simp only [rI]; rw [if_neg h21, if_neg h59, if_neg h90])⟩
      · refine g_iload (pc := 93) 6 rfl dX5_readItem_93 ?_
        refine g_iconst (pc := 95) (nI 3) (by decide) dX5_readItem_95 ?_
        refine g_icmpN_ne (pc := 96) 128 dX5_readItem_96 (by decide) (by omega) (by omega) (fun h96 => ?_) (fun h96 => ?_)
        · refine g_iconst (pc := 128) (nI 0) (by decide) dX5_readItem_128 ?_
          refine g_topi (pc := 129) (x' := gb false) (by decide) ?_
          exact g_zret (pc := 129) rfl dX5_readItem_129 ⟨hF, funext fun i => gRow_at, qI_n (by simp only [rI]; rw [if_neg h21, if_neg h59, if_pos h90, if_neg (fun z => h96 z.1)])⟩
        · refine g_aload_n (pc := 99) 1 rfl rfl dX5_readItem_99 ?_
          refine g_aload_n (pc := 100) 0 rfl rfl dX5_readItem_100 ?_
          refine fX5_9 (pc := 101) 4 rfl hS.s3 hS.rn (by decide) dX5_readItem_101 ?_
          refine g_iconst (pc := 104) (nI 0) (by decide) dX5_readItem_104 ?_
          refine g_iaload (pc := 105) hS.s4 (by rw [hS.l4]; omega) (by rw [hS.l4]; omega) dX5_readItem_105 ?_
          refine g_topi (pc := 106) (x' := nI (nf 0)) (by simp [gRow]) ?_
          refine g_aload_n (pc := 106) 0 rfl rfl dX5_readItem_106 ?_
          refine fX5_9 (pc := 107) 4 rfl hS.s3 hS.rn (by decide) dX5_readItem_107 ?_
          refine g_iconst (pc := 110) (nI 1) (by decide) dX5_readItem_110 ?_
          refine g_iaload (pc := 111) hS.s4 (by rw [hS.l4]; omega) (by rw [hS.l4]; omega) dX5_readItem_111 ?_
          refine g_topi (pc := 112) (x' := nI (nf 1)) (by simp [gRow]) ?_
          refine g_aload_n (pc := 112) 0 rfl rfl dX5_readItem_112 ?_
          refine fX5_9 (pc := 113) 4 rfl hS.s3 hS.rn (by decide) dX5_readItem_113 ?_
          refine g_iconst (pc := 116) (nI 2) (by decide) dX5_readItem_116 ?_
          refine g_iaload (pc := 117) hS.s4 (by rw [hS.l4]; omega) (by rw [hS.l4]; omega) dX5_readItem_117 ?_
          refine g_topi (pc := 118) (x' := nI (nf 2)) (by simp [gRow]) ?_
          have hn3 : (gRow M 4 nf).1 b' 3 = st.2.1.1 := hR.2.1
          by_cases hq : st.2.1.1 < 4 ∧ hTold nf = true
          · refine g_callV (pc := 118) (mc := mX0_addHold) (rest := []) lX5_36 iX0_addHold (kX0_addHold_t l E (gRow M 4 nf) b' (nf 0) (nf 1) (nf 2) hS.D (by omega) (of_decide_eq_true hq.2).1 (of_decide_eq_true hq.2).2.1 (of_decide_eq_true hq.2).2.2.1 (of_decide_eq_true hq.2).2.2.2.1 (of_decide_eq_true hq.2).2.2.2.2) ⟨Nat.le_of_ble_eq_true rfl, Nat.le_of_ble_eq_true rfl⟩ hS.D.1.1 (by decide) (by decide) rfl rfl rfl rfl (Nat.le_of_ble_eq_true rfl) ⟨Nat.zero_le _, Nat.zero_le _⟩ dX5_readItem_118 (g_rI ?_)
            refine g_ifB_eq (pc := 121) 128 dX5_readItem_121 (by decide) (fun h121 => absurd h121 (by decide)) (fun h121 => ?_)
            refine g_iconst (pc := 124) (nI 1) (by decide) dX5_readItem_124 ?_
            refine g_goto (pc := 125) 129 dX5_readItem_125 (by decide) ?_
            refine g_topi (pc := 129) (x' := gb true) (by decide) ?_
            exact g_zret (pc := 129) rfl dX5_readItem_129 ⟨fRd_ah hF (by omega), funext fun i => by rw [mAH_o (by omega) (by omega), gRow_at], qI_s (by simp only [rI]; rw [if_neg h21, if_neg h59, if_pos h90, if_pos ⟨h96, hq⟩]) (bRep_h hR hq.1 hst.1)⟩
          · refine g_callV (pc := 118) (mc := mX0_addHold) (rest := []) lX5_36 iX0_addHold (kX0_addHold_f l E (gRow M 4 nf) b' (nf 0) (nf 1) (nf 2) hS.D (by have := hst.2.1; omega) (hle2 0) (hle2 1) (hle2 2) (fun z => hq ⟨by omega, decide_eq_true z.2⟩)) ⟨Nat.le_of_ble_eq_true rfl, Nat.le_of_ble_eq_true rfl⟩ hS.D.1.1 (by decide) (by decide) rfl rfl rfl rfl (Nat.le_of_ble_eq_true rfl) ⟨Nat.zero_le _, Nat.zero_le _⟩ dX5_readItem_118 (g_rI ?_)
            refine g_ifB_eq (pc := 121) 128 dX5_readItem_121 (by decide) (fun h121 => ?_) (fun h121 => absurd h121 (by decide))
            refine g_iconst (pc := 128) (nI 0) (by decide) dX5_readItem_128 ?_
            refine g_topi (pc := 129) (x' := gb false) (by decide) ?_
            exact g_zret (pc := 129) rfl dX5_readItem_129 ⟨hF, funext fun i => gRow_at, qI_n (by simp only [rI]; rw [if_neg h21, if_neg h59, if_pos h90, if_neg (fun z => hq z.2)])⟩
    · refine g_iload (pc := 62) 6 rfl dX5_readItem_62 ?_
      refine g_bipush (pc := 64) (nI 7) (by decide) dX5_readItem_64 ?_
      refine g_icmpN_ne (pc := 66) 84 dX5_readItem_66 (by decide) (by omega) (by omega) (fun h66 => ?_) (fun h66 => ?_)
      · refine g_iconst (pc := 84) (nI 0) (by decide) dX5_readItem_84 ?_
        refine g_topi (pc := 85) (x' := gb false) (by decide) ?_
        exact g_zret (pc := 85) rfl dX5_readItem_85 ⟨hF, funext fun i => gRow_at, qI_n (by simp only [rI]; rw [if_neg h21, if_pos h59, if_neg (fun z => h66 z.1)])⟩
      · refine g_aload_n (pc := 69) 1 rfl rfl dX5_readItem_69 ?_
        refine g_aload_n (pc := 70) 0 rfl rfl dX5_readItem_70 ?_
        refine fX5_9 (pc := 71) 4 rfl hS.s3 hS.rn (by decide) dX5_readItem_71 ?_
        have hn1 : (gRow M 4 nf).1 b' 1 = st.1.1 := hR.1
        have h4 : (gRow M 4 nf).1 4 = nf := funext fun i => gRow_at
        by_cases hq : st.1.1 < 10 ∧ oOk nf = true
        · refine g_callV (pc := 74) (mc := mX0_addOffer) (rest := []) lX5_32 iX0_addOffer (kX0_addOffer_t l E (gRow M 4 nf) b' hS.D (by omega) hS.s4 hS.l4 (by rw [h4]; exact hle2) (by omega) (by rw [h4]; exact hq.2)) ⟨Nat.le_of_ble_eq_true rfl, Nat.le_of_ble_eq_true rfl⟩ hS.D.1.1 (by decide) (by decide) rfl rfl rfl rfl (Nat.le_of_ble_eq_true rfl) ⟨Nat.zero_le _, Nat.zero_le _⟩ dX5_readItem_74 (g_rI ?_)
          refine g_ifB_eq (pc := 77) 84 dX5_readItem_77 (by decide) (fun h77 => absurd h77 (by decide)) (fun h77 => ?_)
          refine g_iconst (pc := 80) (nI 1) (by decide) dX5_readItem_80 ?_
          refine g_goto (pc := 81) 85 dX5_readItem_81 (by decide) ?_
          refine g_topi (pc := 85) (x' := gb true) (by decide) ?_
          exact g_zret (pc := 85) rfl dX5_readItem_85 ⟨fRd_ao hF (by omega), funext fun i => by rw [mAO_o (by omega) (by omega), gRow_at], qI_s (by simp only [rI]; rw [if_neg h21, if_pos h59, if_pos ⟨h66, hq⟩]) (h4 ▸ bRep_o hR hq.1 (by omega))⟩
        · refine g_callV (pc := 74) (mc := mX0_addOffer) (rest := []) lX5_32 iX0_addOffer (kX0_addOffer_f l E (gRow M 4 nf) b' hS.D hS.s4 hS.l4 (by rw [h4]; exact hle2) (by have := hst.1; omega) (by rw [h4, hn1]; by_cases z : 10 ≤ st.1.1; exact Or.inl z; exact Or.inr (Bool.eq_false_iff.mpr (fun y => hq ⟨by omega, y⟩)))) ⟨Nat.le_of_ble_eq_true rfl, Nat.le_of_ble_eq_true rfl⟩ hS.D.1.1 (by decide) (by decide) rfl rfl rfl rfl (Nat.le_of_ble_eq_true rfl) ⟨Nat.zero_le _, Nat.zero_le _⟩ dX5_readItem_74 (g_rI ?_)
          refine g_ifB_eq (pc := 77) 84 dX5_readItem_77 (by decide) (fun h77 => ?_) (fun h77 => absurd h77 (by decide))
          refine g_iconst (pc := 84) (nI 0) (by decide) dX5_readItem_84 ?_
          refine g_topi (pc := 85) (x' := gb false) (by decide) ?_
          exact g_zret (pc := 85) rfl dX5_readItem_85 ⟨hF, funext fun i => gRow_at, qI_n (by simp only [rI]; rw [if_neg h21, if_pos h59, if_neg (fun z => hq z.2)])⟩
  · refine g_iload (pc := 24) 6 rfl dX5_readItem_24 ?_
    refine g_iconst (pc := 26) (nI 2) (by decide) dX5_readItem_26 ?_
    refine g_icmpN_ne (pc := 27) 53 dX5_readItem_27 (by decide) (by omega) (by omega) (fun h27 => ?_) (fun h27 => ?_)
    · refine g_iconst (pc := 53) (nI 0) (by decide) dX5_readItem_53 ?_
      refine g_topi (pc := 54) (x' := gb false) (by decide) ?_
      exact g_zret (pc := 54) rfl dX5_readItem_54 ⟨hF, funext fun i => gRow_at, qI_n (by simp only [rI]; rw [if_pos h21, if_neg (fun z => h27 z.1)])⟩
    · refine g_aload_n (pc := 30) 1 rfl rfl dX5_readItem_30 ?_
      refine g_aload_n (pc := 31) 0 rfl rfl dX5_readItem_31 ?_
      refine fX5_9 (pc := 32) 4 rfl hS.s3 hS.rn (by decide) dX5_readItem_32 ?_
      refine g_iconst (pc := 35) (nI 0) (by decide) dX5_readItem_35 ?_
      refine g_iaload (pc := 36) hS.s4 (by rw [hS.l4]; omega) (by rw [hS.l4]; omega) dX5_readItem_36 ?_
      refine g_topi (pc := 37) (x' := nI (nf 0)) (by simp [gRow]) ?_
      refine g_aload_n (pc := 37) 0 rfl rfl dX5_readItem_37 ?_
      refine fX5_9 (pc := 38) 4 rfl hS.s3 hS.rn (by decide) dX5_readItem_38 ?_
      refine g_iconst (pc := 41) (nI 1) (by decide) dX5_readItem_41 ?_
      refine g_iaload (pc := 42) hS.s4 (by rw [hS.l4]; omega) (by rw [hS.l4]; omega) dX5_readItem_42 ?_
      refine g_topi (pc := 43) (x' := nI (nf 1)) (by simp [gRow]) ?_
      by_cases hq : nf 0 ≤ nf 1 ∧ nf 1 ≤ 51
      · refine g_callV (pc := 43) (mc := mX0_setTerm) (rest := []) lX5_28 iX0_setTerm (kX0_setTerm_t l E (gRow M 4 nf) b' (nf 0) (nf 1) hS.D (hle2 0) (hle2 1) hq) ⟨Nat.le_of_ble_eq_true rfl, Nat.le_of_ble_eq_true rfl⟩ hS.D.1.1 (by decide) (by decide) rfl rfl rfl rfl (Nat.le_of_ble_eq_true rfl) ⟨Nat.zero_le _, Nat.zero_le _⟩ dX5_readItem_43 (g_rI ?_)
        refine g_ifB_eq (pc := 46) 53 dX5_readItem_46 (by decide) (fun h46 => absurd h46 (by decide)) (fun h46 => ?_)
        refine g_iconst (pc := 49) (nI 1) (by decide) dX5_readItem_49 ?_
        refine g_goto (pc := 50) 54 dX5_readItem_50 (by decide) ?_
        refine g_topi (pc := 54) (x' := gb true) (by decide) ?_
        exact g_zret (pc := 54) rfl dX5_readItem_54 ⟨fRd_U (fRd_U hF (by omega) (by omega)) (by omega) (by omega), funext fun i => by rw [gU_o (by omega), gU_o (by omega), gRow_at], qI_s (by simp only [rI]; rw [if_pos h21, if_pos ⟨h27, hq⟩]) (bRep_t hR)⟩
      · refine g_callV (pc := 43) (mc := mX0_setTerm) (rest := []) lX5_28 iX0_setTerm (kX0_setTerm_f l E (gRow M 4 nf) b' (nf 0) (nf 1) hS.D (hle2 0) (hle2 1) hq) ⟨Nat.le_of_ble_eq_true rfl, Nat.le_of_ble_eq_true rfl⟩ hS.D.1.1 (by decide) (by decide) rfl rfl rfl rfl (Nat.le_of_ble_eq_true rfl) ⟨Nat.zero_le _, Nat.zero_le _⟩ dX5_readItem_43 (g_rI ?_)
        refine g_ifB_eq (pc := 46) 53 dX5_readItem_46 (by decide) (fun h46 => ?_) (fun h46 => absurd h46 (by decide))
        refine g_iconst (pc := 53) (nI 0) (by decide) dX5_readItem_53 ?_
        refine g_topi (pc := 54) (x' := gb false) (by decide) ?_
        exact g_zret (pc := 54) rfl dX5_readItem_54 ⟨hF, funext fun i => gRow_at, qI_n (by simp only [rI]; rw [if_pos h21, if_neg (fun z => hq z.2)])⟩
