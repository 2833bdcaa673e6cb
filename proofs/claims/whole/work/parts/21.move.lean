theorem g_aload_nN {l : Launch} {V : gVt} {mm : gY} {E : gEnv} {cs : Nat × Nat} {M : gMem} {pc : Nat} {lv : List (Nat × Value)} {st : List Value} {k0 : Fin 4} {i : Nat} (q : Nat) (hq : lv[q]? = some (i, .null)) (hi : (k0 : Nat) = i) (d : decode mm.2.1 pc = .ok (.aload_n k0, 1)) (k : gG l V mm E cs M (pc + 1) lv (.null :: st)) : gG l V mm E cs M pc lv st :=
  fun p e s m args below meth c H locs ls C hD hS hl => lv_aload_nN C.1 C.2.1 d hi (lv_at hl q hq) (k p e s m args below meth c H locs ls C hD hS hl)
theorem gU_o {M : gMem} {a k x a' j : Nat} (h : a' ≠ a) : (gU M a k x).1 a' j = M.1 a' j := by simp [gU, h]
theorem gU_k {M : gMem} {a k x j : Nat} (h : j ≠ k) : (gU M a k x).1 a j = M.1 a j := by simp [gU, h]
theorem gU_s {M : gMem} {a k x : Nat} : (gU M a k x).1 a k = x := by simp [gU]
theorem gU_gU {M : gMem} {a k x y : Nat} : gU (gU M a k x) a k y = gU M a k y := by
  refine Prod.ext (funext fun c => funext fun j => ?_) rfl
  simp only [gU]
  split <;> rfl
theorem gU_me {M : gMem} {a k : Nat} : gU M a k (M.1 a k) = M := by
  refine Prod.ext (funext fun c => funext fun j => ?_) rfl
  simp only [gU]
  split
  · rename_i h; rw [h.1, h.2]
  · rfl
theorem cO_mv {M : gMem} {b j d : Nat} (hO : cO M b) (hj : j < M.1 b 1) (hd : M.1 (b + 3 + j) 4 + d ≤ 51) : cO (gU M (b + 3 + j) 7 d) b := by
  obtain ⟨h1, h2, h3, h4, h5, h6⟩ := hO
  have e : ∀ w, (gU M (b + 3 + j) 7 d).1 b w = M.1 b w := fun w => gU_o (by omega)
  refine ⟨by rw [e]; exact h1, by rw [e]; exact h2, by rw [e, e]; exact h3, by rw [e]; exact h4, fun i hi => ?_, fun h hh => ?_⟩
  · rw [e] at hi
    by_cases hij : i = j
    · subst hij
      obtain ⟨u0, u1, u2, u3, u4, u5, u6, u7⟩ := h5 i hi
      simp only [cV, oV] at u0 u1 u2 u3 u4 u5 u6 u7
      refine ⟨?_, ?_, ?_, ?_, ?_, ?_, ?_, ?_⟩ <;> simp only [cV, oV, gU] <;> simp <;> omega
    · have e2 : cV (gU M (b + 3 + j) 7 d) b i = cV M b i := by
        funext w
        simp only [cV, oV]
        have q : ∀ z, (gU M (b + 3 + j) 7 d).1 (b + 3 + i) z = M.1 (b + 3 + i) z := fun z => gU_o (by omega)
        split <;> simp only [q]
      rw [e2]; exact h5 i hi
  · rw [e] at hh
    have q : ∀ z, cH (gU M (b + 3 + j) 7 d) b h z = cH M b h z := fun z => gU_o (by have := h2; omega)
    rw [q, q, q]
    exact h6 h hh
set_option maxRecDepth 100000 in
set_option maxHeartbeats 4000000 in
theorem kX6_move_bad1 (l : Launch) (E : gEnv) (M : gMem) (b b' : Nat) (hS : cS E M b b') (hO : cO M b) (hsg : M.1 1 5 < 1024) (x d : Int32) (hx : inR x (M.1 b 1) = false) : gMetI l E mX6_move 5 [.ref (gAd E 1), .int x, .int d] M (-1) := by
  have hB := hS.B
  have hO' := hO
  obtain ⟨hn, hk, hft, hto, hU, hH⟩ := hO
  have hO := hO'
  refine gMet_of (mm := mX6_move) (h := 5) (M := M) [(0, .ref (gAd E 1)), (1, .int x), (2, .int d)] (by decide) (Nat.le_of_ble_eq_true rfl) rfl ?_
  refine g_aload_n (pc := 0) 0 rfl rfl dX6_move_0 ?_
  refine g_iload_n (pc := 1) 1 rfl rfl dX6_move_1 ?_
  refine g_callV (pc := 2) (mc := mX6_isOffer) (rest := []) lX6_69 iX6_isOffer (kX6_isOffer l E M b b' hS hO hsg (x)) ⟨Nat.le_of_ble_eq_true rfl, Nat.le_of_ble_eq_true rfl⟩ hS.s1 (by decide) (by decide) rfl rfl rfl rfl (Nat.le_of_ble_eq_true rfl) ⟨Nat.zero_le _, Nat.zero_le _⟩ dX6_move_2 (g_rI ?_)
  refine g_ifB_eq (pc := 5) 18 dX6_move_5 (by decide) (fun h5 => ?_) (fun h5 => absurd h5 (by rw [hx]; decide))
  refine g_iconst (pc := 18) ((-1)) (by decide) dX6_move_18 ?_
  exact g_iret (pc := 19) rfl dX6_move_19 ⟨rfl, rfl⟩
set_option maxRecDepth 100000 in
set_option maxHeartbeats 4000000 in
theorem kX6_move_bad2 (l : Launch) (E : gEnv) (M : gMem) (b b' : Nat) (hS : cS E M b b') (hO : cO M b) (hsg : M.1 1 5 < 1024) (j : Nat) (d : Int32) (hj : j < M.1 b 1) (hd : inR d 52 = false) : gMetI l E mX6_move 5 [.ref (gAd E 1), .int (nI j), .int d] M (-1) := by
  have hB := hS.B
  have hO' := hO
  obtain ⟨hn, hk, hft, hto, hU, hH⟩ := hO
  have hO := hO'
  have hx : inR (nI j) (M.1 b 1) = true := by rw [inR_nI (by omega)]; exact decide_eq_true hj
  refine gMet_of (mm := mX6_move) (h := 5) (M := M) [(0, .ref (gAd E 1)), (1, .int (nI j)), (2, .int d)] (by decide) (Nat.le_of_ble_eq_true rfl) rfl ?_
  refine g_aload_n (pc := 0) 0 rfl rfl dX6_move_0 ?_
  refine g_iload_n (pc := 1) 1 rfl rfl dX6_move_1 ?_
  refine g_callV (pc := 2) (mc := mX6_isOffer) (rest := []) lX6_69 iX6_isOffer (kX6_isOffer l E M b b' hS hO hsg (nI j)) ⟨Nat.le_of_ble_eq_true rfl, Nat.le_of_ble_eq_true rfl⟩ hS.s1 (by decide) (by decide) rfl rfl rfl rfl (Nat.le_of_ble_eq_true rfl) ⟨Nat.zero_le _, Nat.zero_le _⟩ dX6_move_2 (g_rI ?_)
  refine g_ifB_eq (pc := 5) 18 dX6_move_5 (by decide) (fun h5 => absurd h5 (by rw [hx]; decide)) (fun h5 => ?_)
  refine g_iload_n (pc := 8) 2 rfl rfl dX6_move_8 ?_
  refine g_if_lt (pc := 9) 18 dX6_move_9 (by decide) (fun h9 => ?_) (fun h9 => ?_)
  · refine g_iconst (pc := 18) ((-1)) (by decide) dX6_move_18 ?_
    exact g_iret (pc := 19) rfl dX6_move_19 ⟨rfl, rfl⟩
  · refine g_iload_n (pc := 12) 2 rfl rfl dX6_move_12 ?_
    refine g_bipush (pc := 13) (nI 51) (by decide) dX6_move_13 ?_
    refine g_icmp_le (pc := 15) 20 dX6_move_15 (by decide) (fun h15 => absurd h15 (fun q => (of_decide_eq_false hd) ⟨i32_nn h9, by have := i32_le (n := 51) (by omega) q; omega⟩)) (fun h15 => ?_)
    refine g_iconst (pc := 18) ((-1)) (by decide) dX6_move_18 ?_
    exact g_iret (pc := 19) rfl dX6_move_19 ⟨rfl, rfl⟩
set_option maxRecDepth 100000 in
set_option maxHeartbeats 4000000 in
theorem kX6_move_no (l : Launch) (E : gEnv) (M : gMem) (b b' : Nat) (hS : cS E M b b') (hO : cO M b) (hsg : M.1 1 5 < 1024) (j d : Nat) (hj : j < M.1 b 1) (hd : d ≤ 51) (hno : (M.1 1 5).testBit j = true ∨ d = M.1 (b + 3 + j) 7 ∨ 51 - M.1 (b + 3 + j) 4 < d) : gMetI l E mX6_move 5 [.ref (gAd E 1), .int (nI j), .int (nI d)] M (-2) := by
  have hB := hS.B
  have hO' := hO
  obtain ⟨hn, hk, hft, hto, hU, hH⟩ := hO
  have hO := hO'
  have hx : inR (nI j) (M.1 b 1) = true := by rw [inR_nI (by omega)]; exact decide_eq_true hj
  have hl4 : M.1 (b + 3 + j) 4 + M.1 (b + 3 + j) 7 ≤ 51 := (hU j hj).2.2.2.2.1
  refine gMet_of (mm := mX6_move) (h := 5) (M := M) [(0, .ref (gAd E 1)), (1, .int (nI j)), (2, .int (nI d))] (by decide) (Nat.le_of_ble_eq_true rfl) rfl ?_
  refine g_aload_n (pc := 0) 0 rfl rfl dX6_move_0 ?_
  refine g_iload_n (pc := 1) 1 rfl rfl dX6_move_1 ?_
  refine g_callV (pc := 2) (mc := mX6_isOffer) (rest := []) lX6_69 iX6_isOffer (kX6_isOffer l E M b b' hS hO hsg (nI j)) ⟨Nat.le_of_ble_eq_true rfl, Nat.le_of_ble_eq_true rfl⟩ hS.s1 (by decide) (by decide) rfl rfl rfl rfl (Nat.le_of_ble_eq_true rfl) ⟨Nat.zero_le _, Nat.zero_le _⟩ dX6_move_2 (g_rI ?_)
  refine g_ifB_eq (pc := 5) 18 dX6_move_5 (by decide) (fun h5 => absurd h5 (by rw [hx]; decide)) (fun h5 => ?_)
  refine g_iload_n (pc := 8) 2 rfl rfl dX6_move_8 ?_
  refine g_ifN_lt (pc := 9) 18 dX6_move_9 (by decide) (by omega) ?_
  refine g_iload_n (pc := 12) 2 rfl rfl dX6_move_12 ?_
  refine g_bipush (pc := 13) (nI 51) (by decide) dX6_move_13 ?_
  refine g_icmpN_le (pc := 15) 20 dX6_move_15 (by decide) (by omega) (by omega) (fun h15 => ?_) (fun h15 => absurd h15 (by omega))
  refine g_aload_n (pc := 20) 0 rfl rfl dX6_move_20 ?_
  refine fX6_23 (pc := 21) b rfl hS.s1 hS.rb hS.b0 dX6_move_21 ?_
  refine fX6_93 (pc := 24) (b + 1) rfl hB.1.1 hB.1.2.2.2.2.2.1 (by omega) dX6_move_24 ?_
  refine g_iload_n (pc := 27) 1 rfl rfl dX6_move_27 ?_
  refine g_aaload (pc := 28) (t0 := 2) (r := (b + 3 + j)) hB.1.2.1 (by decide) rfl (by rw [hB.1.2.2.1]; omega) (by rw [hB.1.2.2.1]; omega) (hB.2.1 j (by omega)).2 (by omega) dX6_move_28 ?_
  refine g_astore_n (pc := 29) rfl [(0, .ref (gAd E 1)), (1, .int (nI j)), (2, .int (nI d)), (3, .ref (gAd E ((b + 3 + j))))] dX6_move_29 (by decide) rfl rfl ?_
  refine g_aload_n (pc := 30) 3 rfl rfl dX6_move_30 ?_
  refine fX6_97 (pc := 31) rfl (hB.2.1 j (by omega)).1 dX6_move_31 ?_
  refine g_istore (pc := 34) [(0, .ref (gAd E 1)), (1, .int (nI j)), (2, .int (nI d)), (3, .ref (gAd E ((b + 3 + j)))), (4, .int (nI (M.1 ((b + 3 + j)) 7)))] dX6_move_34 (by decide) rfl rfl ?_
  refine g_aload_n (pc := 36) 0 rfl rfl dX6_move_36 ?_
  refine g_iload_n (pc := 37) 1 rfl rfl dX6_move_37 ?_
  refine g_callV (pc := 38) (mc := mX6_isSigned) (rest := []) lX6_90 iX6_isSigned (kX6_isSigned l E M b b' hS hO hsg j (by omega)) ⟨Nat.le_of_ble_eq_true rfl, Nat.le_of_ble_eq_true rfl⟩ hS.s1 (by decide) (by decide) rfl rfl rfl rfl (Nat.le_of_ble_eq_true rfl) ⟨Nat.zero_le _, Nat.zero_le _⟩ dX6_move_38 (g_rI ?_)
  refine g_ifB_ne (pc := 41) 58 dX6_move_41 (by decide) (fun h41 => ?_) (fun h41 => ?_)
  · refine g_bipush (pc := 58) ((-2)) (by decide) dX6_move_58 ?_
    exact g_iret (pc := 60) rfl dX6_move_60 ⟨rfl, rfl⟩
  · refine g_iload_n (pc := 44) 2 rfl rfl dX6_move_44 ?_
    refine g_iload (pc := 45) 4 rfl dX6_move_45 ?_
    refine g_icmpN_eq (pc := 47) 58 dX6_move_47 (by decide) (by omega) (by omega) (fun h47 => ?_) (fun h47 => ?_)
    · refine g_bipush (pc := 58) ((-2)) (by decide) dX6_move_58 ?_
      exact g_iret (pc := 60) rfl dX6_move_60 ⟨rfl, rfl⟩
    · refine g_iload_n (pc := 50) 2 rfl rfl dX6_move_50 ?_
      refine g_aload_n (pc := 51) 3 rfl rfl dX6_move_51 ?_
      refine g_callV (pc := 52) (mc := mX4_farthestMove) (rest := [.int (nI d)]) lX6_102 iX4_farthestMove (kX4_farthestMove l E M ((b + 3 + j)) (hB.2.1 j (by omega)).1 (by omega)) ⟨Nat.le_of_ble_eq_true rfl, Nat.le_of_ble_eq_true rfl⟩ (hB.2.1 j (by omega)).1 (by decide) (by decide) rfl rfl rfl rfl (Nat.le_of_ble_eq_true rfl) ⟨Nat.zero_le _, Nat.zero_le _⟩ dX6_move_52 (g_rI ?_)
      refine g_icmpN_le (pc := 55) 61 dX6_move_55 (by decide) (by omega) (by omega) (fun h55 => absurd h55 (by rcases hno with q | q | q <;> first | omega | (rw [h41] at q; cases q))) (fun h55 => ?_)
      refine g_bipush (pc := 58) ((-2)) (by decide) dX6_move_58 ?_
      exact g_iret (pc := 60) rfl dX6_move_60 ⟨rfl, rfl⟩
set_option maxRecDepth 100000 in
set_option maxHeartbeats 4000000 in
theorem kX6_move_ok (l : Launch) (E : gEnv) (M : gMem) (b b' : Nat) (hS : cS E M b b') (hO : cO M b) (hsg : M.1 1 5 < 1024) (hz : M.1 5 1 ≤ 6) (j d : Nat) (hj : j < M.1 b 1) (hd : d ≤ 51) (h1 : (M.1 1 5).testBit j = false) (h2 : d ≠ M.1 (b + 3 + j) 7) (h3 : d ≤ 51 - M.1 (b + 3 + j) 4) : gMet l E mX6_move 5 [.ref (gAd E 1), .int (nI j), .int (nI d)] M (fun v u => v = some (.int (nI (M.1 (b + 3 + j) 7))) ∧ ∃ u0, hAdd M u0 (M.1 1 5) j (M.1 (b + 3 + j) 7) ∧ u = gU u0 (b + 3 + j) 7 d) := by
  have hB := hS.B
  have hO' := hO
  obtain ⟨hn, hk, hft, hto, hU, hH⟩ := hO
  have hO := hO'
  have hx : inR (nI j) (M.1 b 1) = true := by rw [inR_nI (by omega)]; exact decide_eq_true hj
  have hl4 : M.1 (b + 3 + j) 4 + M.1 (b + 3 + j) 7 ≤ 51 := (hU j hj).2.2.2.2.1
  refine gMet_of (mm := mX6_move) (h := 5) (M := M) [(0, .ref (gAd E 1)), (1, .int (nI j)), (2, .int (nI d))] (by decide) (Nat.le_of_ble_eq_true rfl) rfl ?_
  refine g_aload_n (pc := 0) 0 rfl rfl dX6_move_0 ?_
  refine g_iload_n (pc := 1) 1 rfl rfl dX6_move_1 ?_
  refine g_callV (pc := 2) (mc := mX6_isOffer) (rest := []) lX6_69 iX6_isOffer (kX6_isOffer l E M b b' hS hO hsg (nI j)) ⟨Nat.le_of_ble_eq_true rfl, Nat.le_of_ble_eq_true rfl⟩ hS.s1 (by decide) (by decide) rfl rfl rfl rfl (Nat.le_of_ble_eq_true rfl) ⟨Nat.zero_le _, Nat.zero_le _⟩ dX6_move_2 (g_rI ?_)
  refine g_ifB_eq (pc := 5) 18 dX6_move_5 (by decide) (fun h5 => absurd h5 (by rw [hx]; decide)) (fun h5 => ?_)
  refine g_iload_n (pc := 8) 2 rfl rfl dX6_move_8 ?_
  refine g_ifN_lt (pc := 9) 18 dX6_move_9 (by decide) (by omega) ?_
  refine g_iload_n (pc := 12) 2 rfl rfl dX6_move_12 ?_
  refine g_bipush (pc := 13) (nI 51) (by decide) dX6_move_13 ?_
  refine g_icmpN_le (pc := 15) 20 dX6_move_15 (by decide) (by omega) (by omega) (fun h15 => ?_) (fun h15 => absurd h15 (by omega))
  refine g_aload_n (pc := 20) 0 rfl rfl dX6_move_20 ?_
  refine fX6_23 (pc := 21) b rfl hS.s1 hS.rb hS.b0 dX6_move_21 ?_
  refine fX6_93 (pc := 24) (b + 1) rfl hB.1.1 hB.1.2.2.2.2.2.1 (by omega) dX6_move_24 ?_
  refine g_iload_n (pc := 27) 1 rfl rfl dX6_move_27 ?_
  refine g_aaload (pc := 28) (t0 := 2) (r := (b + 3 + j)) hB.1.2.1 (by decide) rfl (by rw [hB.1.2.2.1]; omega) (by rw [hB.1.2.2.1]; omega) (hB.2.1 j (by omega)).2 (by omega) dX6_move_28 ?_
  refine g_astore_n (pc := 29) rfl [(0, .ref (gAd E 1)), (1, .int (nI j)), (2, .int (nI d)), (3, .ref (gAd E ((b + 3 + j))))] dX6_move_29 (by decide) rfl rfl ?_
  refine g_aload_n (pc := 30) 3 rfl rfl dX6_move_30 ?_
  refine fX6_97 (pc := 31) rfl (hB.2.1 j (by omega)).1 dX6_move_31 ?_
  refine g_istore (pc := 34) [(0, .ref (gAd E 1)), (1, .int (nI j)), (2, .int (nI d)), (3, .ref (gAd E ((b + 3 + j)))), (4, .int (nI (M.1 ((b + 3 + j)) 7)))] dX6_move_34 (by decide) rfl rfl ?_
  refine g_aload_n (pc := 36) 0 rfl rfl dX6_move_36 ?_
  refine g_iload_n (pc := 37) 1 rfl rfl dX6_move_37 ?_
  refine g_callV (pc := 38) (mc := mX6_isSigned) (rest := []) lX6_90 iX6_isSigned (kX6_isSigned l E M b b' hS hO hsg j (by omega)) ⟨Nat.le_of_ble_eq_true rfl, Nat.le_of_ble_eq_true rfl⟩ hS.s1 (by decide) (by decide) rfl rfl rfl rfl (Nat.le_of_ble_eq_true rfl) ⟨Nat.zero_le _, Nat.zero_le _⟩ dX6_move_38 (g_rI ?_)
  refine g_ifB_ne (pc := 41) 58 dX6_move_41 (by decide) (fun h41 => absurd h41 (by rw [h1]; decide)) (fun h41 => ?_)
  refine g_iload_n (pc := 44) 2 rfl rfl dX6_move_44 ?_
  refine g_iload (pc := 45) 4 rfl dX6_move_45 ?_
  refine g_icmpN_eq (pc := 47) 58 dX6_move_47 (by decide) (by omega) (by omega) (fun h47 => absurd h47 (by omega)) (fun h47 => ?_)
  refine g_iload_n (pc := 50) 2 rfl rfl dX6_move_50 ?_
  refine g_aload_n (pc := 51) 3 rfl rfl dX6_move_51 ?_
  refine g_callV (pc := 52) (mc := mX4_farthestMove) (rest := [.int (nI d)]) lX6_102 iX4_farthestMove (kX4_farthestMove l E M ((b + 3 + j)) (hB.2.1 j (by omega)).1 (by omega)) ⟨Nat.le_of_ble_eq_true rfl, Nat.le_of_ble_eq_true rfl⟩ (hB.2.1 j (by omega)).1 (by decide) (by decide) rfl rfl rfl rfl (Nat.le_of_ble_eq_true rfl) ⟨Nat.zero_le _, Nat.zero_le _⟩ dX6_move_52 (g_rI ?_)
  refine g_icmpN_le (pc := 55) 61 dX6_move_55 (by decide) (by omega) (by omega) (fun h55 => ?_) (fun h55 => absurd h55 (by omega))
  refine g_aload_n (pc := 61) 0 rfl rfl dX6_move_61 ?_
  refine g_iload_n (pc := 62) 1 rfl rfl dX6_move_62 ?_
  refine g_callV (pc := 63) (mc := mX6_remember) (rest := []) lX6_77 iX6_remember (kX6_remember l E M b b' hS hO hsg hz j (by omega)) ⟨Nat.le_of_ble_eq_true rfl, Nat.le_of_ble_eq_true rfl⟩ hS.s1 (by decide) (by decide) rfl rfl rfl rfl (Nat.le_of_ble_eq_true rfl) ⟨Nat.zero_le _, Nat.zero_le _⟩ dX6_move_63 ?_
  intro v u hq
  obtain ⟨rfl, hA⟩ := hq
  have hS' := hS
  have hS := hAdd_cS hS hA
  have e15 : u.1 1 5 = M.1 1 5 := hA.1 1 5 (by decide) (by decide)
  refine g_aload_n (pc := 66) 3 rfl rfl dX6_move_66 ?_
  refine g_iload_n (pc := 67) 2 rfl rfl dX6_move_67 ?_
  refine uX6_97 (pc := 68) rfl (hB.2.1 j (by omega)).1 dX6_move_68 ?_
  refine g_iload (pc := 71) 4 rfl dX6_move_71 ?_
  exact g_iret (pc := 73) rfl dX6_move_73 ⟨rfl, u, hA, rfl⟩
set_option maxRecDepth 100000 in
set_option maxHeartbeats 4000000 in
theorem kX6_soonest_bad (l : Launch) (E : gEnv) (M : gMem) (b b' : Nat) (hS : cS E M b b') (hO : cO M b) (hsg : M.1 1 5 < 1024) (x : Int32) (hx : inR x (M.1 b 1) = false) : gMetI l E mX6_soonest 5 [.ref (gAd E 1), .int x] M (-1) := by
  have hB := hS.B
  have hO' := hO
  obtain ⟨hn, hk, hft, hto, hU, hH⟩ := hO
  have hO := hO'
  refine gMet_of (mm := mX6_soonest) (h := 5) (M := M) [(0, .ref (gAd E 1)), (1, .int x)] (by decide) (Nat.le_of_ble_eq_true rfl) rfl ?_
  refine g_aload_n (pc := 0) 0 rfl rfl dX6_soonest_0 ?_
  refine g_iload_n (pc := 1) 1 rfl rfl dX6_soonest_1 ?_
  refine g_callV (pc := 2) (mc := mX6_isOffer) (rest := []) lX6_69 iX6_isOffer (kX6_isOffer l E M b b' hS hO hsg (x)) ⟨Nat.le_of_ble_eq_true rfl, Nat.le_of_ble_eq_true rfl⟩ hS.s1 (by decide) (by decide) rfl rfl rfl rfl (Nat.le_of_ble_eq_true rfl) ⟨Nat.zero_le _, Nat.zero_le _⟩ dX6_soonest_2 (g_rI ?_)
  refine g_ifB_ne (pc := 5) 10 dX6_soonest_5 (by decide) (fun h5 => absurd h5 (by rw [hx]; decide)) (fun h5 => ?_)
  refine g_iconst (pc := 8) ((-1)) (by decide) dX6_soonest_8 ?_
  exact g_iret (pc := 9) rfl dX6_soonest_9 ⟨rfl, rfl⟩
set_option maxRecDepth 100000 in
set_option maxHeartbeats 4000000 in
theorem kX6_soonest_no (l : Launch) (E : gEnv) (M : gMem) (b b' : Nat) (hS : cS E M b b') (hO : cO M b) (hsg : M.1 1 5 < 1024) (j : Nat) (hj : j < M.1 b 1) (hb : (M.1 1 5).testBit j = true) : gMetI l E mX6_soonest 5 [.ref (gAd E 1), .int (nI j)] M (-2) := by
  have hB := hS.B
  have hO' := hO
  obtain ⟨hn, hk, hft, hto, hU, hH⟩ := hO
  have hO := hO'
  have hx : inR (nI j) (M.1 b 1) = true := by rw [inR_nI (by omega)]; exact decide_eq_true hj
  refine gMet_of (mm := mX6_soonest) (h := 5) (M := M) [(0, .ref (gAd E 1)), (1, .int (nI j))] (by decide) (Nat.le_of_ble_eq_true rfl) rfl ?_
  refine g_aload_n (pc := 0) 0 rfl rfl dX6_soonest_0 ?_
  refine g_iload_n (pc := 1) 1 rfl rfl dX6_soonest_1 ?_
  refine g_callV (pc := 2) (mc := mX6_isOffer) (rest := []) lX6_69 iX6_isOffer (kX6_isOffer l E M b b' hS hO hsg (nI j)) ⟨Nat.le_of_ble_eq_true rfl, Nat.le_of_ble_eq_true rfl⟩ hS.s1 (by decide) (by decide) rfl rfl rfl rfl (Nat.le_of_ble_eq_true rfl) ⟨Nat.zero_le _, Nat.zero_le _⟩ dX6_soonest_2 (g_rI ?_)
  refine g_ifB_ne (pc := 5) 10 dX6_soonest_5 (by decide) (fun h5 => ?_) (fun h5 => absurd h5 (by rw [hx]; decide))
  refine g_aload_n (pc := 10) 0 rfl rfl dX6_soonest_10 ?_
  refine g_iload_n (pc := 11) 1 rfl rfl dX6_soonest_11 ?_
  refine g_callV (pc := 12) (mc := mX6_isSigned) (rest := []) lX6_90 iX6_isSigned (kX6_isSigned l E M b b' hS hO hsg j (by omega)) ⟨Nat.le_of_ble_eq_true rfl, Nat.le_of_ble_eq_true rfl⟩ hS.s1 (by decide) (by decide) rfl rfl rfl rfl (Nat.le_of_ble_eq_true rfl) ⟨Nat.zero_le _, Nat.zero_le _⟩ dX6_soonest_12 (g_rI ?_)
  refine g_ifB_eq (pc := 15) 21 dX6_soonest_15 (by decide) (fun h15 => absurd h15 (by rw [hb]; decide)) (fun h15 => ?_)
  refine g_bipush (pc := 18) ((-2)) (by decide) dX6_soonest_18 ?_
  exact g_iret (pc := 20) rfl dX6_soonest_20 ⟨rfl, rfl⟩
set_option maxRecDepth 100000 in
set_option maxHeartbeats 4000000 in
theorem kX6_soonest_ok (l : Launch) (E : gEnv) (M : gMem) (b b' : Nat) (hS : cS E M b b') (hO : cO M b) (hsg : M.1 1 5 < 1024) (j : Nat) (hj : j < M.1 b 1) (hb : (M.1 1 5).testBit j = false) : gMetI l E mX6_soonest 5 [.ref (gAd E 1), .int (nI j)] M (oN (sFr (fun z => sWhy (cV (gU M (b + 3 + j) 7 z) b) ((gU M (b + 3 + j) 7 z).1 b 1) (cH (gU M (b + 3 + j) 7 z) b) ((gU M (b + 3 + j) 7 z).1 b 3) ((gU M (b + 3 + j) 7 z).1 b 4) ((gU M (b + 3 + j) 7 z).1 b 5) ((gU M (b + 3 + j) 7 z).1 1 5) j == 0) (M.1 (b + 3 + j) 7) (52 - M.1 (b + 3 + j) 4 - M.1 (b + 3 + j) 7))) := by
  have hB := hS.B
  have hO' := hO
  obtain ⟨hn, hk, hft, hto, hU, hH⟩ := hO
  have hO := hO'
  have hx : inR (nI j) (M.1 b 1) = true := by rw [inR_nI (by omega)]; exact decide_eq_true hj
  have hl4 : M.1 (b + 3 + j) 4 + M.1 (b + 3 + j) 7 ≤ 51 := (hU j hj).2.2.2.2.1
  refine gMet_of (mm := mX6_soonest) (h := 5) (M := M) [(0, .ref (gAd E 1)), (1, .int (nI j))] (by decide) (Nat.le_of_ble_eq_true rfl) rfl ?_
  refine g_aload_n (pc := 0) 0 rfl rfl dX6_soonest_0 ?_
  refine g_iload_n (pc := 1) 1 rfl rfl dX6_soonest_1 ?_
  refine g_callV (pc := 2) (mc := mX6_isOffer) (rest := []) lX6_69 iX6_isOffer (kX6_isOffer l E M b b' hS hO hsg (nI j)) ⟨Nat.le_of_ble_eq_true rfl, Nat.le_of_ble_eq_true rfl⟩ hS.s1 (by decide) (by decide) rfl rfl rfl rfl (Nat.le_of_ble_eq_true rfl) ⟨Nat.zero_le _, Nat.zero_le _⟩ dX6_soonest_2 (g_rI ?_)
  refine g_ifB_ne (pc := 5) 10 dX6_soonest_5 (by decide) (fun h5 => ?_) (fun h5 => absurd h5 (by rw [hx]; decide))
  refine g_aload_n (pc := 10) 0 rfl rfl dX6_soonest_10 ?_
  refine g_iload_n (pc := 11) 1 rfl rfl dX6_soonest_11 ?_
  refine g_callV (pc := 12) (mc := mX6_isSigned) (rest := []) lX6_90 iX6_isSigned (kX6_isSigned l E M b b' hS hO hsg j (by omega)) ⟨Nat.le_of_ble_eq_true rfl, Nat.le_of_ble_eq_true rfl⟩ hS.s1 (by decide) (by decide) rfl rfl rfl rfl (Nat.le_of_ble_eq_true rfl) ⟨Nat.zero_le _, Nat.zero_le _⟩ dX6_soonest_12 (g_rI ?_)
  refine g_ifB_eq (pc := 15) 21 dX6_soonest_15 (by decide) (fun h15 => ?_) (fun h15 => absurd h15 (by rw [hb]; decide))
  refine g_aload_n (pc := 21) 0 rfl rfl dX6_soonest_21 ?_
  refine fX6_23 (pc := 22) b rfl hS.s1 hS.rb hS.b0 dX6_soonest_22 ?_
  refine fX6_93 (pc := 25) (b + 1) rfl hB.1.1 hB.1.2.2.2.2.2.1 (by omega) dX6_soonest_25 ?_
  refine g_iload_n (pc := 28) 1 rfl rfl dX6_soonest_28 ?_
  refine g_aaload (pc := 29) (t0 := 2) (r := (b + 3 + j)) hB.1.2.1 (by decide) rfl (by rw [hB.1.2.2.1]; omega) (by rw [hB.1.2.2.1]; omega) (hB.2.1 j (by omega)).2 (by omega) dX6_soonest_29 ?_
  refine g_astore_n (pc := 30) rfl [(0, .ref (gAd E 1)), (1, .int (nI j)), (2, .ref (gAd E ((b + 3 + j))))] dX6_soonest_30 (by decide) rfl rfl ?_
  refine g_aload_n (pc := 31) 2 rfl rfl dX6_soonest_31 ?_
  refine fX6_97 (pc := 32) rfl (hB.2.1 j (by omega)).1 dX6_soonest_32 ?_
  refine g_istore_n (pc := 35) rfl [(0, .ref (gAd E 1)), (1, .int (nI j)), (2, .ref (gAd E ((b + 3 + j)))), (3, .int (nI (M.1 ((b + 3 + j)) 7)))] dX6_soonest_35 (by decide) rfl rfl ?_
  refine g_bipush (pc := 36) ((-4)) (by decide) dX6_soonest_36 ?_
  refine g_istore (pc := 38) [(0, .ref (gAd E 1)), (1, .int (nI j)), (2, .ref (gAd E ((b + 3 + j)))), (3, .int (nI (M.1 ((b + 3 + j)) 7))), (4, .int ((-4)))] dX6_soonest_38 (by decide) rfl rfl ?_
  refine g_iload_n (pc := 40) 3 rfl rfl dX6_soonest_40 ?_
  refine g_istore (pc := 41) [(0, .ref (gAd E 1)), (1, .int (nI j)), (2, .ref (gAd E ((b + 3 + j)))), (3, .int (nI (M.1 ((b + 3 + j)) 7))), (4, .int ((-4))), (5, .int (nI (M.1 ((b + 3 + j)) 7)))] dX6_soonest_41 (by decide) rfl rfl ?_
  have lp43 : ∀ d, d ≤ 52 - M.1 (b + 3 + j) 4 → ∀ m : Nat, (M.1 (b + 3 + j) 7 ≤ d) → (sFr (fun z => sWhy (cV (gU M (b + 3 + j) 7 z) b) ((gU M (b + 3 + j) 7 z).1 b 1) (cH (gU M (b + 3 + j) 7 z) b) ((gU M (b + 3 + j) 7 z).1 b 3) ((gU M (b + 3 + j) 7 z).1 b 4) ((gU M (b + 3 + j) 7 z).1 b 5) ((gU M (b + 3 + j) 7 z).1 1 5) j == 0) (M.1 (b + 3 + j) 7) (52 - M.1 (b + 3 + j) 4 - M.1 (b + 3 + j) 7) = sFr (fun z => sWhy (cV (gU M (b + 3 + j) 7 z) b) ((gU M (b + 3 + j) 7 z).1 b 1) (cH (gU M (b + 3 + j) 7 z) b) ((gU M (b + 3 + j) 7 z).1 b 3) ((gU M (b + 3 + j) 7 z).1 b 4) ((gU M (b + 3 + j) 7 z).1 b 5) ((gU M (b + 3 + j) 7 z).1 1 5) j == 0) d (52 - M.1 (b + 3 + j) 4 - d)) → gG l (gV0 5 E (fun v u => v = some (.int (oN (sFr (fun z => sWhy (cV (gU M (b + 3 + j) 7 z) b) ((gU M (b + 3 + j) 7 z).1 b 1) (cH (gU M (b + 3 + j) 7 z) b) ((gU M (b + 3 + j) 7 z).1 b 3) ((gU M (b + 3 + j) 7 z).1 b 4) ((gU M (b + 3 + j) 7 z).1 b 5) ((gU M (b + 3 + j) 7 z).1 1 5) j == 0) (M.1 (b + 3 + j) 7) (52 - M.1 (b + 3 + j) 4 - M.1 (b + 3 + j) 7)))) ∧ u = M)) mX6_soonest E (0, 0) (gU M (b + 3 + j) 7 m) 43 [(0, .ref (gAd E 1)), (1, .int (nI j)), (2, .ref (gAd E (b + 3 + j))), (3, .int (nI (M.1 (b + 3 + j) 7))), (4, .int ((-4))), (5, .int (nI d))] [] := by
    refine gloop (fun d hid ihd => ?_)
    intro m
    intro hd0
    intro he
    refine g_iload (pc := 43) 5 rfl dX6_soonest_43 ?_
    refine g_aload_n (pc := 45) 2 rfl rfl dX6_soonest_45 ?_
    refine g_callV (pc := 46) (mc := mX4_farthestMove) (rest := [.int (nI d)]) lX6_102 iX4_farthestMove (kX4_farthestMove l E (gU M (b + 3 + j) 7 m) (b + 3 + j) (hB.2.1 j (by omega)).1 (by rw [gU_k (by decide)]; omega)) ⟨Nat.le_of_ble_eq_true rfl, Nat.le_of_ble_eq_true rfl⟩ (hB.2.1 j (by omega)).1 (by decide) (by decide) rfl rfl rfl rfl (Nat.le_of_ble_eq_true rfl) ⟨Nat.zero_le _, Nat.zero_le _⟩ dX6_soonest_46 (g_rI ?_)
    refine g_topi (pc := 49) (x' := nI (51 - M.1 (b + 3 + j) 4)) (by rw [gU_k (by decide)]) ?_
    refine g_icmpN_gt (pc := 49) 83 dX6_soonest_49 (by decide) (by omega) (by omega) (fun h49 => ?_) (fun h49 => ?_)
    · refine g_aload_n (pc := 83) 2 rfl rfl dX6_soonest_83 ?_
      refine g_iload_n (pc := 84) 3 rfl rfl dX6_soonest_84 ?_
      refine uX6_97 (pc := 85) rfl (hB.2.1 j (by omega)).1 dX6_soonest_85 ?_
      refine g_iload (pc := 88) 4 rfl dX6_soonest_88 ?_
      exact g_iret (pc := 90) rfl dX6_soonest_90 ⟨congrArg (fun z => some (Value.int z)) (by rw [he, show 52 - M.1 (b + 3 + j) 4 - d = 0 by omega]; rfl), by rw [gU_gU]; exact gU_me⟩
    · refine g_iload (pc := 52) 4 rfl dX6_soonest_52 ?_
      refine g_bipush (pc := 54) ((-4)) (by decide) dX6_soonest_54 ?_
      refine g_icmp_ne (pc := 56) 83 dX6_soonest_56 (by decide) (fun h56 => absurd h56 (fun q => q rfl)) (fun h56 => ?_)
      refine g_aload_n (pc := 59) 2 rfl rfl dX6_soonest_59 ?_
      refine g_iload (pc := 60) 5 rfl dX6_soonest_60 ?_
      refine uX6_97 (pc := 62) rfl (hB.2.1 j (by omega)).1 dX6_soonest_62 ?_
      refine g_mm (pc := 65) (M' := gU M (b + 3 + j) 7 d) gU_gU ?_
      have hO := cO_mv hO' hj (d := d) (by omega)
      have hsg : (gU M (b + 3 + j) 7 d).1 1 5 < 1024 := by rw [gU_o (by have := hS.2.2.2.2.1; omega)]; exact hsg
      refine g_aload_n (pc := 65) 0 rfl rfl dX6_soonest_65 ?_
      refine g_iload_n (pc := 66) 1 rfl rfl dX6_soonest_66 ?_
      refine g_callV (pc := 67) (mc := mX6_whatSpeaksAgainst) (rest := []) lX6_73 iX6_whatSpeaksAgainst (kX6_whatSpeaksAgainst l E (gU M (b + 3 + j) 7 d) b b' hS hO hsg j (by rw [gU_o (by omega)]; exact hj)) ⟨Nat.le_of_ble_eq_true rfl, Nat.le_of_ble_eq_true rfl⟩ hS.s1 (by decide) (by decide) rfl rfl rfl rfl (Nat.le_of_ble_eq_true rfl) ⟨Nat.zero_le _, Nat.zero_le _⟩ dX6_soonest_67 (g_rI ?_)
      refine g_ifN_ne (pc := 70) 77 dX6_soonest_70 (by decide) (Nat.lt_of_le_of_lt sWhy_le (by decide)) (fun h70 => ?_) (fun h70 => ?_)
      · refine g_iincN (pc := 77) 1 5 [(0, .ref (gAd E 1)), (1, .int (nI j)), (2, .ref (gAd E (b + 3 + j))), (3, .int (nI (M.1 (b + 3 + j) 7))), (4, .int ((-4))), (5, .int (nI (d + 1)))] rfl dX6_soonest_77 (by decide) rfl rfl ?_
        refine g_goto (pc := 80) 43 dX6_soonest_80 (by decide) ?_
        exact ihd (by omega) d (by omega) (by rw [he, sFr_step (by omega), if_neg (by simp only [beq_iff_eq]; omega)])
      · refine g_iload (pc := 73) 5 rfl dX6_soonest_73 ?_
        refine g_istore (pc := 75) [(0, .ref (gAd E 1)), (1, .int (nI j)), (2, .ref (gAd E (b + 3 + j))), (3, .int (nI (M.1 (b + 3 + j) 7))), (4, .int (nI d)), (5, .int (nI d))] dX6_soonest_75 (by decide) rfl rfl ?_
        refine g_iincN (pc := 77) 1 5 [(0, .ref (gAd E 1)), (1, .int (nI j)), (2, .ref (gAd E (b + 3 + j))), (3, .int (nI (M.1 (b + 3 + j) 7))), (4, .int (nI d)), (5, .int (nI (d + 1)))] rfl dX6_soonest_77 (by decide) rfl rfl ?_
        refine g_goto (pc := 80) 43 dX6_soonest_80 (by decide) ?_
        refine g_iload (pc := 43) 5 rfl dX6_soonest_43 ?_
        refine g_aload_n (pc := 45) 2 rfl rfl dX6_soonest_45 ?_
        refine g_callV (pc := 46) (mc := mX4_farthestMove) (rest := [.int (nI (d + 1))]) lX6_102 iX4_farthestMove (kX4_farthestMove l E (gU M (b + 3 + j) 7 d) (b + 3 + j) (hB.2.1 j (by omega)).1 (by rw [gU_k (by decide)]; omega)) ⟨Nat.le_of_ble_eq_true rfl, Nat.le_of_ble_eq_true rfl⟩ (hB.2.1 j (by omega)).1 (by decide) (by decide) rfl rfl rfl rfl (Nat.le_of_ble_eq_true rfl) ⟨Nat.zero_le _, Nat.zero_le _⟩ dX6_soonest_46 (g_rI ?_)
        refine g_topi (pc := 49) (x' := nI (51 - M.1 (b + 3 + j) 4)) (by rw [gU_k (by decide)]) ?_
        refine g_icmpN_gt (pc := 49) 83 dX6_soonest_49 (by decide) (by omega) (by omega) (fun h49 => ?_) (fun h49 => ?_)
        · refine g_aload_n (pc := 83) 2 rfl rfl dX6_soonest_83 ?_
          refine g_iload_n (pc := 84) 3 rfl rfl dX6_soonest_84 ?_
          refine uX6_97 (pc := 85) rfl (hB.2.1 j (by omega)).1 dX6_soonest_85 ?_
          refine g_iload (pc := 88) 4 rfl dX6_soonest_88 ?_
          exact g_iret (pc := 90) rfl dX6_soonest_90 ⟨congrArg (fun z => some (Value.int z)) (by rw [he, sFr_step (by omega), if_pos (by simp only [beq_iff_eq]; exact h70)]; rfl), by rw [gU_gU]; exact gU_me⟩
        · refine g_iload (pc := 52) 4 rfl dX6_soonest_52 ?_
          refine g_bipush (pc := 54) ((-4)) (by decide) dX6_soonest_54 ?_
          refine g_icmp_ne (pc := 56) 83 dX6_soonest_56 (by decide) (fun h56 => ?_) (fun h56 => absurd h56 (oN_ne (x := d) (by omega)))
          refine g_aload_n (pc := 83) 2 rfl rfl dX6_soonest_83 ?_
          refine g_iload_n (pc := 84) 3 rfl rfl dX6_soonest_84 ?_
          refine uX6_97 (pc := 85) rfl (hB.2.1 j (by omega)).1 dX6_soonest_85 ?_
          refine g_iload (pc := 88) 4 rfl dX6_soonest_88 ?_
          exact g_iret (pc := 90) rfl dX6_soonest_90 ⟨congrArg (fun z => some (Value.int z)) (by rw [he, sFr_step (by omega), if_pos (by simp only [beq_iff_eq]; exact h70)]; rfl), by rw [gU_gU]; exact gU_me⟩
  refine g_mm (pc := 43) (M' := gU M (b + 3 + j) 7 (M.1 (b + 3 + j) 7)) gU_me.symm ?_
  refine g_lv (pc := 43) (lv' := [(0, .ref (gAd E 1)), (1, .int (nI j)), (2, .ref (gAd E (b + 3 + j))), (3, .int (nI (M.1 (b + 3 + j) 7))), (4, .int ((-4))), (5, .int (nI (M.1 (b + 3 + j) 7)))]) rfl ?_
  exact lp43 (M.1 (b + 3 + j) 7) (by omega) (M.1 (b + 3 + j) 7) (Nat.le_refl _) rfl
set_option maxRecDepth 100000 in
set_option maxHeartbeats 4000000 in
theorem kX6_undo_no (l : Launch) (E : gEnv) (M : gMem) (b b' : Nat) (hS : cS E M b b') (hO : cO M b) (hsg : M.1 1 5 < 1024) (hz : M.1 5 1 = 0) : gMetI l E mX6_undo 1 [.ref (gAd E 1)] M (-2) := by
  have hB := hS.B
  have hO' := hO
  obtain ⟨hn, hk, hft, hto, hU, hH⟩ := hO
  have hO := hO'
  refine gMet_of (mm := mX6_undo) (h := 1) (M := M) [(0, .ref (gAd E 1))] (by decide) (Nat.le_of_ble_eq_true rfl) rfl ?_
  refine g_aload_n (pc := 0) 0 rfl rfl dX6_undo_0 ?_
  refine fX6_33 (pc := 1) 5 rfl hS.s1 hS.rh (by decide) dX6_undo_1 ?_
  refine g_callV (pc := 4) (mc := mX2_takeLatest) (rest := []) lX6_105 iX2_takeLatest (kX2_takeLatest0 l E M hS.1 (hOk_of hS) hS.rc hz) ⟨Nat.le_of_ble_eq_true rfl, Nat.le_of_ble_eq_true rfl⟩ hS.s5 (by decide) (by decide) rfl rfl rfl rfl (Nat.le_of_ble_eq_true rfl) ⟨Nat.zero_le _, Nat.zero_le _⟩ dX6_undo_4 ?_
  intro v u hq
  obtain ⟨rfl, rfl⟩ := hq
  refine g_astore_nN (pc := 7) rfl [(0, .ref (gAd E 1)), (1, .null)] dX6_undo_7 (by decide) rfl rfl ?_
  refine g_aload_nN (pc := 8) 1 rfl rfl dX6_undo_8 ?_
  refine g_ifnonnullN (pc := 9) dX6_undo_9 ?_
  refine g_bipush (pc := 12) ((-2)) (by decide) dX6_undo_12 ?_
  exact g_iret (pc := 14) rfl dX6_undo_14 ⟨rfl, rfl⟩
theorem cO_of {M u : gMem} {b : Nat} (hO : cO M b) (hb : 0 < b) (h : ∀ a z, b ≤ a → u.1 a z = M.1 a z) : cO u b := by
  have e1 : cV u b = cV M b := by
    funext i w
    simp only [cV, oV]
    have q : ∀ z, u.1 (b + 3 + i) z = M.1 (b + 3 + i) z := fun z => h _ z (by omega)
    split <;> simp only [q]
  have e2 : cH u b = cH M b := by
    funext i w
    exact h _ w (by omega)
  unfold cO
  rw [e1, e2, h b 1 (Nat.le_refl _), h b 3 (Nat.le_refl _), h b 4 (Nat.le_refl _), h b 5 (Nat.le_refl _)]
  exact hO
set_option maxRecDepth 100000 in
set_option maxHeartbeats 4000000 in
theorem kX6_undo_ok (l : Launch) (E : gEnv) (M : gMem) (b b' : Nat) (hS : cS E M b b') (hO : cO M b) (hsg : M.1 1 5 < 1024) (hz : M.1 5 1 ≤ 6) (hz0 : 0 < M.1 5 1) (he0 : M.1 (M.2 6 (M.1 5 1 - 1)) 0 < 1024) (he1 : M.1 (M.2 6 (M.1 5 1 - 1)) 1 < M.1 b 1) : gMet l E mX6_undo 1 [.ref (gAd E 1)] M (fun v u => v = some (.int (nI (M.1 5 1 - 1))) ∧ u = gU (gU (gU M 5 1 (M.1 5 1 - 1)) 1 5 (M.1 (M.2 6 (M.1 5 1 - 1)) 0)) (b + 3 + (M.1 (M.2 6 (M.1 5 1 - 1)) 1)) 7 (M.1 (M.2 6 (M.1 5 1 - 1)) 2)) := by
  have hB := hS.B
  have hO' := hO
  obtain ⟨hn, hk, hft, hto, hU, hH⟩ := hO
  have hO := hO'
  have hbb := hS.2.2.2.2.1
  have hch := (hOk_of hS).1 (M.1 5 1 - 1) (by omega)
  have hcs := chs hS.1 (hOk_of hS) (c := M.1 5 1 - 1) (by omega)
  have hc5 : M.2 6 (M.1 5 1 - 1) ≠ 5 := by omega
  have hc1 : M.2 6 (M.1 5 1 - 1) ≠ 1 := by omega
  have eb : ∀ z, (gU (gU M 5 1 (M.1 5 1 - 1)) 1 5 (M.1 (M.2 6 (M.1 5 1 - 1)) 0)).1 b z = M.1 b z := fun z => by rw [gU_o (by omega), gU_o (by omega)]
  have hO2 : cO (gU (gU M 5 1 (M.1 5 1 - 1)) 1 5 (M.1 (M.2 6 (M.1 5 1 - 1)) 0)) b := cO_of hO (by have := hS.2.2.2.2.1; omega) (fun a z ha => by rw [gU_o (by omega), gU_o (by omega)])
  have hsg2 : (gU (gU M 5 1 (M.1 5 1 - 1)) 1 5 (M.1 (M.2 6 (M.1 5 1 - 1)) 0)).1 1 5 < 1024 := by rw [gU_s]; exact he0
  have hx : inR (nI (M.1 (M.2 6 (M.1 5 1 - 1)) 1)) (M.1 b 1) = true := by rw [inR_nI (by omega)]; exact decide_eq_true he1
  refine gMet_of (mm := mX6_undo) (h := 1) (M := M) [(0, .ref (gAd E 1))] (by decide) (Nat.le_of_ble_eq_true rfl) rfl ?_
  refine g_aload_n (pc := 0) 0 rfl rfl dX6_undo_0 ?_
  refine fX6_33 (pc := 1) 5 rfl hS.s1 hS.rh (by decide) dX6_undo_1 ?_
  refine g_callV (pc := 4) (mc := mX2_takeLatest) (rest := []) lX6_105 iX2_takeLatest (kX2_takeLatest l E M hS.1 (hOk_of hS) hS.rc hz hz0) ⟨Nat.le_of_ble_eq_true rfl, Nat.le_of_ble_eq_true rfl⟩ hS.s5 (by decide) (by decide) rfl rfl rfl rfl (Nat.le_of_ble_eq_true rfl) ⟨Nat.zero_le _, Nat.zero_le _⟩ dX6_undo_4 ?_
  intro v u hq
  obtain ⟨rfl, rfl⟩ := hq
  refine g_astore_n (pc := 7) rfl [(0, .ref (gAd E 1)), (1, .ref (gAd E (M.2 6 (M.1 5 1 - 1))))] dX6_undo_7 (by decide) rfl rfl ?_
  refine g_aload_n (pc := 8) 1 rfl rfl dX6_undo_8 ?_
  refine g_ifnonnull (pc := 9) 15 dX6_undo_9 (by decide) ?_
  refine g_aload_n (pc := 15) 0 rfl rfl dX6_undo_15 ?_
  refine g_aload_n (pc := 16) 1 rfl rfl dX6_undo_16 ?_
  refine fX6_109 (pc := 17) rfl hcs dX6_undo_17 ?_
  refine g_topi (pc := 20) (x' := nI (M.1 (M.2 6 (M.1 5 1 - 1)) 0)) (by simp [gU, hc5, hc1, Ne.symm hc5]) ?_
  refine uX6_63 (pc := 20) rfl hS.s1 dX6_undo_20 ?_
  refine g_aload_n (pc := 23) 0 rfl rfl dX6_undo_23 ?_
  refine g_aload_n (pc := 24) 1 rfl rfl dX6_undo_24 ?_
  refine fX6_112 (pc := 25) rfl hcs dX6_undo_25 ?_
  refine g_topi (pc := 28) (x' := nI (M.1 (M.2 6 (M.1 5 1 - 1)) 1)) (by simp [gU, hc5, hc1, Ne.symm hc5]) ?_
  refine g_callV (pc := 28) (mc := mX6_isOffer) (rest := []) lX6_69 iX6_isOffer (kX6_isOffer l E (gU (gU M 5 1 (M.1 5 1 - 1)) 1 5 (M.1 (M.2 6 (M.1 5 1 - 1)) 0)) b b' hS hO2 hsg2 (nI (M.1 (M.2 6 (M.1 5 1 - 1)) 1))) ⟨Nat.le_of_ble_eq_true rfl, Nat.le_of_ble_eq_true rfl⟩ hS.s1 (by decide) (by decide) rfl rfl rfl rfl (Nat.le_of_ble_eq_true rfl) ⟨Nat.zero_le _, Nat.zero_le _⟩ dX6_undo_28 (g_rI ?_)
  refine g_ifB_eq (pc := 31) 53 dX6_undo_31 (by decide) (fun h31 => absurd h31 (by rw [eb, hx]; decide)) (fun h31 => ?_)
  refine g_aload_n (pc := 34) 0 rfl rfl dX6_undo_34 ?_
  refine fX6_23 (pc := 35) b rfl hS.s1 hS.rb hS.b0 dX6_undo_35 ?_
  refine fX6_93 (pc := 38) (b + 1) rfl hB.1.1 hB.1.2.2.2.2.2.1 (by omega) dX6_undo_38 ?_
  refine g_aload_n (pc := 41) 1 rfl rfl dX6_undo_41 ?_
  refine fX6_112 (pc := 42) rfl hcs dX6_undo_42 ?_
  refine g_topi (pc := 45) (x' := nI (M.1 (M.2 6 (M.1 5 1 - 1)) 1)) (by simp [gU, hc5, hc1, Ne.symm hc5]) ?_
  refine g_aaload (pc := 45) (t0 := 2) (r := (b + 3 + (M.1 (M.2 6 (M.1 5 1 - 1)) 1))) hB.1.2.1 (by decide) rfl (by rw [hB.1.2.2.1]; omega) (by rw [hB.1.2.2.1]; omega) (hB.2.1 (M.1 (M.2 6 (M.1 5 1 - 1)) 1) (by omega)).2 (by omega) dX6_undo_45 ?_
  refine g_aload_n (pc := 46) 1 rfl rfl dX6_undo_46 ?_
  refine fX6_115 (pc := 47) rfl hcs dX6_undo_47 ?_
  refine g_topi (pc := 50) (x' := nI (M.1 (M.2 6 (M.1 5 1 - 1)) 2)) (by simp [gU, hc5, hc1, Ne.symm hc5]) ?_
  refine uX6_97 (pc := 50) rfl (hB.2.1 (M.1 (M.2 6 (M.1 5 1 - 1)) 1) (by omega)).1 dX6_undo_50 ?_
  refine g_aload_n (pc := 53) 0 rfl rfl dX6_undo_53 ?_
  refine fX6_33 (pc := 54) 5 rfl hS.s1 hS.rh (by decide) dX6_undo_54 ?_
  refine fX6_116 (pc := 57) rfl hS.s5 dX6_undo_57 ?_
  refine g_topi (pc := 60) (x' := nI (M.1 5 1 - 1)) (by simp [gU, hc5, hc1, Ne.symm hc5]) ?_
  exact g_iret (pc := 60) rfl dX6_undo_60 ⟨rfl, rfl⟩
