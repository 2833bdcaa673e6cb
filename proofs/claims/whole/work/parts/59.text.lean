/-! the String constant's own methods -/
def tL : List Nat := [116, 50, 44, 52, 56, 59, 111, 51, 44, 49, 44, 49, 44, 50, 44, 49, 48, 44, 49, 44, 52, 48, 59, 111, 51, 44, 51, 44, 50, 44, 50, 48, 44, 52, 48, 44, 48, 44, 50, 53, 59, 111, 54, 44, 49, 44, 50, 44, 51, 48, 44, 52, 56, 44, 49, 44, 51, 48, 59, 111, 49, 44, 50, 44, 49, 50, 44, 56, 44, 53, 49, 44, 48, 44, 57, 59, 111, 51, 50, 44, 49, 53, 44, 49, 53, 44, 50, 44, 52, 56, 44, 48, 44, 54, 48, 59, 111, 51, 53, 44, 49, 44, 52, 44, 49, 53, 44, 50, 48, 44, 48, 44, 49, 50, 59, 104, 49, 44, 48, 44, 49, 50, 59, 104, 50, 44, 48, 44, 50, 48, 59]
def tB (j : Nat) : Nat := tL.getD j 0
theorem tB_ch : ∀ j, j < 131 → (((sBy.getD j 0) &&& 255).toUInt32 % 65536).toInt32 = nI (tB j) ∧ tB j ≤ 126 ∧ narrow .char (.int (nI (tB j))) = .int (nI (tB j)) := by decide +kernel
theorem wJ0_9 : Cond.fieldLink RJ0 9 "java/lang/String" "value" "[B" ∈ gT := gT_in 879 (by decide +kernel) (by decide +kernel)
theorem wJ0_15 : Cond.fieldLink RJ0 15 "java/lang/String" "coder" "B" ∈ gT := gT_in 880 (by decide +kernel) (by decide +kernel)
theorem wJ0_38 : Cond.fieldLink RJ0 38 "java/lang/String" "COMPACT_STRINGS" "Z" ∈ gT := gT_in 213 (by decide +kernel) (by decide +kernel)
theorem wJ0_1053 : Cond.fieldLink RJ0 1053 "jdk/internal/util/Preconditions" "SIOOBE_FORMATTER" "Ljava/util/function/BiFunction;" ∈ gT := gT_in 229 (by decide +kernel) (by decide +kernel)
section gstr
variable {l : Launch} {V : gVt} {mm : gY} {E : gEnv} {cs : Nat × Nat} {M : gMem} {pc : Nat} {lv : List (Nat × Value)} {st rest As : List Value}
theorem g_ldcT (hm : mm.1.cls = RX6) (d : decode mm.2.1 pc = .ok (.ldc 37, 2)) (kk : gG l V mm E cs M (pc + 2) lv (.ref (gC E 20) :: st)) : gG l V mm E cs M pc lv st := by
  intro p e s m args below meth c H locs ls X hD hS hl2
  obtain ⟨hx, hb, hml, hown, hts, hr', hlk, hK, hB, hnm⟩ := id X
  exact va_ldcS hx hb (hm ▸ hown) hK.2.1 d (kk p e s m args below meth c H locs ls X hD hS hl2)
theorem g_valT (hm : mm.1.cls = RJ0) (d : decode mm.2.1 pc = .ok (.getfield 9, 3)) (kk : gG l V mm E cs M (pc + 3) lv (.ref (gC E 21) :: st)) : gG l V mm E cs M pc lv (.ref (gC E 20) :: st) := by
  intro p e s m args below meth c H locs ls X hD hS hl2
  obtain ⟨hx, hb, hml, hown, hts, hr', hlk, hK, hB, hnm⟩ := id X
  exact vk_getf hx hb (hK.2.2.1.1 0 (by decide)).2.2.1 hS (hm ▸ hown) (hts _ wJ0_9) (fun _ h => h) d (kk p e s m args below meth c H locs ls X hD hS hl2)
theorem g_codT (hm : mm.1.cls = RJ0) (d : decode mm.2.1 pc = .ok (.getfield 15, 3)) (kk : gG l V mm E cs M (pc + 3) lv (.int 0 :: st)) : gG l V mm E cs M pc lv (.ref (gC E 20) :: st) := by
  intro p e s m args below meth c H locs ls X hD hS hl2
  obtain ⟨hx, hb, hml, hown, hts, hr', hlk, hK, hB, hnm⟩ := id X
  exact vk_getf hx hb (hK.2.2.1.1 0 (by decide)).2.1 hS (hm ▸ hown) (hts _ wJ0_15) (fun _ h => h) d (kk p e s m args below meth c H locs ls X hD hS hl2)
theorem g_cstT (hm : mm.1.cls = RJ0) (d : decode mm.2.1 pc = .ok (.getstatic 38, 3)) (kk : gG l V mm E cs M (pc + 3) lv (.int 1 :: st)) : gG l V mm E cs M pc lv st := by
  intro p e s m args below meth c H locs ls X hD hS hl2
  obtain ⟨hx, hb, hml, hown, hts, hr', hlk, hK, hB, hnm⟩ := id X
  exact va_gets hx hb hK.2.2.2.1 hS (hm ▸ hown) (hts _ wJ0_38) (fun _ h => h) d (kk p e s m args below meth c H locs ls X hD hS hl2)
theorem g_fmtT (hm : mm.1.cls = RJ0) (d : decode mm.2.1 pc = .ok (.getstatic 1053, 3)) (kk : ∀ v : Value, (v = .null ∨ ∃ t, v = .ref t) → gG l V mm E cs M (pc + 3) lv (v :: st)) : gG l V mm E cs M pc lv st := by
  intro p e s m args below meth c H locs ls X hD hS hl2
  obtain ⟨hx, hb, hml, hown, hts, hr', hlk, hK, hB, hnm⟩ := id X
  rcases hK.2.2.2.2 with h | ⟨t, h⟩
  · exact va_gets hx hb h hS (hm ▸ hown) (hts _ wJ0_1053) (fun _ h => h) d (kk _ (Or.inl rfl) p e s m args below meth c H locs ls X hD hS hl2)
  · exact va_gets hx hb h hS (hm ▸ hown) (hts _ wJ0_1053) (fun _ h => h) d (kk _ (Or.inr ⟨t, rfl⟩) p e s m args below meth c H locs ls X hD hS hl2)
theorem g_lenT (d : decode mm.2.1 pc = .ok (.arraylength, 1)) (kk : gG l V mm E cs M (pc + 1) lv (.int (nI 131) :: st)) : gG l V mm E cs M pc lv (.ref (gC E 21) :: st) := by
  intro p e s m args below meth c H locs ls X hD hS hl2
  obtain ⟨hx, hb, hml, hown, hts, hr', hlk, hK, hB, hnm⟩ := id X
  exact va_tlen hx hb (hK.2.2.1.1 0 (by decide)).2.2.2 hS (v := nI 131) rfl d (kk p e s m args below meth c H locs ls X hD hS hl2)
theorem g_balT {j : Nat} (hj : j < 131) (d : decode mm.2.1 pc = .ok (.baload, 1)) (kk : gG l V mm E cs M (pc + 1) lv (.int (sBy.getD j 0) :: st)) : gG l V mm E cs M pc lv (.int (nI j) :: .ref (gC E 21) :: st) := by
  intro p e s m args below meth c H locs ls X hD hS hl2
  obtain ⟨hx, hb, hml, hown, hts, hr', hlk, hK, hB, hnm⟩ := id X
  exact va_tb hx hb (hK.2.2.1.1 0 (by decide)).2.2.2 hS (i := nI j) (vp_in_nI hj (by decide)) (v := .int (sBy.getD j 0)) (by rw [nI_clamp (by omega)]; rfl) d (kk p e s m args below meth c H locs ls X hD hS hl2)
theorem g_nret {h : Nat} {Q : Option Value → gMem → Prop} {r : Int32} {ty : FieldType} (hr : mm.2.2.2 = some ty) (hn : narrow ty (.int r) = .int r) (d : decode mm.2.1 pc = .ok (.ireturn, 1)) (hq : Q (some (.int r)) M) : gG l (gV0 h E Q) mm E (0, 0) M pc lv [.int r] := by
  intro p e s m args below meth c H locs ls X hD hS hl2
  exact W.zret (v := r) X.1 X.2.1 (X.2.2.2.2.2.1.trans hr) hn (fun t ht hW => ⟨⟨_, M, rfl, hq, by rw [ht]; exact hD⟩, hS.F ht⟩) hS.2.2 d X.2.2.2.2.2.2.1
theorem g_callT {mc : gY} {n h' idx : Nat} {Q' : Option Value → gMem → Prop} (hl : Cond.methodLink mm.1.cls idx mc.1 ∈ gT) (hi : gInfV mc n) (hM : gMet l E mc h' (.ref (gC E 20) :: As) M Q') (hR : h' + 1 ≤ V.1.frames ∧ 8 + (mc.2.2.1 + 11) + 40 * h' ≤ V.1.locals)
    (hq : "java/lang/String" = mc.1.cls) (hn : As.length = n) (hst : st = As.reverse ++ .ref (gC E 20) :: rest) (hW : (rest.map fun v => v.category).sum ≤ 8) (hcs : cs.1 ≤ V.1.cells ∧ cs.2 ≤ V.1.slots) (d : decode mm.2.1 pc = .ok (.invokevirtual idx, 3))
    (kk : ∀ v u, Q' v u → gG l V mm E cs u (pc + 3) lv (v.toList ++ rest)) : gG l V mm E cs M pc lv st := by
  intro p e s m args below meth c H locs ls X hD hS hl2
  obtain ⟨hx, hb, hml, hown, hts, hr, hlk, hK, hB, hnm⟩ := X
  refine g_back (va_runV (As := As) (rest := rest) (C := mc.1.cls) (b := gC E 20) ⟨hx, hb, hml, hown, hts⟩ hM ⟨gCallB hts hi.1 hl hR, hts _ hi.2.1, hts _ hi.2.2⟩ ⟨gPc_blind _ _ _, by rw [← hq]; exact vk_recv hK.2.2.1 (i := 0) (by decide) hS, gPre hD hK hS hB⟩ rfl hn hl2.1 hst (g_rm hW) d hcs) hS (fun v u H1 locs1 h1 h2 h3 => ?_)
  exact kk v u h1 p e s m args below meth c H1 locs1 ls ⟨hx, hb, hml, hown, hts, hr, hlk, hK, hB, hnm⟩ h2 h3 hl2
end gstr
theorem kJ0_coder (l : Launch) (E : gEnv) (M : gMem) : gMetI l E mJ0_coder_7d493 0 [.ref (gC E 20)] M 0 := by
  refine gMet_of (mm := mJ0_coder_7d493) (h := 0) (M := M) [(0, .ref (gC E 20))] (by decide) (Nat.le_of_ble_eq_true rfl) rfl ?_
  refine g_cstT (pc := 0) rfl dJ0_coder_7d493_0 ?_
  refine g_if_eq (pc := 3) 13 dJ0_coder_7d493_3 (by decide) (fun h => absurd h (by decide)) (fun _ => ?_)
  refine g_aload_n (pc := 6) 0 rfl rfl dJ0_coder_7d493_6 ?_
  refine g_codT (pc := 7) rfl dJ0_coder_7d493_7 ?_
  refine g_goto (pc := 10) 14 dJ0_coder_7d493_10 (by decide) ?_
  exact g_nret (pc := 14) (ty := .byte) rfl rfl dJ0_coder_7d493_14 ⟨rfl, rfl⟩
theorem kJ0_length (l : Launch) (E : gEnv) (M : gMem) : gMetI l E mJ0_length_8abf5 1 [.ref (gC E 20)] M (nI 131) := by
  refine gMet_of (mm := mJ0_length_8abf5) (h := 1) (M := M) [(0, .ref (gC E 20))] (by decide) (Nat.le_of_ble_eq_true rfl) rfl ?_
  refine g_aload_n (pc := 0) 0 rfl rfl dJ0_length_8abf5_0 ?_
  refine g_valT (pc := 1) rfl dJ0_length_8abf5_1 ?_
  refine g_lenT (pc := 4) dJ0_length_8abf5_4 ?_
  refine g_aload_n (pc := 5) 0 rfl rfl dJ0_length_8abf5_5 ?_
  refine g_callT (pc := 6) (mc := mJ0_coder_7d493) (rest := [.int (nI 131)]) lJ0_335 iJ0_coder_7d493 (kJ0_coder l E M) ⟨Nat.le_of_ble_eq_true rfl, Nat.le_of_ble_eq_true rfl⟩ rfl rfl rfl (Nat.le_of_ble_eq_true rfl) ⟨Nat.zero_le _, Nat.zero_le _⟩ dJ0_length_8abf5_6 (g_rI ?_)
  refine g_ishr (pc := 9) dJ0_length_8abf5_9 ?_
  refine g_topi (pc := 10) (x' := nI 131) (by decide) ?_
  exact g_iret (pc := 10) rfl dJ0_length_8abf5_10 ⟨rfl, rfl⟩
theorem kJ0_isLatin1 (l : Launch) (E : gEnv) (M : gMem) : gMetI l E mJ0_isLatin1_aae02 0 [.ref (gC E 20)] M 1 := by
  refine gMet_of (mm := mJ0_isLatin1_aae02) (h := 0) (M := M) [(0, .ref (gC E 20))] (by decide) (Nat.le_of_ble_eq_true rfl) rfl ?_
  refine g_cstT (pc := 0) rfl dJ0_isLatin1_aae02_0 ?_
  refine g_if_eq (pc := 3) 17 dJ0_isLatin1_aae02_3 (by decide) (fun h => absurd h (by decide)) (fun _ => ?_)
  refine g_aload_n (pc := 6) 0 rfl rfl dJ0_isLatin1_aae02_6 ?_
  refine g_codT (pc := 7) rfl dJ0_isLatin1_aae02_7 ?_
  refine g_if_ne (pc := 10) 17 dJ0_isLatin1_aae02_10 (by decide) (fun h => absurd rfl h) (fun _ => ?_)
  refine g_iconst (pc := 13) 1 (by decide) dJ0_isLatin1_aae02_13 ?_
  refine g_goto (pc := 14) 18 dJ0_isLatin1_aae02_14 (by decide) ?_
  exact g_nret (pc := 18) (ty := .boolean) rfl rfl dJ0_isLatin1_aae02_18 ⟨rfl, rfl⟩
theorem kJ3_checkIndex (l : Launch) (E : gEnv) (M : gMem) (i n : Nat) (hi : i < n) (hn : n < 2147483648) (v : Value) (hv : v = .null ∨ ∃ t, v = .ref t) : gMetI l E mJ3_checkIndex_8e157 0 [.int (nI i), .int (nI n), v] M (nI i) := by
  have body : ∀ v : Value, gG l (gV0 0 E (fun v u => v = some (.int (nI i)) ∧ u = M)) mJ3_checkIndex_8e157 E (0, 0) M 0 [(0, .int (nI i)), (1, .int (nI n)), (2, v)] [] := by
    intro v
    refine g_iload_n (pc := 0) 0 rfl rfl dJ3_checkIndex_8e157_0 ?_
    refine g_if_lt (pc := 1) 9 dJ3_checkIndex_8e157_1 (by decide) (fun h => absurd h (nI_pos (by omega))) (fun _ => ?_)
    refine g_iload_n (pc := 4) 0 rfl rfl dJ3_checkIndex_8e157_4 ?_
    refine g_iload_n (pc := 5) 1 rfl rfl dJ3_checkIndex_8e157_5 ?_
    refine g_icmpN_lt (pc := 6) 16 dJ3_checkIndex_8e157_6 (by decide) (by omega) (by omega) (fun _ => ?_) (fun h => absurd hi (by omega))
    refine g_iload_n (pc := 16) 0 rfl rfl dJ3_checkIndex_8e157_16 ?_
    exact g_iret (pc := 17) rfl dJ3_checkIndex_8e157_17 ⟨rfl, rfl⟩
  rcases hv with rfl | ⟨t, rfl⟩
  · exact gMet_of (mm := mJ3_checkIndex_8e157) (h := 0) (M := M) [(0, .int (nI i)), (1, .int (nI n)), (2, .null)] (by decide) (Nat.le_of_ble_eq_true rfl) rfl (body _)
  · exact gMet_of (mm := mJ3_checkIndex_8e157) (h := 0) (M := M) [(0, .int (nI i)), (1, .int (nI n)), (2, .ref t)] (by decide) (Nat.le_of_ble_eq_true rfl) rfl (body _)
theorem kJ0_checkIndex (l : Launch) (E : gEnv) (M : gMem) (i n : Nat) (hi : i < n) (hn : n < 2147483648) : gMetU l E mJ0_checkIndex_df160 1 [.int (nI i), .int (nI n)] M M := by
  refine gMet_of (mm := mJ0_checkIndex_df160) (h := 1) (M := M) [(0, .int (nI i)), (1, .int (nI n))] (by decide) (Nat.le_of_ble_eq_true rfl) rfl ?_
  refine g_iload_n (pc := 0) 0 rfl rfl dJ0_checkIndex_df160_0 ?_
  refine g_iload_n (pc := 1) 1 rfl rfl dJ0_checkIndex_df160_1 ?_
  refine g_fmtT (pc := 2) rfl dJ0_checkIndex_df160_2 (fun v hv => ?_)
  refine g_callS (pc := 5) (mc := mJ3_checkIndex_8e157) (rest := []) lJ0_1059 iJ3_checkIndex_8e157 (kJ3_checkIndex l E M i n hi hn v hv) ⟨Nat.le_of_ble_eq_true rfl, Nat.le_of_ble_eq_true rfl⟩ rfl rfl (Nat.le_of_ble_eq_true rfl) ⟨Nat.zero_le _, Nat.zero_le _⟩ dJ0_checkIndex_df160_5 (g_rI ?_)
  refine g_pop (pc := 8) rfl dJ0_checkIndex_df160_8 ?_
  exact g_vret (pc := 9) rfl dJ0_checkIndex_df160_9 ⟨rfl, rfl⟩
theorem kJ1_charAt (l : Launch) (E : gEnv) (M : gMem) (j : Nat) (hj : j < 131) : gMetI l E mJ1_charAt_3b067 2 [.ref (gC E 21), .int (nI j)] M (nI (tB j)) := by
  refine gMet_of (mm := mJ1_charAt_3b067) (h := 2) (M := M) [(0, .ref (gC E 21)), (1, .int (nI j))] (by decide) (Nat.le_of_ble_eq_true rfl) rfl ?_
  refine g_iload_n (pc := 0) 1 rfl rfl dJ1_charAt_3b067_0 ?_
  refine g_aload_n (pc := 1) 0 rfl rfl dJ1_charAt_3b067_1 ?_
  refine g_lenT (pc := 2) dJ1_charAt_3b067_2 ?_
  refine g_callS (pc := 3) (mc := mJ0_checkIndex_df160) (rest := []) lJ1_9 iJ0_checkIndex_df160 (kJ0_checkIndex l E M j 131 hj (by decide)) ⟨Nat.le_of_ble_eq_true rfl, Nat.le_of_ble_eq_true rfl⟩ rfl rfl (Nat.le_of_ble_eq_true rfl) ⟨Nat.zero_le _, Nat.zero_le _⟩ dJ1_charAt_3b067_3 (g_rU ?_)
  refine g_aload_n (pc := 6) 0 rfl rfl dJ1_charAt_3b067_6 ?_
  refine g_iload_n (pc := 7) 1 rfl rfl dJ1_charAt_3b067_7 ?_
  refine g_balT (pc := 8) hj dJ1_charAt_3b067_8 ?_
  refine g_sipush (pc := 9) 255 (by decide) dJ1_charAt_3b067_9 ?_
  refine g_iand (pc := 12) dJ1_charAt_3b067_12 ?_
  refine g_i2c (pc := 13) (nI (tB j)) (tB_ch j hj).1 dJ1_charAt_3b067_13 ?_
  exact g_nret (pc := 14) (ty := .char) rfl (tB_ch j hj).2.2 dJ1_charAt_3b067_14 ⟨rfl, rfl⟩
theorem kJ0_charAt (l : Launch) (E : gEnv) (M : gMem) (j : Nat) (hj : j < 131) : gMetI l E mJ0_charAt_5068e 3 [.ref (gC E 20), .int (nI j)] M (nI (tB j)) := by
  refine gMet_of (mm := mJ0_charAt_5068e) (h := 3) (M := M) [(0, .ref (gC E 20)), (1, .int (nI j))] (by decide) (Nat.le_of_ble_eq_true rfl) rfl ?_
  refine g_aload_n (pc := 0) 0 rfl rfl dJ0_charAt_5068e_0 ?_
  refine g_callT (pc := 1) (mc := mJ0_isLatin1_aae02) (rest := []) lJ0_492 iJ0_isLatin1_aae02 (kJ0_isLatin1 l E M) ⟨Nat.le_of_ble_eq_true rfl, Nat.le_of_ble_eq_true rfl⟩ rfl rfl rfl (Nat.le_of_ble_eq_true rfl) ⟨Nat.zero_le _, Nat.zero_le _⟩ dJ0_charAt_5068e_1 (g_rI ?_)
  refine g_if_eq (pc := 4) 16 dJ0_charAt_5068e_4 (by decide) (fun h => absurd h (by decide)) (fun _ => ?_)
  refine g_aload_n (pc := 7) 0 rfl rfl dJ0_charAt_5068e_7 ?_
  refine g_valT (pc := 8) rfl dJ0_charAt_5068e_8 ?_
  refine g_iload_n (pc := 11) 1 rfl rfl dJ0_charAt_5068e_11 ?_
  refine g_callS (pc := 12) (mc := mJ1_charAt_3b067) (rest := []) lJ0_495 iJ1_charAt_3b067 (kJ1_charAt l E M j hj) ⟨Nat.le_of_ble_eq_true rfl, Nat.le_of_ble_eq_true rfl⟩ rfl rfl (Nat.le_of_ble_eq_true rfl) ⟨Nat.zero_le _, Nat.zero_le _⟩ dJ0_charAt_5068e_12 (g_rI ?_)
  exact g_nret (pc := 15) (ty := .char) rfl (tB_ch j hj).2.2 dJ0_charAt_5068e_15 ⟨rfl, rfl⟩
