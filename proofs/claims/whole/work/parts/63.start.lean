/-! the law's beginning -/
theorem gK_E {E E1 : gEnv} {s : State} (h : gK E s) (hb : gBs E1 = gBs E) (hd : gD E1 = gD E) (hc : gC E1 = gC E) : gK E1 s := by
  unfold gK gTy gSt gA at h ⊢
  rw [hd, hc, hb]
  exact h
section start
variable {p : Program} {l : Launch} {e : Env} {s : State} {m : MethodId} {below : List Frame} {meth : Method} {c : Code} {b L : Nat} {xs : Nat → Int32} {E : gEnv} {M : gMem} {H : Heap} {locs : List Loc} {ls : Array Slot} {pc k n : Nat} {st rest As : List Value} {Qw : State → Prop}
theorem gw_new {index N : Nat} {C : String} {T : u_T} (r kd : Nat) (ty : Nat → FieldType) (C0 : lw_At p s m meth c b L xs) (hB : gBs E ≤ s.heap.size) (hK : gK E s) (hq : vwCl[kd - 1]? = some (C, T, N)) (h8 : kd ≤ 8) (hin : ∀ w ∈ u_ws C T N, w ∈ gT) (hty : ∀ k, k < N → parseFieldDescriptor (T k).2.2.1 = some (ty k)) (hcl : Cond.classLink RL index C ∈ gT) (hins : Cond.instantiable C N ∈ gT) (hini : Cond.initialized C ∈ gT)
    (hfs : ∀ j, j < N → defaultValue (ty j) = vp_V (gZf kd) j) (hr : gSh E r = 0) (hm : ∀ c k, M.2 c k ≠ r) (hcs : k + 1 ≤ room_1.cells ∧ n + N ≤ room_1.slots) (d : decode code pc = .ok (.new index, 3)) (hD : gDesc E M H) (hS : va_S (gA E) s.heap H locs)
    (kk : ∀ (a : Nat) (H1 : Heap), gDesc (gX E r a kd 0) (gZr M r) H1 → va_S (gA E) s.heap H1 locs → W p l e room_1 s m #[Value.ref b] below meth c H1 locs (k + 1) (n + N) Qw (F0 m (pc + 3) ls (.ref a :: st))) : W p l e room_1 s m #[Value.ref b] below meth c H locs k n Qw (F0 m pc ls st) := by
  obtain ⟨hx, hb, hr', hml, hown, hts, hX, hbl, hlocks, hgv⟩ := C0
  have hts : ∀ w ∈ gT, w.before #[Value.ref b] s = true := fun w hw => hts w (List.mem_filter.mp hw).1
  have hKn := hK.1.1 (kd - 1) _ hq
  refine W.newcK hx hb hown (hts _ hcl) (hts _ hins) (hts _ hini) rfl d hcs.1 hcs.2 hKn.2.1 rfl fun H1 kC hkC e1 z1 o1 => ?_
  refine kk H.size H1 ?_ ⟨Nat.le_trans hS.1 (by omega), fun x h1 h2 => (o1 x (Nat.lt_of_lt_of_le h1 hS.1)).trans (hS.2.1 x h1 h2), hS.2.2⟩
  refine gX_desc hD hr hm rfl o1 (Nat.le_trans hB hS.1) ?_
  rw [gEnt_o gX_sr h8]
  exact ⟨_, hq, (u_born ty hts hin hKn hkC e1 hty).to (fun j hj => by rw [hfs j hj, gFs_new])⟩
theorem gw_init {mc : gY} {n' h' idx a kc ks : Nat} {Q' : gEnv → gMem → Prop} (C0 : lw_At p s m meth c b L xs) (hB : gBs E ≤ s.heap.size) (hK : gK E s) (hl : Cond.methodLink RL idx mc.1 ∈ gT) (hi : gInf mc n' ∧ Cond.instanceMethod mc.1 ∈ gT) (hret : mc.2.2.2 = none) (hnm : mc.1.name = "<init>") (hM : gMx l E mc h' kc ks (.ref a :: As) M Q') (hR : h' + 1 ≤ room_1.frames ∧ 8 + (mc.2.2.1 + 11) + 40 * h' ≤ room_1.locals)
    (hn : As.length = n') (hst : st = As.reverse ++ .ref a :: rest) (hW : (rest.map fun v => v.category).sum ≤ 8) (hcs : k + kc ≤ room_1.cells ∧ n + ks ≤ room_1.slots) (d : decode code pc = .ok (.invokespecial idx, 3)) (hD : gDesc E M H) (hS : va_S (gA E) s.heap H locs) (hls : ls.size = 4)
    (kk : ∀ (E1 : gEnv) (u : gMem) (H1 : Heap) (locs1 : List Loc), Q' E1 u → gBs E1 = gBs E → gD E1 = gD E → gC E1 = gC E → gDesc E1 u H1 → va_S (gA E) s.heap H1 locs1 → W p l e room_1 s m #[Value.ref b] below meth c H1 locs1 (k + kc) (n + ks) Qw (F0 m (pc + 3) ls rest)) : W p l e room_1 s m #[Value.ref b] below meth c H locs k n Qw (F0 m pc ls st) := by
  obtain ⟨hx, hb, hr', hml, hown, hts, hX, hbl, hlocks, hgv⟩ := C0
  have hts : ∀ w ∈ gT, w.before #[Value.ref b] s = true := fun w hw => hts w (List.mem_filter.mp hw).1
  have hc := gCallBx (mm := mL) (R := room_1) (kc := kc) (ks := ks) hts hi.1 hl hR
  rw [hret] at hc
  exact g_backX (va_runI (As := As) (rest := rest) (b := a) ⟨hx, hb, hml, hown, hts⟩ hM ⟨hc, hnm, hts _ hi.2⟩ ⟨gPc_blind _ _ _, gPre hD hK hS hB⟩ rfl hn hls hst (g_rm hW) d hcs) hS kk
end start
theorem ar_of {s : State} {cA comp : ClassId} {kA : Class} {ty : FieldType} (h2 : s.vm.classes[cA]? = some kA) (h3 : kA.kind = .array comp ty) : ArrOfT s cA ty := fun n z => ⟨fun k h => (by cases h), kA, h2, comp, h3⟩
theorem tx_in : ∀ j, j < 131 → (Cond.eq (.elem (.field (.string RX6 37) "java/lang/String" "value" "[B") (.int (Int32.ofNat j))) (.int (sBy.getD j 0))) ∈ flatC (Jvm.Cond.and given_1 narrow_1) := by decide +kernel
theorem start_env {s : State} {b : Nat} (hts : ∀ w ∈ lw_tbl, w.before #[Value.ref b] s = true) (hgv : (Jvm.Cond.and given_1 narrow_1).before #[Value.ref b] s = true) : ∃ E : gEnv, gBs E = s.heap.size ∧ gK E s ∧ ∀ c, gSh E c = 0 := by
  have htg : ∀ w ∈ gT, w.before #[Value.ref b] s = true := fun w hw => hts w (List.mem_filter.mp hw).1
  have hg := flat_of_before _ hgv
  obtain ⟨c0, i0, k0⟩ := u_known (C := RX0) (T := TX0) (N := 6) (n := 6) htg wsX0 (htg _ wI0)
  obtain ⟨c1, i1, k1⟩ := u_known (C := RX1) (T := TX1) (N := 3) (n := 3) htg wsX1 (htg _ wI1)
  obtain ⟨c2, i2, k2⟩ := u_known (C := RX2) (T := TX2) (N := 2) (n := 2) htg wsX2 (htg _ wI2)
  obtain ⟨c3, i3, k3⟩ := u_known (C := RX3) (T := TX3) (N := 3) (n := 3) htg wsX3 (htg _ wI3)
  obtain ⟨c4, i4, k4⟩ := u_known (C := RX4) (T := TX4) (N := 8) (n := 8) htg wsX4 (htg _ wI4)
  obtain ⟨c5, i5, k5⟩ := u_known (C := RX5) (T := TX5) (N := 1) (n := 1) htg wsX5 (htg _ wI5)
  obtain ⟨c6, i6, k6⟩ := u_known (C := RX6) (T := TX6) (N := 7) (n := 7) htg wsX6 (htg _ wI6)
  obtain ⟨c7, i7, k7⟩ := u_known (C := RX7) (T := TX7) (N := 22) (n := 22) htg wsX7 (htg _ wI7)
  obtain ⟨d9, q9, m9, f9, g9, h9⟩ := Cond.arrayClass_spec (htg _ aC_i)
  obtain ⟨d10, q10, m10, f10, g10, h10⟩ := Cond.arrayClass_spec (htg _ aC_c)
  obtain ⟨m11, d11, q11, e11, -, g11, h11, f11⟩ := Cond.arrayOver_spec (htg _ aO_4)
  obtain ⟨m12, d12, q12, e12, -, g12, h12, f12⟩ := Cond.arrayOver_spec (htg _ aO_3)
  obtain ⟨m13, d13, q13, e13, -, g13, h13, f13⟩ := Cond.arrayOver_spec (htg _ aO_1)
  have hA : ∀ a : Nat, a < s.heap.size → ¬ (fun q : Nat => s.heap.size ≤ q) a := fun a h => Nat.not_le.mpr h
  have zi : ∀ i : Nat, i < 1 → i = 0 := fun i hi => by omega
  obtain ⟨adK, adV, hvS, hvE⟩ := vk_Sof (args := #[Value.ref b]) (s := s) (N := 1) (tm := fun _ => Term.string RX6 37) (len := [131]) (byt := [sBy]) (A := fun q : Nat => s.heap.size ≤ q) (fun i hi => by rw [zi i hi]; decide) (fun i hi => hg _ (by decide +kernel)) (fun i hi => hg _ (by decide +kernel)) (fun i hi => hg _ (by decide +kernel)) (fun i hi => by rw [zi i hi]; exact hg _ (by decide +kernel)) (fun i hi j hj => by rw [zi i hi] at hj ⊢; exact hg _ (tx_in j hj)) (fun i j hi hj h => absurd ((zi i hi).trans (zi j hj).symm) h) hA
  refine ⟨(fun _ => 0, fun _ => 0, fun _ => 0, s.heap.size, (fun k => if k = 0 then c0 else if k = 1 then c1 else if k = 2 then c2 else if k = 3 then c3 else if k = 4 then c4 else if k = 5 then c5 else if k = 6 then c6 else c7, fun k => if k = 0 then i0 else if k = 1 then i1 else if k = 2 then i2 else if k = 3 then i3 else if k = 4 then i4 else if k = 5 then i5 else if k = 6 then i6 else i7), fun k => if k = 9 then d9 else if k = 10 then d10 else if k = 11 then d11 else if k = 12 then d12 else if k = 13 then d13 else if k = 20 then adK 0 else adV 0), rfl, ⟨⟨?_, ?_⟩, ?_, ?_, ?_, ?_⟩, fun _ => rfl⟩
  · intro k q hq
    match k, hq with
    | 0, hq => cases hq; exact k0
    | 1, hq => cases hq; exact k1
    | 2, hq => cases hq; exact k2
    | 3, hq => cases hq; exact k3
    | 4, hq => cases hq; exact k4
    | 5, hq => cases hq; exact k5
    | 6, hq => cases hq; exact k6
    | 7, hq => cases hq; exact k7
    | k + 8, hq => simp at hq
  · intro k q hq
    match k, hq with
    | 0, hq => cases hq; exact ⟨ar_of g9 h9, f9⟩
    | 1, hq => cases hq; exact ⟨ar_of g10 h10, f10⟩
    | 2, hq => cases hq; exact ⟨ar_of g11 h11, q11, m11, g11, h11, e11, f11⟩
    | 3, hq => cases hq; exact ⟨ar_of g12 h12, q12, m12, g12, h12, e12, f12⟩
    | 4, hq => cases hq; exact ⟨ar_of g13 h13, q13, m13, g13, h13, e13, f13⟩
    | k + 5, hq => simp [gTy] at hq
  · exact vk_R.of (hts _ (List.mem_of_getElem? (i := 204) (by decide +kernel))) (hvE 0 (by decide))
  · exact ⟨fun i hi => by rw [zi i hi]; exact hvS.1 0 (by decide), fun i j hi hj _ => (zi i hi).trans (zi j hj).symm⟩
  · exact va_Zof (hts _ (List.mem_of_getElem? (i := 214) (by decide +kernel))) (hts _ (List.mem_of_getElem? (i := 50) (by decide +kernel))) (va_eqi (hg _ (by decide +kernel))) hA
  · exact va_Zqof (hts _ (List.mem_of_getElem? (i := 230) (by decide +kernel))) (hts _ (List.mem_of_getElem? (i := 52) (by decide +kernel))) (hg _ (by decide +kernel)) hA
theorem whole_start {p : Program} {e : Env} {s : State} {m : MethodId} {below : List Frame} {meth : Method} {c : Code} (l : Launch) (hflags : l.flags = flags0) {b L : Nat} {xs : Nat → Int32} (hL : L ≤ 3072) (C0 : lw_At p s m meth c b L xs) : W p l e room_1 s m #[Value.ref b] below meth c s.heap [] 0 0 (lw_Z below #[Value.ref b] s) (entryFrame m ([Value.ref b] : List Value).toArray 4) := by
  obtain ⟨hx, hb, hr, hml, hown, hts, hX, hbl, hlocks, hgv⟩ := id C0
  obtain ⟨E0, hB0, hK0, hZ0⟩ := start_env hts hgv
  have hB : ∀ E : gEnv, gBs E = gBs E0 → gBs E ≤ s.heap.size := fun E h => by rw [h, hB0]; exact Nat.le_refl _
  have hD0 : gDesc E0 (fun _ _ => 0, fun _ _ => 0) s.heap := ⟨fun a b h => absurd (hZ0 a) h, fun a h => absurd (hZ0 a) h, fun a h => absurd (hZ0 a) h⟩
  have hS0 : va_S (gA E0) s.heap s.heap [] := va_S.rf
  have hl := lv_entry ([.ref b]) (n := 4) (Nat.le_of_ble_eq_true rfl)
  rw [lg_entry_eq]
  generalize (lg_sl ([.ref b]) ++ List.replicate (4 - (lg_sl ([.ref b])).length) Slot.unset).toArray = ls at hl ⊢
  have hl : lv_has ls 4 [(0, .ref b)] := hl
  refine gw_new (pc := 0) 1 7 tyX6 C0 (hB _ rfl) hK0 rfl (by decide) wsX6 tyX6_ok wNL6 wI6 iX6_init.1.1 (by decide) (hZ0 1) (fun _ _ h => by cases h) ⟨Nat.le_of_ble_eq_true rfl, Nat.le_of_ble_eq_true rfl⟩ dL_law_0 hD0 hS0 (fun a1 H1 hD1 hS1 => ?_)
  refine lv_dup hx hb dL_law_3 rfl ?_
  have k6 := kX6_init l (gX E0 1 a1 7 0) (gZr (fun _ _ => 0, fun _ _ => 0) 1) gX_sr (fun c hc => by rw [gX_so hc]; exact hZ0 c) (gZ1 (fun _ _ => rfl)) (fun c k => by show (if c = 1 then 0 else 0) = 0; exact ite_self _)
  rw [gX_ar] at k6
  refine gw_init (E := gX E0 1 a1 7 0) (pc := 4) (mc := mX6_init) (As := []) (rest := [.ref a1]) C0 (hB _ rfl) (gK_E hK0 rfl rfl rfl) lL_9 iX6_init rfl rfl k6 ⟨Nat.le_of_ble_eq_true rfl, Nat.le_of_ble_eq_true rfl⟩ rfl rfl (Nat.le_of_ble_eq_true rfl) ⟨Nat.le_of_ble_eq_true rfl, Nat.le_of_ble_eq_true rfl⟩ dL_law_4 hD1 hS1 hl.1 (fun E2 u2 H2 locs2 q2 b2 d2 c2 hD2 hS2 => ?_)
  obtain ⟨le2, o2, cs2, wf2, ⟨sb, br2, ok2, ae2⟩, x11, x15, x51, x4⟩ := q2
  have ad1 : gAd E2 1 = a1 := (le2.1 1 (by rw [gX_sr]; decide)).trans gX_ar
  have hS2 : va_S (gA E2) s.heap H2 locs2 := by have e : gA E2 = gA E0 := by unfold gA; rw [b2]; rfl
                                                rw [e]; exact hS2
  refine lv_astore_n (lv' := [(1, .ref a1), (0, .ref b)]) hx hb dL_law_7 rfl hl (by decide) rfl (fun ls hl => ?_)
  have z60 : gSh E2 60 = 0 := o2 60 (by decide)
  refine gw_new (pc := 8) 60 8 tyX7 C0 (hB _ b2) (gK_E hK0 b2 d2 c2) rfl (by decide) wsX7 tyX7_ok wNL7 wI7 iX7_init.1.1 (by decide) z60 (wf_ne wf2 z60 (by decide)) ⟨Nat.le_of_ble_eq_true rfl, Nat.le_of_ble_eq_true rfl⟩ dL_law_8 hD2 hS2 (fun a2 H3 hD3 hS3 => ?_)
  refine lv_dup hx hb dL_law_11 rfl ?_
  have k7 := kX7_init l (gX E2 60 a2 8 0) (gZr u2 60) gX_sr (fun c hc => by rw [gX_so (by omega)]; exact o2 c (by omega)) (wf_new wf2 z60 (by decide)) (fun k => rfl)
  rw [gX_ar] at k7
  refine gw_init (E := gX E2 60 a2 8 0) (pc := 12) (mc := mX7_init) (As := []) (rest := [.ref a2]) C0 (hB _ b2) (gK_E hK0 b2 d2 c2) lL_12 iX7_init rfl rfl k7 ⟨Nat.le_of_ble_eq_true rfl, Nat.le_of_ble_eq_true rfl⟩ rfl rfl (Nat.le_of_ble_eq_true rfl) ⟨Nat.le_of_ble_eq_true rfl, Nat.le_of_ble_eq_true rfl⟩ dL_law_12 hD3 hS3 hl.1 (fun E4 w H4 locs4 q4 b4 d4 c4 hD4 hS4 => ?_)
  obtain ⟨le4, s4, r4, hR4, w0, hw, hm, f0, y1, y8⟩ := q4
  have b4' : gBs E4 = gBs E0 := b4.trans b2
  have d4' : gD E4 = gD E0 := d4.trans d2
  have c4' : gC E4 = gC E0 := c4.trans c2
  have hS4 : va_S (gA E4) s.heap H4 locs4 := by have e : gA E4 = gA E2 := by unfold gA; rw [b4]; rfl
                                                rw [e]; exact hS4
  have ad60 : gAd E4 60 = a2 := (le4.1 60 (by rw [gX_sr]; decide)).trans gX_ar
  have ad41 : gAd E4 1 = a1 := ((le4.1 1 (by rw [gX_so (by decide), cs2.s1]; decide)).trans (gX_ao (by decide))).trans ad1
  have hrel : rel E4 w 40 20 := rel_first cs2 br2 ok2 ae2 x11 x15 x51 x4 (fun c hc => ⟨(s4 c hc).1.trans (gX_so (by omega)), (s4 c hc).2.trans (gX_lo (by omega))⟩) (fun c k hc => by rw [r4 c k (by omega), gZ2 wf2 z60]) hR4 hw hm (fun c k hc => by rw [f0 c k hc]; show (if c = 60 then 0 else u2.1 c k) = _; exact if_neg (by omega)) y1 y8
  refine lv_astore_n (lv' := [(2, .ref a2), (1, .ref a1), (0, .ref b)]) hx hb dL_law_15 rfl hl (by decide) rfl (fun ls hl => ?_)
  refine lv_iconst (v := nI 0) hx hb dL_law_16 (by decide) ?_
  refine lv_istore_n (lv' := [(3, .int (nI 0)), (2, .ref a2), (1, .ref a1), (0, .ref b)]) hx hb dL_law_17 rfl hl (by decide) rfl (fun ls hl => ?_)
  refine W.widen (k := 600000) (n := 7302250) (Nat.le_of_ble_eq_true rfl) (Nat.le_of_ble_eq_true rfl) ?_
  refine law_loop (E := E4) hL C0 (b4'.trans hB0) (gK_E hK0 b4' d4' c4') (L + 1) 0 (Nat.zero_le _) (by omega) w 40 20 H4 locs4 ls hrel hD4 hS4 ?_
  rw [ad60, ad41]
  exact lv_sub hl [3, 2, 1, 0] rfl
