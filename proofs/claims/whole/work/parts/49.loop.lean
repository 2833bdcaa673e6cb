/-! THE LAW'S LOOP -/
def mL : gY := (yL_law, code, 4, ret)
theorem and31 (y : Int32) : ∃ k, k < 32 ∧ y &&& nI 31 = nI k := by
  refine ⟨y.toBitVec.toNat % 32, by omega, ?_⟩
  apply Int32.toBitVec_inj.1
  show y.toBitVec &&& BitVec.ofNat 32 31 = BitVec.ofNat 32 (y.toBitVec.toNat % 32)
  apply BitVec.eq_of_toNat_eq
  rw [BitVec.toNat_and, BitVec.toNat_ofNat, BitVec.toNat_ofNat, show 31 % 2 ^ 32 = 2 ^ 5 - 1 from rfl, Nat.and_two_pow_sub_one_eq_mod]
  omega
theorem sub6 : ∀ L, L < 6 → (nI L - nI 6).toInt < 0 := by decide
theorem more6 {i L : Nat} (hi : i ≤ L) (hL : L ≤ 3072) (h : ¬ nI i > nI L - nI 6) : i + 6 ≤ L := by
  have h1 := mt Int32.lt_iff_toInt_lt.mpr h
  rcases Nat.lt_or_ge L 6 with h2 | h2
  · have h3 := sub6 L h2
    rw [nI_toInt (show i < 2 ^ 31 by omega)] at h1
    omega
  · rw [pk_sub h2, nI_toInt (show L - 6 < 2 ^ 31 by omega), nI_toInt (show i < 2 ^ 31 by omega)] at h1
    omega
section loop
variable {p : Program} {l : Launch} {e : Env} {s : State} {m : MethodId} {below : List Frame} {meth : Method} {c : Code} {b L : Nat} {xs : Nat → Int32} {E : gEnv} {M : gMem} {H : Heap} {locs : List Loc} {ls : Array Slot} {pc : Nat} {st rest As : List Value} {Qw : State → Prop}
theorem gw_call {mc : gY} {n h' idx a kd : Nat} {q : vw_C} {Q' : Option Value → gMem → Prop} (C0 : lw_At p s m meth c b L xs) (hB : gBs E ≤ s.heap.size) (hK : gK E s) (hl : Cond.methodLink RL idx mc.1 ∈ gT) (hi : gInfV mc n) (hM : gMet l E mc h' (.ref (gAd E a) :: As) M Q') (hR : h' + 1 ≤ room_1.frames ∧ 8 + (mc.2.2.1 + 11) + 40 * h' ≤ room_1.locals)
    (hsh : gSh E a = kd) (h0 : kd ≠ 0) (h8 : kd ≤ 8) (hc : vwCl[kd - 1]? = some q) (hq : q.1 = mc.1.cls) (hn : As.length = n) (hst : st = As.reverse ++ .ref (gAd E a) :: rest) (hW : (rest.map fun v => v.category).sum ≤ 8) (d : decode code pc = .ok (.invokevirtual idx, 3)) (hD : gDesc E M H) (hS : va_S (gA E) s.heap H locs) (hls : ls.size = 4)
    (kk : ∀ (v : Option Value) (u : gMem) (H1 : Heap) (locs1 : List Loc), Q' v u → gDesc E u H1 → va_S (gA E) s.heap H1 locs1 → W p l e room_1 s m #[Value.ref b] below meth c H1 locs1 600000 7302250 Qw (F0 m (pc + 3) ls (v.toList ++ rest))) : W p l e room_1 s m #[Value.ref b] below meth c H locs 600000 7302250 Qw (F0 m pc ls st) := by
  obtain ⟨hx, hb, hr, hml, hown, hts, hX, hbl, hlocks, hgv⟩ := C0
  have hts : ∀ w ∈ gT, w.before #[Value.ref b] s = true := fun w hw => hts w (List.mem_filter.mp hw).1
  exact g_back (va_runV (As := As) (rest := rest) (C := mc.1.cls) (b := gAd E a) ⟨hx, hb, hml, hown, hts⟩ hM ⟨gCallB (mm := mL) hts hi.1 hl hR, hts _ hi.2.1, hts _ hi.2.2⟩ ⟨gPc_blind _ _ _, by rw [← hq]; exact gRecv hD hK hsh h0 h8 hc, gPre hD hK hS hB⟩ rfl hn hls hst (g_rm hW) d ⟨Nat.le_of_ble_eq_true rfl, Nat.le_of_ble_eq_true rfl⟩) hS kk
theorem gw_1 {mc md : gY} {n h' h2 idx : Nat} {av : List Value} (C0 : lw_At p s m meth c b L xs) (hB : gBs E ≤ s.heap.size) (hK : gK E s) (hl : Cond.methodLink RL idx mc.1 ∈ gT) (hi : gInfV mc n) (hM : gMet l E mc h' (.ref (gAd E 1) :: As) M (pEnd l E md h2 av)) (hR : h' + 1 ≤ room_1.frames ∧ 8 + (mc.2.2.1 + 11) + 40 * h' ≤ room_1.locals)
    (hsh : gSh E 1 = 7) (hq : RX6 = mc.1.cls) (hn : As.length = n) (hst : st = As.reverse ++ [.ref (gAd E 1)]) (d : decode code pc = .ok (.invokevirtual idx, 3)) (hD : gDesc E M H) (hS : va_S (gA E) s.heap H locs) (hls : ls.size = 4)
    (kk : ∀ (r : Int32) (u : gMem) (H1 : Heap) (locs1 : List Loc), gMet l E md h2 av u (fun v' w => v' = some (.int r) ∧ ∃ b b', rel E w b b') → gDesc E u H1 → va_S (gA E) s.heap H1 locs1 → W p l e room_1 s m #[Value.ref b] below meth c H1 locs1 600000 7302250 Qw (F0 m (pc + 3) ls [.int r])) : W p l e room_1 s m #[Value.ref b] below meth c H locs 600000 7302250 Qw (F0 m pc ls st) := by
  refine gw_call (rest := []) C0 hB hK hl hi hM hR hsh (by decide) (by decide) rfl hq hn hst (Nat.zero_le _) d hD hS hls (fun v u H1 locs1 q h1 h2 => ?_)
  obtain ⟨r, rfl, hm⟩ := q
  exact kk r u H1 locs1 hm h1 h2
theorem gw_2 {mc : gY} {n h' idx : Nat} {r : Int32} (C0 : lw_At p s m meth c b L xs) (hB : gBs E ≤ s.heap.size) (hK : gK E s) (hl : Cond.methodLink RL idx mc.1 ∈ gT) (hi : gInfV mc n) (hM : gMet l E mc h' (.ref (gAd E 60) :: As) M (fun v' w => v' = some (.int r) ∧ ∃ b b', rel E w b b')) (hR : h' + 1 ≤ room_1.frames ∧ 8 + (mc.2.2.1 + 11) + 40 * h' ≤ room_1.locals)
    (hsh : gSh E 60 = 8) (hq : RX7 = mc.1.cls) (hn : As.length = n) (hst : st = As.reverse ++ [.ref (gAd E 60), .int r]) (d : decode code pc = .ok (.invokevirtual idx, 3)) (hD : gDesc E M H) (hS : va_S (gA E) s.heap H locs) (hls : ls.size = 4)
    (kk : ∀ (u : gMem) (H1 : Heap) (locs1 : List Loc) (b1 b2 : Nat), rel E u b1 b2 → gDesc E u H1 → va_S (gA E) s.heap H1 locs1 → W p l e room_1 s m #[Value.ref b] below meth c H1 locs1 600000 7302250 Qw (F0 m (pc + 3) ls [.int r, .int r])) : W p l e room_1 s m #[Value.ref b] below meth c H locs 600000 7302250 Qw (F0 m pc ls st) := by
  refine gw_call (rest := [.int r]) C0 hB hK hl hi hM hR hsh (by decide) (by decide) rfl hq hn hst (Nat.le_of_ble_eq_true rfl) d hD hS hls (fun v u H1 locs1 q h1 h2 => ?_)
  obtain ⟨rfl, b1, b2, hrel⟩ := q
  exact kk u H1 locs1 b1 b2 hrel h1 h2
end loop
set_option maxHeartbeats 8000000 in
set_option maxRecDepth 100000 in
theorem law_loop {p : Program} {l : Launch} {e : Env} {s : State} {m : MethodId} {below : List Frame} {meth : Method} {c : Code} {b L : Nat} {xs : Nat → Int32} {E : gEnv} (hL : L ≤ 3072) (C0 : lw_At p s m meth c b L xs) (hE : gBs E = s.heap.size) (hK : gK E s) :
    ∀ (n i : Nat), i ≤ L → L + 1 ≤ i + n → ∀ (M : gMem) (b1 b2 : Nat) (H : Heap) (locs : List Loc) (ls : Array Slot), rel E M b1 b2 → gDesc E M H → va_S (gA E) s.heap H locs → lv_has ls 4 [(0, .ref b), (1, .ref (gAd E 1)), (2, .ref (gAd E 60)), (3, .int (nI i))] → W p l e room_1 s m #[Value.ref b] below meth c H locs 600000 7302250 (lw_Z below #[Value.ref b] s) (F0 m 18 ls []) := by
  have C1 := C0
  obtain ⟨hx, hb, hr, hml, hown, hts, hX, hbl, hlocks, hgv⟩ := C1
  have hB : gBs E ≤ s.heap.size := Nat.le_of_eq hE
  have hbA : ¬ gA E b := by show ¬ gBs E ≤ b; rw [hE]; exact Nat.not_le.mpr hbl
  intro n
  induction n with
  | zero => intro i h1 h2; exact absurd h2 (by omega)
  | succ n ih =>
    intro i hi hin M b1 b2 H locs ls hrel hD hS hl
    refine lv_iload_n hx hb dL_law_18 rfl (lv_at hl 3 rfl) ?_
    refine lv_aload_n hx hb dL_law_19 rfl (lv_at hl 0 rfl) ?_
    refine va_slen hx hb hX hbl hbA hS dL_law_20 ?_
    refine lv_bipush (v := nI 6) hx hb dL_law_21 (by decide) ?_
    refine lv_isub hx hb dL_law_23 ?_
    refine lv_icmp_gt (tgt := 718) hx hb dL_law_24 (by decide) (fun c1 => ?_) (fun c1 => ?_)
    · refine lv_iconst (v := 1) hx hb dL_law_718 (by decide) ?_
      refine va_forget (fun q hq => by have := hS.2.2 q hq; show s.heap.size ≤ q.base; rw [← hE]; exact this) ?_
      exact lw_ret hx hb hr hlocks dL_law_719
    · have h6 : i + 6 ≤ L := more6 hi hL c1
      have v0 : vp_in (nI i) L := vp_in_nI (by omega) (by omega)
      have v1 : vp_in (nI i + nI 1) L := by rw [nI_add]; exact vp_in_nI (by omega) (by omega)
      have v2 : vp_in (nI i + nI 2) L := by rw [nI_add]; exact vp_in_nI (by omega) (by omega)
      have v3 : vp_in (nI i + nI 3) L := by rw [nI_add]; exact vp_in_nI (by omega) (by omega)
      have v4 : vp_in (nI i + nI 4) L := by rw [nI_add]; exact vp_in_nI (by omega) (by omega)
      have v5 : vp_in (nI i + nI 5) L := by rw [nI_add]; exact vp_in_nI (by omega) (by omega)
      have back : ∀ (M : gMem) (b1 b2 : Nat) (H : Heap) (locs : List Loc), rel E M b1 b2 → gDesc E M H → va_S (gA E) s.heap H locs → W p l e room_1 s m #[Value.ref b] below meth c H locs 600000 7302250 (lw_Z below #[Value.ref b] s) (F0 m 712 ls []) := by
        intro M b1 b2 H locs hrel hD hS
        refine lv_iinc (v := nI (i + 6)) (lv' := [(3, .int (nI (i + 6))), (0, .ref b), (1, .ref (gAd E 1)), (2, .ref (gAd E 60))]) hx hb dL_law_712 hl (k := 3) rfl (by rw [← nI_add]; rfl) (by decide) rfl (fun ls hl => ?_)
        refine lv_goto (tgt := 18) hx hb dL_law_715 (by decide) ?_
        exact ih (i + 6) h6 (by omega) M b1 b2 H locs ls hrel hD hS (lv_sub hl [1, 2, 3, 0] rfl)
      refine lv_aload_n hx hb dL_law_27 rfl (lv_at hl 0 rfl) ?_
      refine lv_iload_n hx hb dL_law_28 rfl (lv_at hl 3 rfl) ?_
      refine va_sld hx hb hX hbl hbA hS v0 dL_law_29 ?_
      refine lv_bipush (v := nI 31) hx hb dL_law_30 (by decide) ?_
      refine lv_iand hx hb dL_law_32 ?_
      obtain ⟨k, hk, ek⟩ := and31 (xs (nI i).toNatClampNeg)
      rw [ek]
      have s1 : gSh E 1 = 7 := hrel.1.s1
      have s60 : gSh E 60 = 8 := hrel.2.1.s0
      rcases (show k = 0 ∨ k = 1 ∨ k = 2 ∨ k = 3 ∨ k = 4 ∨ k = 5 ∨ k = 6 ∨ k = 7 ∨ k = 8 ∨ k = 9 ∨ k = 10 ∨ k = 11 ∨ k = 12 ∨ k = 13 ∨ k = 14 ∨ k = 15 ∨ k = 16 ∨ k = 17 ∨ k = 18 ∨ k = 19 ∨ k = 20 ∨ k = 21 ∨ 22 ≤ k by omega) with rfl | rfl | rfl | rfl | rfl | rfl | rfl | rfl | rfl | rfl | rfl | rfl | rfl | rfl | rfl | rfl | rfl | rfl | rfl | rfl | rfl | rfl | hk2
      · refine lv_tableIn (off := 103) (tgt := 136) hx hb dL_law_33 (by decide) (by decide) rfl (by decide) ?_
        refine lv_aload_n hx hb dL_law_136 rfl (lv_at hl 1 rfl) ?_
        refine lv_aload_n hx hb dL_law_137 rfl (lv_at hl 0 rfl) ?_
        refine lv_iload_n hx hb dL_law_138 rfl (lv_at hl 3 rfl) ?_
        refine lv_iconst (v := nI 1) hx hb dL_law_139 (by decide) ?_
        refine lv_iadd hx hb dL_law_140 ?_
        refine va_sld hx hb hX hbl hbA hS v1 dL_law_141 ?_
        refine gw_1 (As := [.int (xs (nI i + nI 1).toNatClampNeg)]) C0 hB hK lL_13 iX6_write (pr_write hrel (xs (nI i + nI 1).toNatClampNeg)) ⟨Nat.le_of_ble_eq_true rfl, Nat.le_of_ble_eq_true rfl⟩ s1 rfl rfl rfl dL_law_142 hD hS hl.1 (fun r u H1 locs1 hm hD hS => ?_)
        refine lv_aload_n hx hb dL_law_145 rfl (lv_at hl 2 rfl) ?_
        refine lv_aload_n hx hb dL_law_146 rfl (lv_at hl 0 rfl) ?_
        refine lv_iload_n hx hb dL_law_147 rfl (lv_at hl 3 rfl) ?_
        refine lv_iconst (v := nI 1) hx hb dL_law_148 (by decide) ?_
        refine lv_iadd hx hb dL_law_149 ?_
        refine va_sld hx hb hX hbl hbA hS v1 dL_law_150 ?_
        refine gw_2 (As := [.int (xs (nI i + nI 1).toNatClampNeg)]) C0 hB hK lL_17 iX7_write hm ⟨Nat.le_of_ble_eq_true rfl, Nat.le_of_ble_eq_true rfl⟩ s60 rfl rfl rfl dL_law_151 hD hS hl.1 (fun u2 H2 locs2 b3 b4 hrel2 hD2 hS2 => ?_)
        exact lv_icmp_eq (tgt := 712) hx hb dL_law_154 (by decide) (fun _ => back u2 b3 b4 H2 locs2 hrel2 hD2 hS2) (fun h => absurd rfl h)
      · refine lv_tableIn (off := 126) (tgt := 159) hx hb dL_law_33 (by decide) (by decide) rfl (by decide) ?_
        refine lv_aload_n hx hb dL_law_159 rfl (lv_at hl 1 rfl) ?_
        refine gw_1 (As := []) C0 hB hK lL_18 iX6_wipe (pr_wipe hrel) ⟨Nat.le_of_ble_eq_true rfl, Nat.le_of_ble_eq_true rfl⟩ s1 rfl rfl rfl dL_law_160 hD hS hl.1 (fun r u H1 locs1 hm hD hS => ?_)
        refine lv_aload_n hx hb dL_law_163 rfl (lv_at hl 2 rfl) ?_
        refine gw_2 (As := []) C0 hB hK lL_22 iX7_wipe hm ⟨Nat.le_of_ble_eq_true rfl, Nat.le_of_ble_eq_true rfl⟩ s60 rfl rfl rfl dL_law_164 hD hS hl.1 (fun u2 H2 locs2 b3 b4 hrel2 hD2 hS2 => ?_)
        exact lv_icmp_eq (tgt := 712) hx hb dL_law_167 (by decide) (fun _ => back u2 b3 b4 H2 locs2 hrel2 hD2 hS2) (fun h => absurd rfl h)
      · refine lv_tableIn (off := 139) (tgt := 172) hx hb dL_law_33 (by decide) (by decide) rfl (by decide) ?_
        refine lv_aload_n hx hb dL_law_172 rfl (lv_at hl 1 rfl) ?_
        refine gw_1 (As := []) C0 hB hK lL_23 iX6_fault (pr_fault hrel) ⟨Nat.le_of_ble_eq_true rfl, Nat.le_of_ble_eq_true rfl⟩ s1 rfl rfl rfl dL_law_173 hD hS hl.1 (fun r u H1 locs1 hm hD hS => ?_)
        refine lv_aload_n hx hb dL_law_176 rfl (lv_at hl 2 rfl) ?_
        refine gw_2 (As := []) C0 hB hK lL_26 iX7_fault hm ⟨Nat.le_of_ble_eq_true rfl, Nat.le_of_ble_eq_true rfl⟩ s60 rfl rfl rfl dL_law_177 hD hS hl.1 (fun u2 H2 locs2 b3 b4 hrel2 hD2 hS2 => ?_)
        exact lv_icmp_eq (tgt := 712) hx hb dL_law_180 (by decide) (fun _ => back u2 b3 b4 H2 locs2 hrel2 hD2 hS2) (fun h => absurd rfl h)
      · refine lv_tableIn (off := 152) (tgt := 185) hx hb dL_law_33 (by decide) (by decide) rfl (by decide) ?_
        refine lv_aload_n hx hb dL_law_185 rfl (lv_at hl 1 rfl) ?_
        refine gw_1 (As := []) C0 hB hK lL_27 iX6_lay (pr_lay hrel) ⟨Nat.le_of_ble_eq_true rfl, Nat.le_of_ble_eq_true rfl⟩ s1 rfl rfl rfl dL_law_186 hD hS hl.1 (fun r u H1 locs1 hm hD hS => ?_)
        refine lv_aload_n hx hb dL_law_189 rfl (lv_at hl 2 rfl) ?_
        refine gw_2 (As := []) C0 hB hK lL_30 iX7_lay hm ⟨Nat.le_of_ble_eq_true rfl, Nat.le_of_ble_eq_true rfl⟩ s60 rfl rfl rfl dL_law_190 hD hS hl.1 (fun u2 H2 locs2 b3 b4 hrel2 hD2 hS2 => ?_)
        exact lv_icmp_eq (tgt := 712) hx hb dL_law_193 (by decide) (fun _ => back u2 b3 b4 H2 locs2 hrel2 hD2 hS2) (fun h => absurd rfl h)
      · refine lv_tableIn (off := 165) (tgt := 198) hx hb dL_law_33 (by decide) (by decide) rfl (by decide) ?_
        refine lv_aload_n hx hb dL_law_198 rfl (lv_at hl 1 rfl) ?_
        refine lv_aload_n hx hb dL_law_199 rfl (lv_at hl 0 rfl) ?_
        refine lv_iload_n hx hb dL_law_200 rfl (lv_at hl 3 rfl) ?_
        refine lv_iconst (v := nI 1) hx hb dL_law_201 (by decide) ?_
        refine lv_iadd hx hb dL_law_202 ?_
        refine va_sld hx hb hX hbl hbA hS v1 dL_law_203 ?_
        refine gw_1 (As := [.int (xs (nI i + nI 1).toNatClampNeg)]) C0 hB hK lL_31 iX6_sign (pr_sign hrel (xs (nI i + nI 1).toNatClampNeg)) ⟨Nat.le_of_ble_eq_true rfl, Nat.le_of_ble_eq_true rfl⟩ s1 rfl rfl rfl dL_law_204 hD hS hl.1 (fun r u H1 locs1 hm hD hS => ?_)
        refine lv_aload_n hx hb dL_law_207 rfl (lv_at hl 2 rfl) ?_
        refine lv_aload_n hx hb dL_law_208 rfl (lv_at hl 0 rfl) ?_
        refine lv_iload_n hx hb dL_law_209 rfl (lv_at hl 3 rfl) ?_
        refine lv_iconst (v := nI 1) hx hb dL_law_210 (by decide) ?_
        refine lv_iadd hx hb dL_law_211 ?_
        refine va_sld hx hb hX hbl hbA hS v1 dL_law_212 ?_
        refine gw_2 (As := [.int (xs (nI i + nI 1).toNatClampNeg)]) C0 hB hK lL_34 iX7_sign hm ⟨Nat.le_of_ble_eq_true rfl, Nat.le_of_ble_eq_true rfl⟩ s60 rfl rfl rfl dL_law_213 hD hS hl.1 (fun u2 H2 locs2 b3 b4 hrel2 hD2 hS2 => ?_)
        exact lv_icmp_eq (tgt := 712) hx hb dL_law_216 (by decide) (fun _ => back u2 b3 b4 H2 locs2 hrel2 hD2 hS2) (fun h => absurd rfl h)
      · refine lv_tableIn (off := 188) (tgt := 221) hx hb dL_law_33 (by decide) (by decide) rfl (by decide) ?_
        refine lv_aload_n hx hb dL_law_221 rfl (lv_at hl 1 rfl) ?_
        refine lv_aload_n hx hb dL_law_222 rfl (lv_at hl 0 rfl) ?_
        refine lv_iload_n hx hb dL_law_223 rfl (lv_at hl 3 rfl) ?_
        refine lv_iconst (v := nI 1) hx hb dL_law_224 (by decide) ?_
        refine lv_iadd hx hb dL_law_225 ?_
        refine va_sld hx hb hX hbl hbA hS v1 dL_law_226 ?_
        refine gw_1 (As := [.int (xs (nI i + nI 1).toNatClampNeg)]) C0 hB hK lL_35 iX6_why (pr_why hrel (xs (nI i + nI 1).toNatClampNeg)) ⟨Nat.le_of_ble_eq_true rfl, Nat.le_of_ble_eq_true rfl⟩ s1 rfl rfl rfl dL_law_227 hD hS hl.1 (fun r u H1 locs1 hm hD hS => ?_)
        refine lv_aload_n hx hb dL_law_230 rfl (lv_at hl 2 rfl) ?_
        refine lv_aload_n hx hb dL_law_231 rfl (lv_at hl 0 rfl) ?_
        refine lv_iload_n hx hb dL_law_232 rfl (lv_at hl 3 rfl) ?_
        refine lv_iconst (v := nI 1) hx hb dL_law_233 (by decide) ?_
        refine lv_iadd hx hb dL_law_234 ?_
        refine va_sld hx hb hX hbl hbA hS v1 dL_law_235 ?_
        refine gw_2 (As := [.int (xs (nI i + nI 1).toNatClampNeg)]) C0 hB hK lL_38 iX7_why hm ⟨Nat.le_of_ble_eq_true rfl, Nat.le_of_ble_eq_true rfl⟩ s60 rfl rfl rfl dL_law_236 hD hS hl.1 (fun u2 H2 locs2 b3 b4 hrel2 hD2 hS2 => ?_)
        exact lv_icmp_eq (tgt := 712) hx hb dL_law_239 (by decide) (fun _ => back u2 b3 b4 H2 locs2 hrel2 hD2 hS2) (fun h => absurd rfl h)
      · refine lv_tableIn (off := 211) (tgt := 244) hx hb dL_law_33 (by decide) (by decide) rfl (by decide) ?_
        refine lv_aload_n hx hb dL_law_244 rfl (lv_at hl 1 rfl) ?_
        refine lv_aload_n hx hb dL_law_245 rfl (lv_at hl 0 rfl) ?_
        refine lv_iload_n hx hb dL_law_246 rfl (lv_at hl 3 rfl) ?_
        refine lv_iconst (v := nI 1) hx hb dL_law_247 (by decide) ?_
        refine lv_iadd hx hb dL_law_248 ?_
        refine va_sld hx hb hX hbl hbA hS v1 dL_law_249 ?_
        refine gw_1 (As := [.int (xs (nI i + nI 1).toNatClampNeg)]) C0 hB hK lL_39 iX6_clash (pr_clash hrel (xs (nI i + nI 1).toNatClampNeg)) ⟨Nat.le_of_ble_eq_true rfl, Nat.le_of_ble_eq_true rfl⟩ s1 rfl rfl rfl dL_law_250 hD hS hl.1 (fun r u H1 locs1 hm hD hS => ?_)
        refine lv_aload_n hx hb dL_law_253 rfl (lv_at hl 2 rfl) ?_
        refine lv_aload_n hx hb dL_law_254 rfl (lv_at hl 0 rfl) ?_
        refine lv_iload_n hx hb dL_law_255 rfl (lv_at hl 3 rfl) ?_
        refine lv_iconst (v := nI 1) hx hb dL_law_256 (by decide) ?_
        refine lv_iadd hx hb dL_law_257 ?_
        refine va_sld hx hb hX hbl hbA hS v1 dL_law_258 ?_
        refine gw_2 (As := [.int (xs (nI i + nI 1).toNatClampNeg)]) C0 hB hK lL_42 iX7_clash hm ⟨Nat.le_of_ble_eq_true rfl, Nat.le_of_ble_eq_true rfl⟩ s60 rfl rfl rfl dL_law_259 hD hS hl.1 (fun u2 H2 locs2 b3 b4 hrel2 hD2 hS2 => ?_)
        exact lv_icmp_eq (tgt := 712) hx hb dL_law_262 (by decide) (fun _ => back u2 b3 b4 H2 locs2 hrel2 hD2 hS2) (fun h => absurd rfl h)
      · refine lv_tableIn (off := 234) (tgt := 267) hx hb dL_law_33 (by decide) (by decide) rfl (by decide) ?_
        refine lv_aload_n hx hb dL_law_267 rfl (lv_at hl 1 rfl) ?_
        refine lv_aload_n hx hb dL_law_268 rfl (lv_at hl 0 rfl) ?_
        refine lv_iload_n hx hb dL_law_269 rfl (lv_at hl 3 rfl) ?_
        refine lv_iconst (v := nI 1) hx hb dL_law_270 (by decide) ?_
        refine lv_iadd hx hb dL_law_271 ?_
        refine va_sld hx hb hX hbl hbA hS v1 dL_law_272 ?_
        refine gw_1 (As := [.int (xs (nI i + nI 1).toNatClampNeg)]) C0 hB hK lL_43 iX6_drop (pr_drop hrel (xs (nI i + nI 1).toNatClampNeg)) ⟨Nat.le_of_ble_eq_true rfl, Nat.le_of_ble_eq_true rfl⟩ s1 rfl rfl rfl dL_law_273 hD hS hl.1 (fun r u H1 locs1 hm hD hS => ?_)
        refine lv_aload_n hx hb dL_law_276 rfl (lv_at hl 2 rfl) ?_
        refine lv_aload_n hx hb dL_law_277 rfl (lv_at hl 0 rfl) ?_
        refine lv_iload_n hx hb dL_law_278 rfl (lv_at hl 3 rfl) ?_
        refine lv_iconst (v := nI 1) hx hb dL_law_279 (by decide) ?_
        refine lv_iadd hx hb dL_law_280 ?_
        refine va_sld hx hb hX hbl hbA hS v1 dL_law_281 ?_
        refine gw_2 (As := [.int (xs (nI i + nI 1).toNatClampNeg)]) C0 hB hK lL_46 iX7_drop hm ⟨Nat.le_of_ble_eq_true rfl, Nat.le_of_ble_eq_true rfl⟩ s60 rfl rfl rfl dL_law_282 hD hS hl.1 (fun u2 H2 locs2 b3 b4 hrel2 hD2 hS2 => ?_)
        exact lv_icmp_eq (tgt := 712) hx hb dL_law_285 (by decide) (fun _ => back u2 b3 b4 H2 locs2 hrel2 hD2 hS2) (fun h => absurd rfl h)
      · refine lv_tableIn (off := 257) (tgt := 290) hx hb dL_law_33 (by decide) (by decide) rfl (by decide) ?_
        refine lv_aload_n hx hb dL_law_290 rfl (lv_at hl 1 rfl) ?_
        refine lv_aload_n hx hb dL_law_291 rfl (lv_at hl 0 rfl) ?_
        refine lv_iload_n hx hb dL_law_292 rfl (lv_at hl 3 rfl) ?_
        refine lv_iconst (v := nI 1) hx hb dL_law_293 (by decide) ?_
        refine lv_iadd hx hb dL_law_294 ?_
        refine va_sld hx hb hX hbl hbA hS v1 dL_law_295 ?_
        refine lv_aload_n hx hb dL_law_296 rfl (lv_at hl 0 rfl) ?_
        refine lv_iload_n hx hb dL_law_297 rfl (lv_at hl 3 rfl) ?_
        refine lv_iconst (v := nI 2) hx hb dL_law_298 (by decide) ?_
        refine lv_iadd hx hb dL_law_299 ?_
        refine va_sld hx hb hX hbl hbA hS v2 dL_law_300 ?_
        refine gw_1 (As := [.int (xs (nI i + nI 1).toNatClampNeg), .int (xs (nI i + nI 2).toNatClampNeg)]) C0 hB hK lL_47 iX6_move (pr_move hrel (xs (nI i + nI 1).toNatClampNeg) (xs (nI i + nI 2).toNatClampNeg)) ⟨Nat.le_of_ble_eq_true rfl, Nat.le_of_ble_eq_true rfl⟩ s1 rfl rfl rfl dL_law_301 hD hS hl.1 (fun r u H1 locs1 hm hD hS => ?_)
        refine lv_aload_n hx hb dL_law_304 rfl (lv_at hl 2 rfl) ?_
        refine lv_aload_n hx hb dL_law_305 rfl (lv_at hl 0 rfl) ?_
        refine lv_iload_n hx hb dL_law_306 rfl (lv_at hl 3 rfl) ?_
        refine lv_iconst (v := nI 1) hx hb dL_law_307 (by decide) ?_
        refine lv_iadd hx hb dL_law_308 ?_
        refine va_sld hx hb hX hbl hbA hS v1 dL_law_309 ?_
        refine lv_aload_n hx hb dL_law_310 rfl (lv_at hl 0 rfl) ?_
        refine lv_iload_n hx hb dL_law_311 rfl (lv_at hl 3 rfl) ?_
        refine lv_iconst (v := nI 2) hx hb dL_law_312 (by decide) ?_
        refine lv_iadd hx hb dL_law_313 ?_
        refine va_sld hx hb hX hbl hbA hS v2 dL_law_314 ?_
        refine gw_2 (As := [.int (xs (nI i + nI 1).toNatClampNeg), .int (xs (nI i + nI 2).toNatClampNeg)]) C0 hB hK lL_51 iX7_move hm ⟨Nat.le_of_ble_eq_true rfl, Nat.le_of_ble_eq_true rfl⟩ s60 rfl rfl rfl dL_law_315 hD hS hl.1 (fun u2 H2 locs2 b3 b4 hrel2 hD2 hS2 => ?_)
        exact lv_icmp_eq (tgt := 712) hx hb dL_law_318 (by decide) (fun _ => back u2 b3 b4 H2 locs2 hrel2 hD2 hS2) (fun h => absurd rfl h)
      · refine lv_tableIn (off := 290) (tgt := 323) hx hb dL_law_33 (by decide) (by decide) rfl (by decide) ?_
        refine lv_aload_n hx hb dL_law_323 rfl (lv_at hl 1 rfl) ?_
        refine lv_aload_n hx hb dL_law_324 rfl (lv_at hl 0 rfl) ?_
        refine lv_iload_n hx hb dL_law_325 rfl (lv_at hl 3 rfl) ?_
        refine lv_iconst (v := nI 1) hx hb dL_law_326 (by decide) ?_
        refine lv_iadd hx hb dL_law_327 ?_
        refine va_sld hx hb hX hbl hbA hS v1 dL_law_328 ?_
        refine gw_1 (As := [.int (xs (nI i + nI 1).toNatClampNeg)]) C0 hB hK lL_52 iX6_soonest (pr_soonest hrel (xs (nI i + nI 1).toNatClampNeg)) ⟨Nat.le_of_ble_eq_true rfl, Nat.le_of_ble_eq_true rfl⟩ s1 rfl rfl rfl dL_law_329 hD hS hl.1 (fun r u H1 locs1 hm hD hS => ?_)
        refine lv_aload_n hx hb dL_law_332 rfl (lv_at hl 2 rfl) ?_
        refine lv_aload_n hx hb dL_law_333 rfl (lv_at hl 0 rfl) ?_
        refine lv_iload_n hx hb dL_law_334 rfl (lv_at hl 3 rfl) ?_
        refine lv_iconst (v := nI 1) hx hb dL_law_335 (by decide) ?_
        refine lv_iadd hx hb dL_law_336 ?_
        refine va_sld hx hb hX hbl hbA hS v1 dL_law_337 ?_
        refine gw_2 (As := [.int (xs (nI i + nI 1).toNatClampNeg)]) C0 hB hK lL_55 iX7_soonest hm ⟨Nat.le_of_ble_eq_true rfl, Nat.le_of_ble_eq_true rfl⟩ s60 rfl rfl rfl dL_law_338 hD hS hl.1 (fun u2 H2 locs2 b3 b4 hrel2 hD2 hS2 => ?_)
        exact lv_icmp_eq (tgt := 712) hx hb dL_law_341 (by decide) (fun _ => back u2 b3 b4 H2 locs2 hrel2 hD2 hS2) (fun h => absurd rfl h)
      · refine lv_tableIn (off := 313) (tgt := 346) hx hb dL_law_33 (by decide) (by decide) rfl (by decide) ?_
        refine lv_aload_n hx hb dL_law_346 rfl (lv_at hl 1 rfl) ?_
        refine gw_1 (As := []) C0 hB hK lL_56 iX6_undo (pr_undo hrel) ⟨Nat.le_of_ble_eq_true rfl, Nat.le_of_ble_eq_true rfl⟩ s1 rfl rfl rfl dL_law_347 hD hS hl.1 (fun r u H1 locs1 hm hD hS => ?_)
        refine lv_aload_n hx hb dL_law_350 rfl (lv_at hl 2 rfl) ?_
        refine gw_2 (As := []) C0 hB hK lL_59 iX7_undo hm ⟨Nat.le_of_ble_eq_true rfl, Nat.le_of_ble_eq_true rfl⟩ s60 rfl rfl rfl dL_law_351 hD hS hl.1 (fun u2 H2 locs2 b3 b4 hrel2 hD2 hS2 => ?_)
        exact lv_icmp_eq (tgt := 712) hx hb dL_law_354 (by decide) (fun _ => back u2 b3 b4 H2 locs2 hrel2 hD2 hS2) (fun h => absurd rfl h)
      · refine lv_tableIn (off := 326) (tgt := 359) hx hb dL_law_33 (by decide) (by decide) rfl (by decide) ?_
        refine lv_aload_n hx hb dL_law_359 rfl (lv_at hl 1 rfl) ?_
        refine lv_aload_n hx hb dL_law_360 rfl (lv_at hl 0 rfl) ?_
        refine lv_iload_n hx hb dL_law_361 rfl (lv_at hl 3 rfl) ?_
        refine lv_iconst (v := nI 1) hx hb dL_law_362 (by decide) ?_
        refine lv_iadd hx hb dL_law_363 ?_
        refine va_sld hx hb hX hbl hbA hS v1 dL_law_364 ?_
        refine lv_aload_n hx hb dL_law_365 rfl (lv_at hl 0 rfl) ?_
        refine lv_iload_n hx hb dL_law_366 rfl (lv_at hl 3 rfl) ?_
        refine lv_iconst (v := nI 2) hx hb dL_law_367 (by decide) ?_
        refine lv_iadd hx hb dL_law_368 ?_
        refine va_sld hx hb hX hbl hbA hS v2 dL_law_369 ?_
        refine gw_1 (As := [.int (xs (nI i + nI 1).toNatClampNeg), .int (xs (nI i + nI 2).toNatClampNeg)]) C0 hB hK lL_60 iX6_offer (pr_offer hrel (xs (nI i + nI 1).toNatClampNeg) (xs (nI i + nI 2).toNatClampNeg)) ⟨Nat.le_of_ble_eq_true rfl, Nat.le_of_ble_eq_true rfl⟩ s1 rfl rfl rfl dL_law_370 hD hS hl.1 (fun r u H1 locs1 hm hD hS => ?_)
        refine lv_aload_n hx hb dL_law_373 rfl (lv_at hl 2 rfl) ?_
        refine lv_aload_n hx hb dL_law_374 rfl (lv_at hl 0 rfl) ?_
        refine lv_iload_n hx hb dL_law_375 rfl (lv_at hl 3 rfl) ?_
        refine lv_iconst (v := nI 1) hx hb dL_law_376 (by decide) ?_
        refine lv_iadd hx hb dL_law_377 ?_
        refine va_sld hx hb hX hbl hbA hS v1 dL_law_378 ?_
        refine lv_aload_n hx hb dL_law_379 rfl (lv_at hl 0 rfl) ?_
        refine lv_iload_n hx hb dL_law_380 rfl (lv_at hl 3 rfl) ?_
        refine lv_iconst (v := nI 2) hx hb dL_law_381 (by decide) ?_
        refine lv_iadd hx hb dL_law_382 ?_
        refine va_sld hx hb hX hbl hbA hS v2 dL_law_383 ?_
        refine gw_2 (As := [.int (xs (nI i + nI 1).toNatClampNeg), .int (xs (nI i + nI 2).toNatClampNeg)]) C0 hB hK lL_63 iX7_offer hm ⟨Nat.le_of_ble_eq_true rfl, Nat.le_of_ble_eq_true rfl⟩ s60 rfl rfl rfl dL_law_384 hD hS hl.1 (fun u2 H2 locs2 b3 b4 hrel2 hD2 hS2 => ?_)
        exact lv_icmp_eq (tgt := 712) hx hb dL_law_387 (by decide) (fun _ => back u2 b3 b4 H2 locs2 hrel2 hD2 hS2) (fun h => absurd rfl h)
      · refine lv_tableIn (off := 359) (tgt := 392) hx hb dL_law_33 (by decide) (by decide) rfl (by decide) ?_
        refine lv_aload_n hx hb dL_law_392 rfl (lv_at hl 1 rfl) ?_
        refine lv_aload_n hx hb dL_law_393 rfl (lv_at hl 0 rfl) ?_
        refine lv_iload_n hx hb dL_law_394 rfl (lv_at hl 3 rfl) ?_
        refine lv_iconst (v := nI 1) hx hb dL_law_395 (by decide) ?_
        refine lv_iadd hx hb dL_law_396 ?_
        refine va_sld hx hb hX hbl hbA hS v1 dL_law_397 ?_
        refine lv_aload_n hx hb dL_law_398 rfl (lv_at hl 0 rfl) ?_
        refine lv_iload_n hx hb dL_law_399 rfl (lv_at hl 3 rfl) ?_
        refine lv_iconst (v := nI 2) hx hb dL_law_400 (by decide) ?_
        refine lv_iadd hx hb dL_law_401 ?_
        refine va_sld hx hb hX hbl hbA hS v2 dL_law_402 ?_
        refine gw_1 (As := [.int (xs (nI i + nI 1).toNatClampNeg), .int (xs (nI i + nI 2).toNatClampNeg)]) C0 hB hK lL_64 iX6_common (pr_common hrel (xs (nI i + nI 1).toNatClampNeg) (xs (nI i + nI 2).toNatClampNeg)) ⟨Nat.le_of_ble_eq_true rfl, Nat.le_of_ble_eq_true rfl⟩ s1 rfl rfl rfl dL_law_403 hD hS hl.1 (fun r u H1 locs1 hm hD hS => ?_)
        refine lv_aload_n hx hb dL_law_406 rfl (lv_at hl 2 rfl) ?_
        refine lv_aload_n hx hb dL_law_407 rfl (lv_at hl 0 rfl) ?_
        refine lv_iload_n hx hb dL_law_408 rfl (lv_at hl 3 rfl) ?_
        refine lv_iconst (v := nI 1) hx hb dL_law_409 (by decide) ?_
        refine lv_iadd hx hb dL_law_410 ?_
        refine va_sld hx hb hX hbl hbA hS v1 dL_law_411 ?_
        refine lv_aload_n hx hb dL_law_412 rfl (lv_at hl 0 rfl) ?_
        refine lv_iload_n hx hb dL_law_413 rfl (lv_at hl 3 rfl) ?_
        refine lv_iconst (v := nI 2) hx hb dL_law_414 (by decide) ?_
        refine lv_iadd hx hb dL_law_415 ?_
        refine va_sld hx hb hX hbl hbA hS v2 dL_law_416 ?_
        refine gw_2 (As := [.int (xs (nI i + nI 1).toNatClampNeg), .int (xs (nI i + nI 2).toNatClampNeg)]) C0 hB hK lL_67 iX7_common hm ⟨Nat.le_of_ble_eq_true rfl, Nat.le_of_ble_eq_true rfl⟩ s60 rfl rfl rfl dL_law_417 hD hS hl.1 (fun u2 H2 locs2 b3 b4 hrel2 hD2 hS2 => ?_)
        exact lv_icmp_eq (tgt := 712) hx hb dL_law_420 (by decide) (fun _ => back u2 b3 b4 H2 locs2 hrel2 hD2 hS2) (fun h => absurd rfl h)
      · refine lv_tableIn (off := 392) (tgt := 425) hx hb dL_law_33 (by decide) (by decide) rfl (by decide) ?_
        refine lv_aload_n hx hb dL_law_425 rfl (lv_at hl 1 rfl) ?_
        refine lv_aload_n hx hb dL_law_426 rfl (lv_at hl 0 rfl) ?_
        refine lv_iload_n hx hb dL_law_427 rfl (lv_at hl 3 rfl) ?_
        refine lv_iconst (v := nI 1) hx hb dL_law_428 (by decide) ?_
        refine lv_iadd hx hb dL_law_429 ?_
        refine va_sld hx hb hX hbl hbA hS v1 dL_law_430 ?_
        refine lv_aload_n hx hb dL_law_431 rfl (lv_at hl 0 rfl) ?_
        refine lv_iload_n hx hb dL_law_432 rfl (lv_at hl 3 rfl) ?_
        refine lv_iconst (v := nI 2) hx hb dL_law_433 (by decide) ?_
        refine lv_iadd hx hb dL_law_434 ?_
        refine va_sld hx hb hX hbl hbA hS v2 dL_law_435 ?_
        refine gw_1 (As := [.int (xs (nI i + nI 1).toNatClampNeg), .int (xs (nI i + nI 2).toNatClampNeg)]) C0 hB hK lL_68 iX6_begin (pr_begin hrel (xs (nI i + nI 1).toNatClampNeg) (xs (nI i + nI 2).toNatClampNeg)) ⟨Nat.le_of_ble_eq_true rfl, Nat.le_of_ble_eq_true rfl⟩ s1 rfl rfl rfl dL_law_436 hD hS hl.1 (fun r u H1 locs1 hm hD hS => ?_)
        refine lv_aload_n hx hb dL_law_439 rfl (lv_at hl 2 rfl) ?_
        refine lv_aload_n hx hb dL_law_440 rfl (lv_at hl 0 rfl) ?_
        refine lv_iload_n hx hb dL_law_441 rfl (lv_at hl 3 rfl) ?_
        refine lv_iconst (v := nI 1) hx hb dL_law_442 (by decide) ?_
        refine lv_iadd hx hb dL_law_443 ?_
        refine va_sld hx hb hX hbl hbA hS v1 dL_law_444 ?_
        refine lv_aload_n hx hb dL_law_445 rfl (lv_at hl 0 rfl) ?_
        refine lv_iload_n hx hb dL_law_446 rfl (lv_at hl 3 rfl) ?_
        refine lv_iconst (v := nI 2) hx hb dL_law_447 (by decide) ?_
        refine lv_iadd hx hb dL_law_448 ?_
        refine va_sld hx hb hX hbl hbA hS v2 dL_law_449 ?_
        refine gw_2 (As := [.int (xs (nI i + nI 1).toNatClampNeg), .int (xs (nI i + nI 2).toNatClampNeg)]) C0 hB hK lL_71 iX7_begin hm ⟨Nat.le_of_ble_eq_true rfl, Nat.le_of_ble_eq_true rfl⟩ s60 rfl rfl rfl dL_law_450 hD hS hl.1 (fun u2 H2 locs2 b3 b4 hrel2 hD2 hS2 => ?_)
        exact lv_icmp_eq (tgt := 712) hx hb dL_law_453 (by decide) (fun _ => back u2 b3 b4 H2 locs2 hrel2 hD2 hS2) (fun h => absurd rfl h)
      · refine lv_tableIn (off := 425) (tgt := 458) hx hb dL_law_33 (by decide) (by decide) rfl (by decide) ?_
        refine lv_aload_n hx hb dL_law_458 rfl (lv_at hl 1 rfl) ?_
        refine lv_aload_n hx hb dL_law_459 rfl (lv_at hl 0 rfl) ?_
        refine lv_iload_n hx hb dL_law_460 rfl (lv_at hl 3 rfl) ?_
        refine lv_iconst (v := nI 1) hx hb dL_law_461 (by decide) ?_
        refine lv_iadd hx hb dL_law_462 ?_
        refine va_sld hx hb hX hbl hbA hS v1 dL_law_463 ?_
        refine gw_1 (As := [.int (xs (nI i + nI 1).toNatClampNeg)]) C0 hB hK lL_72 iX6_broken (pr_broken hrel (xs (nI i + nI 1).toNatClampNeg)) ⟨Nat.le_of_ble_eq_true rfl, Nat.le_of_ble_eq_true rfl⟩ s1 rfl rfl rfl dL_law_464 hD hS hl.1 (fun r u H1 locs1 hm hD hS => ?_)
        refine lv_aload_n hx hb dL_law_467 rfl (lv_at hl 2 rfl) ?_
        refine lv_aload_n hx hb dL_law_468 rfl (lv_at hl 0 rfl) ?_
        refine lv_iload_n hx hb dL_law_469 rfl (lv_at hl 3 rfl) ?_
        refine lv_iconst (v := nI 1) hx hb dL_law_470 (by decide) ?_
        refine lv_iadd hx hb dL_law_471 ?_
        refine va_sld hx hb hX hbl hbA hS v1 dL_law_472 ?_
        refine gw_2 (As := [.int (xs (nI i + nI 1).toNatClampNeg)]) C0 hB hK lL_75 iX7_broken hm ⟨Nat.le_of_ble_eq_true rfl, Nat.le_of_ble_eq_true rfl⟩ s60 rfl rfl rfl dL_law_473 hD hS hl.1 (fun u2 H2 locs2 b3 b4 hrel2 hD2 hS2 => ?_)
        exact lv_icmp_eq (tgt := 712) hx hb dL_law_476 (by decide) (fun _ => back u2 b3 b4 H2 locs2 hrel2 hD2 hS2) (fun h => absurd rfl h)
      · refine lv_tableIn (off := 448) (tgt := 481) hx hb dL_law_33 (by decide) (by decide) rfl (by decide) ?_
        refine lv_aload_n hx hb dL_law_481 rfl (lv_at hl 1 rfl) ?_
        refine lv_aload_n hx hb dL_law_482 rfl (lv_at hl 0 rfl) ?_
        refine lv_iload_n hx hb dL_law_483 rfl (lv_at hl 3 rfl) ?_
        refine lv_iconst (v := nI 1) hx hb dL_law_484 (by decide) ?_
        refine lv_iadd hx hb dL_law_485 ?_
        refine va_sld hx hb hX hbl hbA hS v1 dL_law_486 ?_
        refine lv_aload_n hx hb dL_law_487 rfl (lv_at hl 0 rfl) ?_
        refine lv_iload_n hx hb dL_law_488 rfl (lv_at hl 3 rfl) ?_
        refine lv_iconst (v := nI 2) hx hb dL_law_489 (by decide) ?_
        refine lv_iadd hx hb dL_law_490 ?_
        refine va_sld hx hb hX hbl hbA hS v2 dL_law_491 ?_
        refine lv_aload_n hx hb dL_law_492 rfl (lv_at hl 0 rfl) ?_
        refine lv_iload_n hx hb dL_law_493 rfl (lv_at hl 3 rfl) ?_
        refine lv_iconst (v := nI 3) hx hb dL_law_494 (by decide) ?_
        refine lv_iadd hx hb dL_law_495 ?_
        refine va_sld hx hb hX hbl hbA hS v3 dL_law_496 ?_
        refine lv_aload_n hx hb dL_law_497 rfl (lv_at hl 0 rfl) ?_
        refine lv_iload_n hx hb dL_law_498 rfl (lv_at hl 3 rfl) ?_
        refine lv_iconst (v := nI 4) hx hb dL_law_499 (by decide) ?_
        refine lv_iadd hx hb dL_law_500 ?_
        refine va_sld hx hb hX hbl hbA hS v4 dL_law_501 ?_
        refine lv_aload_n hx hb dL_law_502 rfl (lv_at hl 0 rfl) ?_
        refine lv_iload_n hx hb dL_law_503 rfl (lv_at hl 3 rfl) ?_
        refine lv_iconst (v := nI 5) hx hb dL_law_504 (by decide) ?_
        refine lv_iadd hx hb dL_law_505 ?_
        refine va_sld hx hb hX hbl hbA hS v5 dL_law_506 ?_
        refine gw_1 (As := [.int (xs (nI i + nI 1).toNatClampNeg), .int (xs (nI i + nI 2).toNatClampNeg), .int (xs (nI i + nI 3).toNatClampNeg), .int (xs (nI i + nI 4).toNatClampNeg), .int (xs (nI i + nI 5).toNatClampNeg)]) C0 hB hK lL_76 iX6_point (pr_point hrel (xs (nI i + nI 1).toNatClampNeg) (xs (nI i + nI 2).toNatClampNeg) (xs (nI i + nI 3).toNatClampNeg) (xs (nI i + nI 4).toNatClampNeg) (xs (nI i + nI 5).toNatClampNeg)) ⟨Nat.le_of_ble_eq_true rfl, Nat.le_of_ble_eq_true rfl⟩ s1 rfl rfl rfl dL_law_507 hD hS hl.1 (fun r u H1 locs1 hm hD hS => ?_)
        refine lv_aload_n hx hb dL_law_510 rfl (lv_at hl 2 rfl) ?_
        refine lv_aload_n hx hb dL_law_511 rfl (lv_at hl 0 rfl) ?_
        refine lv_iload_n hx hb dL_law_512 rfl (lv_at hl 3 rfl) ?_
        refine lv_iconst (v := nI 1) hx hb dL_law_513 (by decide) ?_
        refine lv_iadd hx hb dL_law_514 ?_
        refine va_sld hx hb hX hbl hbA hS v1 dL_law_515 ?_
        refine lv_aload_n hx hb dL_law_516 rfl (lv_at hl 0 rfl) ?_
        refine lv_iload_n hx hb dL_law_517 rfl (lv_at hl 3 rfl) ?_
        refine lv_iconst (v := nI 2) hx hb dL_law_518 (by decide) ?_
        refine lv_iadd hx hb dL_law_519 ?_
        refine va_sld hx hb hX hbl hbA hS v2 dL_law_520 ?_
        refine lv_aload_n hx hb dL_law_521 rfl (lv_at hl 0 rfl) ?_
        refine lv_iload_n hx hb dL_law_522 rfl (lv_at hl 3 rfl) ?_
        refine lv_iconst (v := nI 3) hx hb dL_law_523 (by decide) ?_
        refine lv_iadd hx hb dL_law_524 ?_
        refine va_sld hx hb hX hbl hbA hS v3 dL_law_525 ?_
        refine lv_aload_n hx hb dL_law_526 rfl (lv_at hl 0 rfl) ?_
        refine lv_iload_n hx hb dL_law_527 rfl (lv_at hl 3 rfl) ?_
        refine lv_iconst (v := nI 4) hx hb dL_law_528 (by decide) ?_
        refine lv_iadd hx hb dL_law_529 ?_
        refine va_sld hx hb hX hbl hbA hS v4 dL_law_530 ?_
        refine lv_aload_n hx hb dL_law_531 rfl (lv_at hl 0 rfl) ?_
        refine lv_iload_n hx hb dL_law_532 rfl (lv_at hl 3 rfl) ?_
        refine lv_iconst (v := nI 5) hx hb dL_law_533 (by decide) ?_
        refine lv_iadd hx hb dL_law_534 ?_
        refine va_sld hx hb hX hbl hbA hS v5 dL_law_535 ?_
        refine gw_2 (As := [.int (xs (nI i + nI 1).toNatClampNeg), .int (xs (nI i + nI 2).toNatClampNeg), .int (xs (nI i + nI 3).toNatClampNeg), .int (xs (nI i + nI 4).toNatClampNeg), .int (xs (nI i + nI 5).toNatClampNeg)]) C0 hB hK lL_80 iX7_point hm ⟨Nat.le_of_ble_eq_true rfl, Nat.le_of_ble_eq_true rfl⟩ s60 rfl rfl rfl dL_law_536 hD hS hl.1 (fun u2 H2 locs2 b3 b4 hrel2 hD2 hS2 => ?_)
        exact lv_icmp_eq (tgt := 712) hx hb dL_law_539 (by decide) (fun _ => back u2 b3 b4 H2 locs2 hrel2 hD2 hS2) (fun h => absurd rfl h)
      · refine lv_tableIn (off := 511) (tgt := 544) hx hb dL_law_33 (by decide) (by decide) rfl (by decide) ?_
        refine lv_aload_n hx hb dL_law_544 rfl (lv_at hl 1 rfl) ?_
        refine lv_aload_n hx hb dL_law_545 rfl (lv_at hl 0 rfl) ?_
        refine lv_iload_n hx hb dL_law_546 rfl (lv_at hl 3 rfl) ?_
        refine lv_iconst (v := nI 1) hx hb dL_law_547 (by decide) ?_
        refine lv_iadd hx hb dL_law_548 ?_
        refine va_sld hx hb hX hbl hbA hS v1 dL_law_549 ?_
        refine gw_1 (As := [.int (xs (nI i + nI 1).toNatClampNeg)]) C0 hB hK lL_81 iX6_points (pr_points hrel (xs (nI i + nI 1).toNatClampNeg)) ⟨Nat.le_of_ble_eq_true rfl, Nat.le_of_ble_eq_true rfl⟩ s1 rfl rfl rfl dL_law_550 hD hS hl.1 (fun r u H1 locs1 hm hD hS => ?_)
        refine lv_aload_n hx hb dL_law_553 rfl (lv_at hl 2 rfl) ?_
        refine lv_aload_n hx hb dL_law_554 rfl (lv_at hl 0 rfl) ?_
        refine lv_iload_n hx hb dL_law_555 rfl (lv_at hl 3 rfl) ?_
        refine lv_iconst (v := nI 1) hx hb dL_law_556 (by decide) ?_
        refine lv_iadd hx hb dL_law_557 ?_
        refine va_sld hx hb hX hbl hbA hS v1 dL_law_558 ?_
        refine gw_2 (As := [.int (xs (nI i + nI 1).toNatClampNeg)]) C0 hB hK lL_84 iX7_points hm ⟨Nat.le_of_ble_eq_true rfl, Nat.le_of_ble_eq_true rfl⟩ s60 rfl rfl rfl dL_law_559 hD hS hl.1 (fun u2 H2 locs2 b3 b4 hrel2 hD2 hS2 => ?_)
        exact lv_icmp_eq (tgt := 712) hx hb dL_law_562 (by decide) (fun _ => back u2 b3 b4 H2 locs2 hrel2 hD2 hS2) (fun h => absurd rfl h)
      · refine lv_tableIn (off := 534) (tgt := 567) hx hb dL_law_33 (by decide) (by decide) rfl (by decide) ?_
        refine lv_aload_n hx hb dL_law_567 rfl (lv_at hl 1 rfl) ?_
        refine lv_aload_n hx hb dL_law_568 rfl (lv_at hl 0 rfl) ?_
        refine lv_iload_n hx hb dL_law_569 rfl (lv_at hl 3 rfl) ?_
        refine lv_iconst (v := nI 1) hx hb dL_law_570 (by decide) ?_
        refine lv_iadd hx hb dL_law_571 ?_
        refine va_sld hx hb hX hbl hbA hS v1 dL_law_572 ?_
        refine lv_aload_n hx hb dL_law_573 rfl (lv_at hl 0 rfl) ?_
        refine lv_iload_n hx hb dL_law_574 rfl (lv_at hl 3 rfl) ?_
        refine lv_iconst (v := nI 2) hx hb dL_law_575 (by decide) ?_
        refine lv_iadd hx hb dL_law_576 ?_
        refine va_sld hx hb hX hbl hbA hS v2 dL_law_577 ?_
        refine lv_aload_n hx hb dL_law_578 rfl (lv_at hl 0 rfl) ?_
        refine lv_iload_n hx hb dL_law_579 rfl (lv_at hl 3 rfl) ?_
        refine lv_iconst (v := nI 3) hx hb dL_law_580 (by decide) ?_
        refine lv_iadd hx hb dL_law_581 ?_
        refine va_sld hx hb hX hbl hbA hS v3 dL_law_582 ?_
        refine lv_aload_n hx hb dL_law_583 rfl (lv_at hl 0 rfl) ?_
        refine lv_iload_n hx hb dL_law_584 rfl (lv_at hl 3 rfl) ?_
        refine lv_iconst (v := nI 4) hx hb dL_law_585 (by decide) ?_
        refine lv_iadd hx hb dL_law_586 ?_
        refine va_sld hx hb hX hbl hbA hS v4 dL_law_587 ?_
        refine lv_aload_n hx hb dL_law_588 rfl (lv_at hl 0 rfl) ?_
        refine lv_iload_n hx hb dL_law_589 rfl (lv_at hl 3 rfl) ?_
        refine lv_iconst (v := nI 5) hx hb dL_law_590 (by decide) ?_
        refine lv_iadd hx hb dL_law_591 ?_
        refine va_sld hx hb hX hbl hbA hS v5 dL_law_592 ?_
        refine gw_1 (As := [.int (xs (nI i + nI 1).toNatClampNeg), .int (xs (nI i + nI 2).toNatClampNeg), .int (xs (nI i + nI 3).toNatClampNeg), .int (xs (nI i + nI 4).toNatClampNeg), .int (xs (nI i + nI 5).toNatClampNeg)]) C0 hB hK lL_85 iX6_window (pr_window hrel (xs (nI i + nI 1).toNatClampNeg) (xs (nI i + nI 2).toNatClampNeg) (xs (nI i + nI 3).toNatClampNeg) (xs (nI i + nI 4).toNatClampNeg) (xs (nI i + nI 5).toNatClampNeg)) ⟨Nat.le_of_ble_eq_true rfl, Nat.le_of_ble_eq_true rfl⟩ s1 rfl rfl rfl dL_law_593 hD hS hl.1 (fun r u H1 locs1 hm hD hS => ?_)
        refine lv_aload_n hx hb dL_law_596 rfl (lv_at hl 2 rfl) ?_
        refine lv_aload_n hx hb dL_law_597 rfl (lv_at hl 0 rfl) ?_
        refine lv_iload_n hx hb dL_law_598 rfl (lv_at hl 3 rfl) ?_
        refine lv_iconst (v := nI 1) hx hb dL_law_599 (by decide) ?_
        refine lv_iadd hx hb dL_law_600 ?_
        refine va_sld hx hb hX hbl hbA hS v1 dL_law_601 ?_
        refine lv_aload_n hx hb dL_law_602 rfl (lv_at hl 0 rfl) ?_
        refine lv_iload_n hx hb dL_law_603 rfl (lv_at hl 3 rfl) ?_
        refine lv_iconst (v := nI 2) hx hb dL_law_604 (by decide) ?_
        refine lv_iadd hx hb dL_law_605 ?_
        refine va_sld hx hb hX hbl hbA hS v2 dL_law_606 ?_
        refine lv_aload_n hx hb dL_law_607 rfl (lv_at hl 0 rfl) ?_
        refine lv_iload_n hx hb dL_law_608 rfl (lv_at hl 3 rfl) ?_
        refine lv_iconst (v := nI 3) hx hb dL_law_609 (by decide) ?_
        refine lv_iadd hx hb dL_law_610 ?_
        refine va_sld hx hb hX hbl hbA hS v3 dL_law_611 ?_
        refine lv_aload_n hx hb dL_law_612 rfl (lv_at hl 0 rfl) ?_
        refine lv_iload_n hx hb dL_law_613 rfl (lv_at hl 3 rfl) ?_
        refine lv_iconst (v := nI 4) hx hb dL_law_614 (by decide) ?_
        refine lv_iadd hx hb dL_law_615 ?_
        refine va_sld hx hb hX hbl hbA hS v4 dL_law_616 ?_
        refine lv_aload_n hx hb dL_law_617 rfl (lv_at hl 0 rfl) ?_
        refine lv_iload_n hx hb dL_law_618 rfl (lv_at hl 3 rfl) ?_
        refine lv_iconst (v := nI 5) hx hb dL_law_619 (by decide) ?_
        refine lv_iadd hx hb dL_law_620 ?_
        refine va_sld hx hb hX hbl hbA hS v5 dL_law_621 ?_
        refine gw_2 (As := [.int (xs (nI i + nI 1).toNatClampNeg), .int (xs (nI i + nI 2).toNatClampNeg), .int (xs (nI i + nI 3).toNatClampNeg), .int (xs (nI i + nI 4).toNatClampNeg), .int (xs (nI i + nI 5).toNatClampNeg)]) C0 hB hK lL_88 iX7_window hm ⟨Nat.le_of_ble_eq_true rfl, Nat.le_of_ble_eq_true rfl⟩ s60 rfl rfl rfl dL_law_622 hD hS hl.1 (fun u2 H2 locs2 b3 b4 hrel2 hD2 hS2 => ?_)
        exact lv_icmp_eq (tgt := 712) hx hb dL_law_625 (by decide) (fun _ => back u2 b3 b4 H2 locs2 hrel2 hD2 hS2) (fun h => absurd rfl h)
      · refine lv_tableIn (off := 597) (tgt := 630) hx hb dL_law_33 (by decide) (by decide) rfl (by decide) ?_
        refine lv_aload_n hx hb dL_law_630 rfl (lv_at hl 1 rfl) ?_
        refine lv_aload_n hx hb dL_law_631 rfl (lv_at hl 0 rfl) ?_
        refine lv_iload_n hx hb dL_law_632 rfl (lv_at hl 3 rfl) ?_
        refine lv_iconst (v := nI 1) hx hb dL_law_633 (by decide) ?_
        refine lv_iadd hx hb dL_law_634 ?_
        refine va_sld hx hb hX hbl hbA hS v1 dL_law_635 ?_
        refine gw_1 (As := [.int (xs (nI i + nI 1).toNatClampNeg)]) C0 hB hK lL_89 iX6_longest (pr_longest hrel (xs (nI i + nI 1).toNatClampNeg)) ⟨Nat.le_of_ble_eq_true rfl, Nat.le_of_ble_eq_true rfl⟩ s1 rfl rfl rfl dL_law_636 hD hS hl.1 (fun r u H1 locs1 hm hD hS => ?_)
        refine lv_aload_n hx hb dL_law_639 rfl (lv_at hl 2 rfl) ?_
        refine lv_aload_n hx hb dL_law_640 rfl (lv_at hl 0 rfl) ?_
        refine lv_iload_n hx hb dL_law_641 rfl (lv_at hl 3 rfl) ?_
        refine lv_iconst (v := nI 1) hx hb dL_law_642 (by decide) ?_
        refine lv_iadd hx hb dL_law_643 ?_
        refine va_sld hx hb hX hbl hbA hS v1 dL_law_644 ?_
        refine gw_2 (As := [.int (xs (nI i + nI 1).toNatClampNeg)]) C0 hB hK lL_92 iX7_longest hm ⟨Nat.le_of_ble_eq_true rfl, Nat.le_of_ble_eq_true rfl⟩ s60 rfl rfl rfl dL_law_645 hD hS hl.1 (fun u2 H2 locs2 b3 b4 hrel2 hD2 hS2 => ?_)
        exact lv_icmp_eq (tgt := 712) hx hb dL_law_648 (by decide) (fun _ => back u2 b3 b4 H2 locs2 hrel2 hD2 hS2) (fun h => absurd rfl h)
      · refine lv_tableIn (off := 620) (tgt := 653) hx hb dL_law_33 (by decide) (by decide) rfl (by decide) ?_
        refine lv_aload_n hx hb dL_law_653 rfl (lv_at hl 1 rfl) ?_
        refine lv_aload_n hx hb dL_law_654 rfl (lv_at hl 0 rfl) ?_
        refine lv_iload_n hx hb dL_law_655 rfl (lv_at hl 3 rfl) ?_
        refine lv_iconst (v := nI 1) hx hb dL_law_656 (by decide) ?_
        refine lv_iadd hx hb dL_law_657 ?_
        refine va_sld hx hb hX hbl hbA hS v1 dL_law_658 ?_
        refine gw_1 (As := [.int (xs (nI i + nI 1).toNatClampNeg)]) C0 hB hK lL_93 iX6_best (pr_best hrel (xs (nI i + nI 1).toNatClampNeg)) ⟨Nat.le_of_ble_eq_true rfl, Nat.le_of_ble_eq_true rfl⟩ s1 rfl rfl rfl dL_law_659 hD hS hl.1 (fun r u H1 locs1 hm hD hS => ?_)
        refine lv_aload_n hx hb dL_law_662 rfl (lv_at hl 2 rfl) ?_
        refine lv_aload_n hx hb dL_law_663 rfl (lv_at hl 0 rfl) ?_
        refine lv_iload_n hx hb dL_law_664 rfl (lv_at hl 3 rfl) ?_
        refine lv_iconst (v := nI 1) hx hb dL_law_665 (by decide) ?_
        refine lv_iadd hx hb dL_law_666 ?_
        refine va_sld hx hb hX hbl hbA hS v1 dL_law_667 ?_
        refine gw_2 (As := [.int (xs (nI i + nI 1).toNatClampNeg)]) C0 hB hK lL_96 iX7_best hm ⟨Nat.le_of_ble_eq_true rfl, Nat.le_of_ble_eq_true rfl⟩ s60 rfl rfl rfl dL_law_668 hD hS hl.1 (fun u2 H2 locs2 b3 b4 hrel2 hD2 hS2 => ?_)
        exact lv_icmp_eq (tgt := 712) hx hb dL_law_671 (by decide) (fun _ => back u2 b3 b4 H2 locs2 hrel2 hD2 hS2) (fun h => absurd rfl h)
      · refine lv_tableIn (off := 643) (tgt := 676) hx hb dL_law_33 (by decide) (by decide) rfl (by decide) ?_
        refine lv_aload_n hx hb dL_law_676 rfl (lv_at hl 1 rfl) ?_
        refine gw_1 (As := []) C0 hB hK lL_97 iX6_take (pr_take hrel) ⟨Nat.le_of_ble_eq_true rfl, Nat.le_of_ble_eq_true rfl⟩ s1 rfl rfl rfl dL_law_677 hD hS hl.1 (fun r u H1 locs1 hm hD hS => ?_)
        refine lv_aload_n hx hb dL_law_680 rfl (lv_at hl 2 rfl) ?_
        refine gw_2 (As := []) C0 hB hK lL_100 iX7_take hm ⟨Nat.le_of_ble_eq_true rfl, Nat.le_of_ble_eq_true rfl⟩ s60 rfl rfl rfl dL_law_681 hD hS hl.1 (fun u2 H2 locs2 b3 b4 hrel2 hD2 hS2 => ?_)
        exact lv_icmp_eq (tgt := 712) hx hb dL_law_684 (by decide) (fun _ => back u2 b3 b4 H2 locs2 hrel2 hD2 hS2) (fun h => absurd rfl h)
      · refine lv_tableIn (off := 656) (tgt := 689) hx hb dL_law_33 (by decide) (by decide) rfl (by decide) ?_
        refine lv_aload_n hx hb dL_law_689 rfl (lv_at hl 1 rfl) ?_
        refine lv_aload_n hx hb dL_law_690 rfl (lv_at hl 0 rfl) ?_
        refine lv_iload_n hx hb dL_law_691 rfl (lv_at hl 3 rfl) ?_
        refine lv_iconst (v := nI 1) hx hb dL_law_692 (by decide) ?_
        refine lv_iadd hx hb dL_law_693 ?_
        refine va_sld hx hb hX hbl hbA hS v1 dL_law_694 ?_
        refine gw_1 (As := [.int (xs (nI i + nI 1).toNatClampNeg)]) C0 hB hK lL_101 iX6_count (pr_count hrel (xs (nI i + nI 1).toNatClampNeg)) ⟨Nat.le_of_ble_eq_true rfl, Nat.le_of_ble_eq_true rfl⟩ s1 rfl rfl rfl dL_law_695 hD hS hl.1 (fun r u H1 locs1 hm hD hS => ?_)
        refine lv_aload_n hx hb dL_law_698 rfl (lv_at hl 2 rfl) ?_
        refine lv_aload_n hx hb dL_law_699 rfl (lv_at hl 0 rfl) ?_
        refine lv_iload_n hx hb dL_law_700 rfl (lv_at hl 3 rfl) ?_
        refine lv_iconst (v := nI 1) hx hb dL_law_701 (by decide) ?_
        refine lv_iadd hx hb dL_law_702 ?_
        refine va_sld hx hb hX hbl hbA hS v1 dL_law_703 ?_
        refine gw_2 (As := [.int (xs (nI i + nI 1).toNatClampNeg)]) C0 hB hK lL_104 iX7_count hm ⟨Nat.le_of_ble_eq_true rfl, Nat.le_of_ble_eq_true rfl⟩ s60 rfl rfl rfl dL_law_704 hD hS hl.1 (fun u2 H2 locs2 b3 b4 hrel2 hD2 hS2 => ?_)
        exact lv_icmp_eq (tgt := 712) hx hb dL_law_707 (by decide) (fun _ => back u2 b3 b4 H2 locs2 hrel2 hD2 hS2) (fun h => absurd rfl h)
      · refine lv_tableOut (tgt := 712) hx hb dL_law_33 (Or.inr (by rw [nI_toInt (show k < 2 ^ 31 by omega)]; omega)) (by decide) ?_
        exact back M b1 b2 H locs hrel hD hS
