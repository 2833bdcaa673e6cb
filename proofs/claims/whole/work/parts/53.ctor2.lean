/-! calls of constructors, Object's, arrays of objects -/
section gcy
variable {l : Launch} {V : gVt} {mm : gY} {E : gEnv} {cs : Nat × Nat} {M : gMem} {pc : Nat} {lv : List (Nat × Value)} {st rest As : List Value}
theorem gCx_E {E1 : gEnv} {p : Program} {s : State} {m : MethodId} {args : Array Value} {meth : Method} {c : Code} (h : gCx mm E p s m args meth c) (hb : gBs E1 = gBs E) (hd : gD E1 = gD E) (hc : gC E1 = gC E) : gCx mm E1 p s m args meth c := by
  obtain ⟨h1, h2, h3, h4, h5, h6, h7, h8, h9, h10⟩ := h
  refine ⟨h1, h2, h3, h4, h5, h6, h7, ?_, by rw [hb]; exact h9, h10⟩
  unfold gK gTy gSt gA at h8 ⊢
  rw [hd, hc, hb]
  exact h8
theorem gCallBx {mc : gY} {n h' idx kc ks : Nat} {R : Room} {s : State} {args : Array Value} (hts : ∀ w ∈ gT, w.before args s = true) (hi : gInf mc n) (hl : Cond.methodLink mm.1.cls idx mc.1 ∈ gT) (hR : h' + 1 ≤ R.frames ∧ 8 + (mc.2.2.1 + 11) + 40 * h' ≤ R.locals) :
    CallB R s args mm.1.cls idx mc.1 mc.2.1 mc.2.2.1 mc.2.2.2 (gWs mc) (gRx h' kc ks) kc ks n := by
  refine ⟨rfl, rfl, hR.1, hR.2, fun w hw a' U hW => ?_, List.mem_cons_self, hts _ hi.2.1, hts _ hi.1, ⟨hi.2.2.1, hi.2.2.2.1⟩, fun sig h => ?_, hts _ hl⟩
  · have h := gWs_ok hi w hw
    exact gOk_at hW (gT_ok h) (hts w h)
  · have h2 := hi.2.2.2.2
    rw [h] at h2
    exact (Option.some.inj h2).symm
theorem gCallNx {mc : gY} {n h' idx kc ks : Nat} {host : String} {R : Room} {s : State} {args : Array Value} (hts : ∀ w ∈ gT, w.before args s = true) (hi : gInf mc n) (hl : Cond.methodLinkNest mm.1.cls idx mc.1 host ∈ gT) (hR : h' + 1 ≤ R.frames ∧ 8 + (mc.2.2.1 + 11) + 40 * h' ≤ R.locals) :
    va_CN R s args mm.1.cls idx mc.1 host mc.2.1 mc.2.2.1 mc.2.2.2 (gWs mc) (gRx h' kc ks) kc ks n := by
  refine ⟨⟨rfl, rfl, hR.1, hR.2, fun w hw a' U hW => ?_, List.mem_cons_self⟩, hts _ hi.2.1, hts _ hi.1, ⟨hi.2.2.1, hi.2.2.2.1⟩, fun sig h => ?_, hts _ hl⟩
  · have h := gWs_ok hi w hw
    exact gOk_at hW (gT_ok h) (hts w h)
  · have h2 := hi.2.2.2.2
    rw [h] at h2
    exact (Option.some.inj h2).symm
theorem g_callI {mc : gY} {n h' idx b kc ks : Nat} {Q' : gEnv → gMem → Prop} (hl : Cond.methodLink mm.1.cls idx mc.1 ∈ gT) (hi : gInf mc n ∧ Cond.instanceMethod mc.1 ∈ gT) (hret : mc.2.2.2 = none) (hnm : mc.1.name = "<init>") (hM : gMx l E mc h' kc ks (.ref b :: As) M Q') (hR : h' + 1 ≤ V.1.frames ∧ 8 + (mc.2.2.1 + 11) + 40 * h' ≤ V.1.locals)
    (hn : As.length = n) (hst : st = As.reverse ++ .ref b :: rest) (hW : (rest.map fun v => v.category).sum ≤ 8) (hcs : cs.1 + kc ≤ V.1.cells ∧ cs.2 + ks ≤ V.1.slots) (d : decode mm.2.1 pc = .ok (.invokespecial idx, 3))
    (kk : ∀ E1 u, Q' E1 u → gBs E1 = gBs E → gD E1 = gD E → gC E1 = gC E → gG l V mm E1 (cs.1 + kc, cs.2 + ks) u (pc + 3) lv rest) : gG l V mm E cs M pc lv st := by
  intro p e s m args below meth c H locs ls X hD hS hl2
  obtain ⟨hx, hb, hml, hown, hts, hr, hlk, hK, hB, hnm2⟩ := id X
  have hc := gCallBx (kc := kc) (ks := ks) hts hi.1 hl hR
  rw [hret] at hc
  refine g_backX (va_runI (As := As) (rest := rest) (b := b) ⟨hx, hb, hml, hown, hts⟩ hM ⟨hc, hnm, hts _ hi.2⟩ ⟨gPc_blind _ _ _, gPre hD hK hS hB⟩ rfl hn hl2.1 hst (g_rm hW) d hcs) hS (fun E1 u H1 locs1 h1 b1 b2 b3 h2 h3 => ?_)
  have hA : gA E1 = gA E := by unfold gA; rw [b1]
  have := kk E1 u h1 b1 b2 b3 p e s m args below meth c H1 locs1 ls (gCx_E X b1 b2 b3) h2 (by rw [hA]; exact h3) hl2
  rw [hA] at this
  exact this
theorem g_callIN {mc : gY} {n h' idx b kc ks : Nat} {host : String} {Q' : gEnv → gMem → Prop} (hl : Cond.methodLinkNest mm.1.cls idx mc.1 host ∈ gT) (hi : gInf mc n ∧ Cond.instanceMethod mc.1 ∈ gT) (hret : mc.2.2.2 = none) (hnm : mc.1.name = "<init>") (hM : gMx l E mc h' kc ks (.ref b :: As) M Q') (hR : h' + 1 ≤ V.1.frames ∧ 8 + (mc.2.2.1 + 11) + 40 * h' ≤ V.1.locals)
    (hn : As.length = n) (hst : st = As.reverse ++ .ref b :: rest) (hW : (rest.map fun v => v.category).sum ≤ 8) (hcs : cs.1 + kc ≤ V.1.cells ∧ cs.2 + ks ≤ V.1.slots) (d : decode mm.2.1 pc = .ok (.invokespecial idx, 3))
    (kk : ∀ E1 u, Q' E1 u → gBs E1 = gBs E → gD E1 = gD E → gC E1 = gC E → gG l V mm E1 (cs.1 + kc, cs.2 + ks) u (pc + 3) lv rest) : gG l V mm E cs M pc lv st := by
  intro p e s m args below meth c H locs ls X hD hS hl2
  obtain ⟨hx, hb, hml, hown, hts, hr, hlk, hK, hB, hnm2⟩ := id X
  have hc := gCallNx (kc := kc) (ks := ks) hts hi.1 hl hR
  rw [hret] at hc
  refine g_backX (va_runIN (As := As) (rest := rest) (b := b) ⟨hx, hb, hml, hown, hts⟩ hM ⟨hc, hnm, hts _ hi.2⟩ ⟨gPc_blind _ _ _, gPre hD hK hS hB⟩ rfl hn hl2.1 hst (g_rm hW) d hcs) hS (fun E1 u H1 locs1 h1 b1 b2 b3 h2 h3 => ?_)
  have hA : gA E1 = gA E := by unfold gA; rw [b1]
  have := kk E1 u h1 b1 b2 b3 p e s m args below meth c H1 locs1 ls (gCx_E X b1 b2 b3) h2 (by rw [hA]; exact h3) hl2
  rw [hA] at this
  exact this
theorem g_oinit {idx b : Nat} (hl : Cond.methodLink mm.1.cls idx objectInit ∈ gT) (hi : Cond.instanceMethod objectInit ∈ gT) (hco : Cond.code objectInit ⟨#[0xb1]⟩ 1 none ∈ gT) (hR : 1 ≤ V.1.frames ∧ 20 ≤ V.1.locals) (hW : (rest.map fun v => v.category).sum ≤ 8) (d : decode mm.2.1 pc = .ok (.invokespecial idx, 3)) (kk : gG l V mm E cs M (pc + 3) lv rest) : gG l V mm E cs M pc lv (.ref b :: rest) := by
  intro p e s m args below meth c H locs ls X hD hS hl2
  obtain ⟨hx, hb, hml, hown, hts, hr, hlk, hK, hB, hnm2⟩ := id X
  have := g_rm (pc := pc) (m := m) (ls := ls) (st := .ref b :: rest) hW
  exact W.objInit hx hb hown (hts _ hl) (hts _ hi) (hts _ hco) rfl (by rw [hml]; exact hl2.1) rfl d hR.1 (by omega) (kk p e s m args below meth c H locs ls X hD hS hl2)
theorem g_anew {n index kd : Nat} {C : String} (r : Nat) (hk : 10 < kd) (hty : (gTy E)[kd - 9]? = some (gC E kd, .object C)) (hcl : Cond.classLink mm.1.cls index C ∈ gT) (hov : Cond.arrayOver (.object C) ∈ gT) (hn : n < 100000) (hr : gSh E r = 0) (hm : ∀ c k, M.2 c k ≠ r) (hcs : cs.1 + 1 ≤ V.1.cells ∧ cs.2 + n ≤ V.1.slots) (d : decode mm.2.1 pc = .ok (.anewarray index, 3))
    (kk : ∀ a, gG l V mm (gX E r a kd n) (cs.1 + 1, cs.2 + n) (gZr M r) (pc + 3) lv (.ref a :: st)) : gG l V mm E cs M pc lv (.int (nI n) :: st) := by
  intro p e s m args below meth c H locs ls X hD hS hl2
  obtain ⟨hx, hb, hml, hown, hts, hr', hlk, hK, hB, hnm⟩ := id X
  have hN : (nI n).toNatClampNeg = n := nI_clamp (by omega)
  refine W.anew hx hb hown (hts _ hcl) (hts _ hov) rfl d rfl (nI_pos (by omega)) (by rw [hN]; omega) hcs.1 (by rw [hN]; exact hcs.2) fun cA kA comp f1 f2 f3 f4 => ?_
  rw [hN]
  obtain ⟨kA2, comp2, g1, g2, g3, g4⟩ := (hK.1.2 (kd - 9) _ hty).2
  have hcA : cA = gC E kd := Option.some.inj (f1.symm.trans g4)
  generalize hH1 : H.push ({ cls := cA, slots := Array.replicate n .null, vm := .none } : Cell) = H1
  have z1 : H1.size = H.size + 1 := by rw [← hH1, Array.size_push]
  have e1 : H1[H.size]? = some (arrV cA n (fun _ => .null)) := by rw [← hH1, Array.getElem?_push_size, ← arrV_new]
  have o1 : ∀ q : Nat, q < H.size → H1[q]? = H[q]? := fun q hq => by rw [← hH1, Array.getElem?_push, if_neg (Nat.ne_of_lt hq)]
  refine kk H.size p e s m args below meth c H1 locs ls X ?_ ⟨Nat.le_trans hS.1 (by omega), fun x h1 h2 => (o1 x (Nat.lt_of_lt_of_le h1 hS.1)).trans (hS.2.1 x h1 h2), hS.2.2⟩ hl2
  refine gX_desc hD hr hm rfl o1 (Nat.le_trans hB hS.1) ?_
  rw [gEnt_r gX_sr hk, gX_lr, show (fun j => gO (gX E r H.size kd n) ((gZr M r).2 r j)) = (fun _ => none) from funext fun j => by rw [show (gZr M r).2 r j = 0 from if_pos rfl]; rfl]
  show H1[H.size]? = some (vp_cell (gC E kd) (n, .inr (.inr (.inr (.inr (fun _ => none))))))
  rw [e1, hcA]
  rfl
end gcy
