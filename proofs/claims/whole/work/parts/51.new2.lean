/-! rows that make a cell -/
def gZf (kd : Nat) : List Value := (List.range 22).map (fun k => if gR kd k = true then Value.null else .int (nI 0))
theorem gFs_new {E : gEnv} {M : gMem} {r a kd ln : Nat} : gFs (gX E r a kd ln) (gZr M r) r = gZf kd := by
  unfold gFs gZf
  refine congrArg (fun f => (List.range 22).map f) (funext fun k => ?_)
  unfold gVl
  rw [gX_sr, show (gZr M r).2 r k = 0 from if_pos rfl, show (gZr M r).1 r k = 0 from if_pos rfl]
  rfl
section gnew2
variable {l : Launch} {V : gVt} {mm : gY} {E : gEnv} {cs : Nat × Nat} {M : gMem} {pc : Nat} {lv : List (Nat × Value)} {st : List Value}
theorem g_new {index N : Nat} {C : String} {T : u_T} (r kd : Nat) (ty : Nat → FieldType) (hq : vwCl[kd - 1]? = some (C, T, N)) (h8 : kd ≤ 8) (hin : ∀ w ∈ u_ws C T N, w ∈ gT) (hty : ∀ k, k < N → parseFieldDescriptor (T k).2.2.1 = some (ty k)) (hcl : Cond.classLink mm.1.cls index C ∈ gT) (hins : Cond.instantiable C N ∈ gT) (hini : Cond.initialized C ∈ gT)
    (hfs : ∀ j, j < N → defaultValue (ty j) = vp_V (gZf kd) j) (hr : gSh E r = 0) (hm : ∀ c k, M.2 c k ≠ r) (hcs : cs.1 + 1 ≤ V.1.cells ∧ cs.2 + N ≤ V.1.slots) (d : decode mm.2.1 pc = .ok (.new index, 3))
    (kk : ∀ a, gG l V mm (gX E r a kd 0) (cs.1 + 1, cs.2 + N) (gZr M r) (pc + 3) lv (.ref a :: st)) : gG l V mm E cs M pc lv st := by
  intro p e s m args below meth c H locs ls X hD hS hl2
  obtain ⟨hx, hb, hml, hown, hts, hr', hlk, hK, hB, hnm⟩ := id X
  have hKn := hK.1.1 (kd - 1) _ hq
  refine W.newcK hx hb hown (hts _ hcl) (hts _ hins) (hts _ hini) rfl d hcs.1 hcs.2 hKn.2.1 rfl fun H1 kC hkC e1 z1 o1 => ?_
  refine kk H.size p e s m args below meth c H1 locs ls X ?_ ⟨Nat.le_trans hS.1 (by omega), fun x h1 h2 => (o1 x (Nat.lt_of_lt_of_le h1 hS.1)).trans (hS.2.1 x h1 h2), hS.2.2⟩ hl2
  refine gX_desc hD hr hm rfl o1 (Nat.le_trans hB hS.1) ?_
  rw [gEnt_o gX_sr h8]
  exact ⟨_, hq, (u_born ty hts hin hKn hkC e1 hty).to (fun j hj => by rw [hfs j hj, gFs_new])⟩
theorem g_newaI {n : Nat} (r : Nat) (harr : Cond.arrayClass .int ∈ gT) (hn : n < 100000) (hr : gSh E r = 0) (hm : ∀ c k, M.2 c k ≠ r) (hcs : cs.1 + 1 ≤ V.1.cells ∧ cs.2 + n ≤ V.1.slots) (d : decode mm.2.1 pc = .ok (.newarray .int, 2))
    (kk : ∀ a, gG l V mm (gX E r a 9 n) (cs.1 + 1, cs.2 + n) (gZr M r) (pc + 2) lv (.ref a :: st)) : gG l V mm E cs M pc lv (.int (nI n) :: st) := by
  intro p e s m args below meth c H locs ls X hD hS hl2
  obtain ⟨hx, hb, hml, hown, hts, hr', hlk, hK, hB, hnm⟩ := id X
  refine va_newaK hx hb (atype := .int) (hts _ harr) rfl d (N := n) rfl (nI_pos (by omega)) (nI_clamp (by omega)) (by show n * 4 ≤ _; omega) hcs.1 hcs.2 rfl fun H1 cA e1 z1 o1 hArr hfc => ?_
  have hcA : s.vm.findClass ("[" ++ (FieldType.int).toString) = some (gC E 9) := (hK.1.2 0 _ rfl).2
  have hcA : cA = gC E 9 := Option.some.inj (hfc.symm.trans hcA)
  refine kk H.size p e s m args below meth c H1 locs ls X ?_ ⟨Nat.le_trans hS.1 (by omega), fun x h1 h2 => (o1 x (Nat.lt_of_lt_of_le h1 hS.1)).trans (hS.2.1 x h1 h2), hS.2.2⟩ hl2
  refine gX_desc hD hr hm rfl o1 (Nat.le_trans hB hS.1) ?_
  rw [gEnt_i gX_sr (by decide) (by decide), gX_lr, show (fun j => nI ((gZr M r).1 r j)) = (fun _ => nI 0) from funext fun j => by rw [show (gZr M r).1 r j = 0 from if_pos rfl]]
  show H1[H.size]? = some (vp_cell (gC E 9) (n, .inl (fun _ => nI 0)))
  rw [e1, hcA]
  rfl
theorem g_newaC {n : Nat} (r : Nat) (harr : Cond.arrayClass .char ∈ gT) (hn : n < 100000) (hr : gSh E r = 0) (hm : ∀ c k, M.2 c k ≠ r) (hcs : cs.1 + 1 ≤ V.1.cells ∧ cs.2 + n ≤ V.1.slots) (d : decode mm.2.1 pc = .ok (.newarray .char, 2))
    (kk : ∀ a, gG l V mm (gX E r a 10 n) (cs.1 + 1, cs.2 + n) (gZr M r) (pc + 2) lv (.ref a :: st)) : gG l V mm E cs M pc lv (.int (nI n) :: st) := by
  intro p e s m args below meth c H locs ls X hD hS hl2
  obtain ⟨hx, hb, hml, hown, hts, hr', hlk, hK, hB, hnm⟩ := id X
  refine va_newaK hx hb (atype := .char) (hts _ harr) rfl d (N := n) rfl (nI_pos (by omega)) (nI_clamp (by omega)) (by show n * 2 ≤ _; omega) hcs.1 hcs.2 rfl fun H1 cA e1 z1 o1 hArr hfc => ?_
  have hcA : s.vm.findClass ("[" ++ (FieldType.char).toString) = some (gC E 10) := (hK.1.2 1 _ rfl).2
  have hcA : cA = gC E 10 := Option.some.inj (hfc.symm.trans hcA)
  refine kk H.size p e s m args below meth c H1 locs ls X ?_ ⟨Nat.le_trans hS.1 (by omega), fun x h1 h2 => (o1 x (Nat.lt_of_lt_of_le h1 hS.1)).trans (hS.2.1 x h1 h2), hS.2.2⟩ hl2
  refine gX_desc hD hr hm rfl o1 (Nat.le_trans hB hS.1) ?_
  rw [gEnt_i gX_sr (by decide) (by decide), gX_lr, show (fun j => nI ((gZr M r).1 r j)) = (fun _ => nI 0) from funext fun j => by rw [show (gZr M r).1 r j = 0 from if_pos rfl]]
  show H1[H.size]? = some (vp_cell (gC E 10) (n, .inl (fun _ => nI 0)))
  rw [e1, hcA]
  rfl
end gnew2
