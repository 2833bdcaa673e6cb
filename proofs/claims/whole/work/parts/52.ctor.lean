/-! constructors: contracts that make cells -/
theorem ao_at {args a' : Array Value} {s U : State} (hW : s.WarmedH U.vm) {C : String} (h : (Cond.arrayOver (.object C)).before args s = true) : (Cond.arrayOver (.object C)).before a' U = true :=
  va_AO.use (va_AO.moved hW.alike (va_AO.of h))
def gRx (h mc ms : Nat) : Room := { frames := h, cells := mc, slots := ms, locals := 40 * h }
def gQx (E0 : gEnv) (Q : gEnv → gMem → Prop) : Array Value → State → Outcome → State → Prop := fun _ st oc t => (∃ (E : gEnv) (u : gMem), oc = .returned none ∧ Q E u ∧ gBs E = gBs E0 ∧ gD E = gD E0 ∧ gC E = gC E0 ∧ gDesc E u t.heap) ∧ va_F (gA E0) st t
def gVx (h mc ms : Nat) (E : gEnv) (Q : gEnv → gMem → Prop) : gVt := (gRx h mc ms, gQx E Q, mc, ms)
def gMx (l : Launch) (E : gEnv) (mm : gY) (h mc ms : Nat) (av : List Value) (M : gMem) (Q : gEnv → gMem → Prop) : Prop := Met l mm.1 (gWs mm) (gRx h mc ms) (gPc E M av) (gQx E Q) mc ms (gA E)
theorem gMx_of {l : Launch} {E : gEnv} {mm : gY} {h mc ms : Nat} {av : List Value} {M : gMem} {Q : gEnv → gMem → Prop} (lv0 : List (Nat × Value)) (hy : plainName mm.1.cls = true) (hn : (lg_sl av).length ≤ mm.2.2.1) (hlv : lv_args 0 av = lv0)
    (body : gG l (gVx h mc ms E Q) mm E (0, 0) M 0 lv0 []) : gMx l E mm h mc ms av M Q := by
  refine Met.ofW (cc := mm.2.1) (maxL := mm.2.2.1) (ret := mm.2.2.2) hy rfl ?_
  intro p e s m args below meth c s₁ B hml hv
  obtain ⟨rfl, hD, hK, hB⟩ := hv
  have hts := atoms_spec (ws := gWs mm) B.pre
  have hl := lv_entry av (n := mm.2.2.1) hn
  rw [hlv] at hl
  rw [lg_entry_eq]
  exact body p e s m _ below meth c s.heap [] _ ⟨B.exec, B.bytes, hml, findClass_of_methodNamed B.named, fun w hw => hts w (List.mem_cons_of_mem _ hw), B.returns, B.notSynchronized, hK, hB, (name_of_methodNamed B.named B.method).1⟩ hD va_S.rf hl
theorem g_vretX {l : Launch} {h mc ms : Nat} {mm : gY} {E E0 : gEnv} {M : gMem} {pc : Nat} {lv : List (Nat × Value)} {Q : gEnv → gMem → Prop} (hr : mm.2.2.2 = none) (d : decode mm.2.1 pc = .ok (.return_, 1)) (hq : Q E M) (hb : gBs E = gBs E0) (hd : gD E = gD E0) (hc : gC E = gC E0) : gG l (gVx h mc ms E0 Q) mm E (mc, ms) M pc lv [] := by
  intro p e s m args below meth c H locs ls X hD hS hl2
  have hA : gA E = gA E0 := by unfold gA; rw [hb]
  exact W.vret X.1 X.2.1 (X.2.2.2.2.2.1.trans hr) (fun t ht hW => ⟨⟨E, M, rfl, hq, hb, hd, hc, by rw [ht]; exact hD⟩, hA ▸ hS.F ht⟩) hS.2.2 d X.2.2.2.2.2.2.1
section gcx
variable {l : Launch} {V : gVt} {mm : gY} {E : gEnv} {cs : Nat × Nat} {M : gMem} {pc : Nat} {lv : List (Nat × Value)} {st rest : List Value}
theorem g_widen {k n : Nat} (h1 : cs.1 ≤ k) (h2 : cs.2 ≤ n) (kk : gG l V mm E (k, n) M pc lv st) : gG l V mm E cs M pc lv st :=
  fun p e s m args below meth c H locs ls X hD hS hl => W.widen h1 h2 (kk p e s m args below meth c H locs ls X hD hS hl)
theorem g_backX {p : Program} {e : Env} {R : Room} {s : State} {m : MethodId} {args : Array Value} {below : List Frame} {meth : Method} {c : Code} {H : Heap} {locs : List Loc} {Qw : State → Prop} {ls : Array Slot} {Q : gEnv → gMem → Prop} {a : Array Value} {cells slots mc ms : Nat}
    (hr : va_Run p l e R s m args below meth c H locs cells slots mc ms (F0 m pc ls st) rest (gQx E Q a) (gA E)) (hS : va_S (gA E) s.heap H locs)
    (kk : ∀ (E1 : gEnv) (u : gMem) (H1 : Heap) (locs1 : List Loc), Q E1 u → gBs E1 = gBs E → gD E1 = gD E → gC E1 = gC E → gDesc E1 u H1 → va_S (gA E) s.heap H1 locs1 → W p l e R s m args below meth c H1 locs1 (cells + mc) (slots + ms) Qw (F0 m (pc + 3) ls rest)) : W p l e R s m args below meth c H locs cells slots Qw (F0 m pc ls st) := by
  intro T hT X
  obtain ⟨v, st₀, t, T', L, h0, X', hL, e1, e2, ⟨⟨E1, u, hv, hq, hb, hd, hc, hde⟩, hz, hk⟩, stp⟩ := hr T hT X
  cases hv
  rw [h0] at hz hk
  obtain ⟨t2, a1, b1⟩ := kk E1 u T'.heap (locs ++ L) hq hb hd hc (by rw [e1]; exact hde)
    ⟨Nat.le_trans hS.1 (by rw [e1]; exact hz), fun q h1 h2 => by rw [e1, hk q (Nat.lt_of_lt_of_le h1 hS.1) h2]; exact hS.2.1 q h1 h2, fun q hq => by
      rcases List.mem_append.mp hq with h | h
      · exact hS.2.2 q h
      · exact hL q h⟩ T' rfl X'
  exact ⟨t2, stp t2 a1, b1⟩
end gcx
