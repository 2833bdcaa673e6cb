/-! THE MEMORY LOGIC. A memory M is two tables, of numbers and of cells: M.1 a k the number, M.2 a k the cell (0: null) at place k of the cell a; cells are called by numbers of our own, E says at which address each lies (gAd), of which kind it is (gSh: 0 none, 1..8 an object of class vwCl[kind-1], 9 int[], 10 char[], 11 Offer[], 12 Hold[], 13 Change[]), how long it is (gLn). gG: the machine, at pc with these locals and this stack, comes to the method's end. -/
def gOk : Cond → Bool
  | .methodLinkNest _ _ _ _ => true
  | .arrayOver (.object _) => true
  | w => goodWord w
theorem gOk_at {args a' : Array Value} {s U : State} (hW : s.WarmedH U.vm) {w : Cond} (ho : gOk w = true) (h : w.before args s = true) : w.before a' U = true := by
  unfold gOk at ho
  split at ho
  · exact va_Nw.use rfl (va_Nw.warmM hW (va_Nw.of rfl h))
  · exact va_AO.use (va_AO.moved hW.alike (va_AO.of h))
  · exact word_at hW (good_of_word ho) h
def gT : List Cond := lw_tbl.filter gOk
theorem gT_in {w : Cond} (i : Nat) (h : lw_tbl[i]? = some w) (ho : gOk w = true) : w ∈ gT := List.mem_filter.mpr ⟨List.mem_of_getElem? h, ho⟩
theorem gT_ok {w : Cond} (h : w ∈ gT) : gOk w = true := (List.mem_filter.mp h).2
theorem gT_all {ws : List Cond} (ps : List Nat) (hp : ws = ps.filterMap (fun i => lw_tbl[i]?)) (h : ws.all gOk = true) : ∀ w ∈ ws, w ∈ gT := by
  intro w hw
  have h1 := List.all_eq_true.mp h w hw
  rw [hp] at hw
  obtain ⟨i, -, hi⟩ := List.mem_filterMap.mp hw
  exact List.mem_filter.mpr ⟨List.mem_of_getElem? hi, h1⟩
abbrev gY : Type := MethodName × ByteArray × Nat × Option FieldType
abbrev gMem : Type := (Nat → Nat → Nat) × (Nat → Nat → Nat)
abbrev gEnv : Type := (Nat → Nat) × (Nat → Nat) × (Nat → Nat) × Nat × va_G × (Nat → ClassId)
abbrev gVt : Type := Room × (Array Value → State → Outcome → State → Prop) × Nat × Nat
def gAd (E : gEnv) : Nat → Nat := E.1
def gSh (E : gEnv) : Nat → Nat := E.2.1
def gLn (E : gEnv) : Nat → Nat := E.2.2.1
def gBs (E : gEnv) : Nat := E.2.2.2.1
def gD (E : gEnv) : va_G := E.2.2.2.2.1
def gC (E : gEnv) : Nat → ClassId := E.2.2.2.2.2
def gA (E : gEnv) : Nat → Prop := fun q => gBs E ≤ q
/-- which fields of a kind of object are cells -/
def gR : Nat → Nat → Bool
  | 1, k => k == 0 || k == 2
  | 3, k => k == 0
  | 6, _ => true
  | 7, k => k == 0 || k == 2 || k == 3 || k == 4 || k == 6
  | 8, k => k == 0 || k == 3 || k == 4 || k == 9 || k == 10 || k == 15 || k == 16 || k == 18
  | _, _ => false
def gO (E : gEnv) (r : Nat) : Option Nat := if r = 0 then none else some (gAd E r)
def gVl (E : gEnv) (M : gMem) (a k : Nat) : Value := if gR (gSh E a) k = true then va_rf (gO E (M.2 a k)) else .int (nI (M.1 a k))
def gFs (E : gEnv) (M : gMem) (a : Nat) : List Value := (List.range 22).map (gVl E M a)
def gEnt (E : gEnv) (M : gMem) (a : Nat) : va_E :=
  if gSh E a ≤ 8 then .inr (gSh E a - 1, gFs E M a)
  else if gSh E a ≤ 10 then .inl (gC E (gSh E a), gLn E a, .inl (fun j => nI (M.1 a j)))
  else .inl (gC E (gSh E a), gLn E a, .inr (.inr (.inr (.inr (fun j => gO E (M.2 a j))))))
def gDesc (E : gEnv) (M : gMem) (H : Heap) : Prop :=
  (∀ a b, gSh E a ≠ 0 → gSh E b ≠ 0 → gAd E a = gAd E b → a = b) ∧ (∀ a, gSh E a ≠ 0 → gA E (gAd E a)) ∧ ∀ a, gSh E a ≠ 0 → va_at (gD E) vwCl (gAd E a, gEnt E M a) H
def gTy (E : gEnv) : List (ClassId × FieldType) := [(gC E 9, .int), (gC E 10, .char), (gC E 11, .object RX4), (gC E 12, .object RX3), (gC E 13, .object RX1)]
/-- what a state knows of the text that the class begins with: the String's place is gC E 20, its bytes' place gC E 21 -/
def sTx : String := "t2,48;o3,1,1,2,10,1,40;o3,3,2,20,40,0,25;o6,1,2,30,48,1,30;o1,2,12,8,51,0,9;o32,15,15,2,48,0,60;o35,1,4,15,20,0,12;h1,0,12;h2,0,20;"
def sBy : List Int32 := [116, 50, 44, 52, 56, 59, 111, 51, 44, 49, 44, 49, 44, 50, 44, 49, 48, 44, 49, 44, 52, 48, 59, 111, 51, 44, 51, 44, 50, 44, 50, 48, 44, 52, 48, 44, 48, 44, 50, 53, 59, 111, 54, 44, 49, 44, 50, 44, 51, 48, 44, 52, 56, 44, 49, 44, 51, 48, 59, 111, 49, 44, 50, 44, 49, 50, 44, 56, 44, 53, 49, 44, 48, 44, 57, 59, 111, 51, 50, 44, 49, 53, 44, 49, 53, 44, 50, 44, 52, 56, 44, 48, 44, 54, 48, 59, 111, 51, 53, 44, 49, 44, 52, 44, 49, 53, 44, 50, 48, 44, 48, 44, 49, 50, 59, 104, 49, 44, 48, 44, 49, 50, 59, 104, 50, 44, 48, 44, 50, 48, 59]
def gSt (E : gEnv) (U : State) : Prop := vk_R RX6 37 sTx (gC E 20) U ∧ vk_S 1 [131] [sBy] (fun _ => gC E 20) (fun _ => gC E 21) (gA E) U U.heap ∧ va_Z "java/lang/String" "COMPACT_STRINGS" "Z" (.int 1) (gA E) U U.heap ∧ va_Zq "jdk/internal/util/Preconditions" "SIOOBE_FORMATTER" "Ljava/util/function/BiFunction;" (gA E) U U.heap
theorem gSt.mv {E : gEnv} {s U : State} (h : gSt E s) (hW : s.WarmedH U.vm) (hq : ∀ a : Nat, a < s.heap.size → ¬ gA E a → U.heap[a]? = s.heap[a]?) : gSt E U :=
  ⟨vk_R.warm hW h.1, (vk_S.moved hW.alike h.2.1).kept hq, (va_Z.moved hW.alike h.2.2.1).kept hq, (va_Zq.moved hW.alike h.2.2.2).kept hq⟩
theorem gSt.eq {E : gEnv} {s U : State} (h : gSt E s) (hv : U.vm = s.vm) (hh : U.heap = s.heap) : gSt E U := by
  have ha : s.vm.Alike U.vm := by rw [hv]; exact Vm.Alike.refl _
  refine ⟨vk_R.same hv h.1, ?_, ?_, ?_⟩
  · rw [hh]; exact vk_S.moved ha h.2.1
  · rw [hh]; exact va_Z.moved ha h.2.2.1
  · rw [hh]; exact va_Zq.moved ha h.2.2.2
def gK (E : gEnv) (s : State) : Prop := va_K (gD E) vwCl (gTy E) s ∧ gSt E s
def gCx (mm : gY) (E : gEnv) (p : Program) (s : State) (m : MethodId) (args : Array Value) (meth : Method) (c : Code) : Prop :=
  p.tables.exec = Jvm.exec ∧ c.code = mm.2.1 ∧ c.maxLocals = mm.2.2.1 ∧ s.vm.findClass mm.1.cls = some m.cls ∧ (∀ w ∈ gT, w.before args s = true) ∧ meth.sig.returnType = mm.2.2.2 ∧ meth.locks = false ∧ gK E s ∧ gBs E ≤ s.heap.size ∧ meth.name = mm.1.name
def gG (l : Launch) (V : gVt) (mm : gY) (E : gEnv) (cs : Nat × Nat) (M : gMem) (pc : Nat) (lv : List (Nat × Value)) (st : List Value) : Prop :=
  ∀ (p : Program) (e : Env) (s : State) (m : MethodId) (args : Array Value) (below : List Frame) (meth : Method) (c : Code) (H : Heap) (locs : List Loc) (ls : Array Slot),
    gCx mm E p s m args meth c → gDesc E M H → va_S (gA E) s.heap H locs → lv_has ls mm.2.2.1 lv →
    W p l e V.1 s m args below meth c H locs cs.1 cs.2 (MQ below V.2.1 args s V.2.2.1 V.2.2.2 (gA E)) (F0 m pc ls st)
def gRm (h : Nat) : Room := { frames := h, cells := 0, slots := 0, locals := 40 * h }
/-- a method's end: what it answers and the memory that it leaves -/
def gQp (E : gEnv) (Q : Option Value → gMem → Prop) : Array Value → State → Outcome → State → Prop := fun _ st oc t => (∃ (v : Option Value) (u : gMem), oc = .returned v ∧ Q v u ∧ gDesc E u t.heap) ∧ va_F (gA E) st t
def gV0 (h : Nat) (E : gEnv) (Q : Option Value → gMem → Prop) : gVt := (gRm h, gQp E Q, 0, 0)
def gWs (mm : gY) : List Cond := .code mm.1 mm.2.1 mm.2.2.1 mm.2.2.2 :: gT
def gPc (E : gEnv) (M : gMem) (av : List Value) : Array Value → State → Prop := va_Pc av (fun U => gDesc E M U.heap ∧ gK E U ∧ gBs E ≤ U.heap.size)
/-- a method's contract: from the memory M with the arguments av it comes to an end with Q; h: its height among the calls -/
def gMet (l : Launch) (E : gEnv) (mm : gY) (h : Nat) (av : List Value) (M : gMem) (Q : Option Value → gMem → Prop) : Prop := Met l mm.1 (gWs mm) (gRm h) (gPc E M av) (gQp E Q) 0 0 (gA E)
abbrev gMetI (l : Launch) (E : gEnv) (mm : gY) (h : Nat) (av : List Value) (M : gMem) (r : Int32) : Prop := gMet l E mm h av M (fun v u => v = some (.int r) ∧ u = M)
abbrev gMetL (l : Launch) (E : gEnv) (mm : gY) (h : Nat) (av : List Value) (M : gMem) (r : Int64) : Prop := gMet l E mm h av M (fun v u => v = some (.long r) ∧ u = M)
abbrev gMetU (l : Launch) (E : gEnv) (mm : gY) (h : Nat) (av : List Value) (M M' : gMem) : Prop := gMet l E mm h av M (fun v u => v = none ∧ u = M')
def gb (b : Bool) : Int32 := if b then 1 else 0
theorem gPc_blind (E : gEnv) (M : gMem) (av : List Value) : FrameBlind (gPc E M av) := by
  intro a U g mk q
  obtain ⟨q0, q1, q2, q3⟩ := q
  exact ⟨q0, q1, ⟨va_K.moved (u := U) (U := U.calling g mk a) (Vm.Alike.refl U.vm) q2.1, gSt.eq q2.2 rfl rfl⟩, q3⟩
theorem gMet_of {l : Launch} {E : gEnv} {mm : gY} {h : Nat} {av : List Value} {M : gMem} {Q : Option Value → gMem → Prop} (lv0 : List (Nat × Value)) (hy : plainName mm.1.cls = true) (hn : (lg_sl av).length ≤ mm.2.2.1) (hlv : lv_args 0 av = lv0)
    (body : gG l (gV0 h E Q) mm E (0, 0) M 0 lv0 []) : gMet l E mm h av M Q := by
  refine Met.ofW (cc := mm.2.1) (maxL := mm.2.2.1) (ret := mm.2.2.2) hy rfl ?_
  intro p e s m args below meth c s₁ B hml hv
  obtain ⟨rfl, hD, hK, hB⟩ := hv
  have hts := atoms_spec (ws := gWs mm) B.pre
  have hl := lv_entry av (n := mm.2.2.1) hn
  rw [hlv] at hl
  rw [lg_entry_eq]
  exact body p e s m _ below meth c s.heap [] _ ⟨B.exec, B.bytes, hml, findClass_of_methodNamed B.named, fun w hw => hts w (List.mem_cons_of_mem _ hw), B.returns, B.notSynchronized, hK, hB, (name_of_methodNamed B.named B.method).1⟩ hD va_S.rf hl
section gRows
variable {l : Launch} {V : gVt} {mm : gY} {E : gEnv} {cs : Nat × Nat} {M : gMem} {pc : Nat} {lv : List (Nat × Value)} {st : List Value}
/-- storing into a local: the list stays in order -/
def gst (i : Nat) (v : Value) : List (Nat × Value) → List (Nat × Value)
  | [] => [(i, v)]
  | q :: t => if q.1 < i then q :: gst i v t else if q.1 = i then (i, v) :: t else (i, v) :: q :: t
def gok (i : Nat) : List (Nat × Value) → Bool
  | [] => true
  | q :: t => !(q.1 + 1 == i && q.2.category == 2) && gok i t
def gap (i : Nat) : List (Nat × Value) → Bool
  | [] => true
  | q :: t => (match t with | [] => true | r :: _ => decide (q.1 < r.1)) && gap i t
theorem gok_mem {i : Nat} {l : List (Nat × Value)} (h : gok i l = true) : ∀ q ∈ l, (!(q.1 + 1 == i && q.2.category == 2)) = true := by
  induction l with
  | nil => intro q hq; cases hq
  | cons a t ih =>
    simp only [gok, Bool.and_eq_true] at h
    intro q hq
    rcases List.mem_cons.mp hq with e | e
    · rw [e]; exact h.1
    · exact ih h.2 q e
def gsl (n i : Nat) (v : Value) (l : List (Nat × Value)) : List (Nat × Value) := gst i v (l.filter (fun q => !(q.1 == i) && !(n == 2 && q.1 == i + 1)))
theorem gst_mem {i : Nat} {v : Value} {l : List (Nat × Value)} {q : Nat × Value} (h : q ∈ gst i v l) : q = (i, v) ∨ q ∈ l := by
  induction l with
  | nil => exact Or.inl (List.mem_singleton.mp h)
  | cons a t ih =>
    unfold gst at h
    split at h
    · rcases List.mem_cons.mp h with e | e
      · exact Or.inr (by rw [e]; exact List.mem_cons_self)
      · rcases ih e with e | e
        · exact Or.inl e
        · exact Or.inr (List.mem_cons_of_mem _ e)
    · split at h
      · rcases List.mem_cons.mp h with e | e
        · exact Or.inl e
        · exact Or.inr (List.mem_cons_of_mem _ e)
      · rcases List.mem_cons.mp h with e | e
        · exact Or.inl e
        · exact Or.inr e
theorem gsl_has1 {ls : Array Slot} {nL i : Nat} {v : Value} {l l' : List (Nat × Value)} (hk : gok i l = true) (hl : gsl 1 i v l = l') (h : lv_has ls nL ((i, v) :: l.filter (fun q => !(q.1 == i) && !(q.1 + 1 == i && q.2.category == 2)))) : lv_has ls nL l' := by
  refine ⟨h.1, h.2.1, fun q hq => h.2.2 q ?_⟩
  rw [← hl] at hq
  rcases gst_mem hq with e | e
  · rw [e]; exact List.mem_cons_self
  · have e1 := List.mem_filter.mp e
    refine List.mem_cons_of_mem _ (List.mem_filter.mpr ⟨e1.1, ?_⟩)
    have e2 := gok_mem hk q e1.1
    have e3 := e1.2
    simp only [Bool.and_eq_true] at e3 ⊢
    exact ⟨e3.1, e2⟩
theorem gsl_has2 {ls : Array Slot} {nL i : Nat} {v : Value} {l l' : List (Nat × Value)} (hk : gok i l = true) (hl : gsl 2 i v l = l') (h : lv_has ls nL ((i, v) :: l.filter (fun q => !(q.1 == i) && (!(q.1 == i + 1) && !(q.1 + 1 == i && q.2.category == 2))))) : lv_has ls nL l' := by
  refine ⟨h.1, h.2.1, fun q hq => h.2.2 q ?_⟩
  rw [← hl] at hq
  rcases gst_mem hq with e | e
  · rw [e]; exact List.mem_cons_self
  · have e1 := List.mem_filter.mp e
    refine List.mem_cons_of_mem _ (List.mem_filter.mpr ⟨e1.1, ?_⟩)
    have e2 := gok_mem hk q e1.1
    have e3 := e1.2
    simp only [Bool.and_eq_true] at e3 ⊢
    exact ⟨e3.1, by simpa using e3.2, e2⟩
theorem g_perm (lv' : List (Nat × Value)) (h : ∀ q ∈ lv', q ∈ lv) (k : gG l V mm E cs M pc lv' st) : gG l V mm E cs M pc lv st :=
  fun p e s m args below meth c H locs ls C hD hS hl => k p e s m args below meth c H locs ls C hD hS ⟨hl.1, hl.2.1, fun q hq => hl.2.2 q (h q hq)⟩
theorem g_pick (ks : List Nat) (lv' : List (Nat × Value)) (h : lv_pick lv ks = lv') (k : gG l V mm E cs M pc lv' st) : gG l V mm E cs M pc lv st :=
  fun p e s m args below meth c H locs ls C hD hS hl => k p e s m args below meth c H locs ls C hD hS (lv_sub hl ks h)
theorem g_top {v v' : Value} (h : v = v') (k : gG l V mm E cs M pc lv (v' :: st)) : gG l V mm E cs M pc lv (v :: st) := by rw [h]; exact k
theorem g_topi {x x' : Int32} (h : x = x') (k : gG l V mm E cs M pc lv (.int x' :: st)) : gG l V mm E cs M pc lv (.int x :: st) := by rw [h]; exact k
theorem g_topl {x x' : Int64} (h : x = x') (k : gG l V mm E cs M pc lv (.long x' :: st)) : gG l V mm E cs M pc lv (.long x :: st) := by rw [h]; exact k

theorem g_iconst {n : Int} (v : Int32) (hv : Int32.ofInt n = v) (d : decode mm.2.1 pc = .ok (.iconst n, 1)) (k : gG l V mm E cs M (pc + 1) lv (.int v :: st)) : gG l V mm E cs M pc lv st :=
  fun p e s m args below meth c H locs ls C hD hS hl => lv_iconst C.1 C.2.1 d hv (k p e s m args below meth c H locs ls C hD hS hl)
theorem g_bipush {n : Int} (v : Int32) (hv : (Int8.ofInt n).toInt32 = v) (d : decode mm.2.1 pc = .ok (.bipush n, 2)) (k : gG l V mm E cs M (pc + 2) lv (.int v :: st)) : gG l V mm E cs M pc lv st :=
  fun p e s m args below meth c H locs ls C hD hS hl => lv_bipush C.1 C.2.1 d hv (k p e s m args below meth c H locs ls C hD hS hl)
theorem g_sipush {n : Int} (v : Int32) (hv : (Int16.ofInt n).toInt32 = v) (d : decode mm.2.1 pc = .ok (.sipush n, 3)) (k : gG l V mm E cs M (pc + 3) lv (.int v :: st)) : gG l V mm E cs M pc lv st :=
  fun p e s m args below meth c H locs ls C hD hS hl => lv_sipush C.1 C.2.1 d hv (k p e s m args below meth c H locs ls C hD hS hl)
theorem g_lconst {n : Fin 2} (v : Int64) (hv : Int64.ofNat (n : Nat) = v) (d : decode mm.2.1 pc = .ok (.lconst n, 1)) (k : gG l V mm E cs M (pc + 1) lv (.long v :: st)) : gG l V mm E cs M pc lv st :=
  fun p e s m args below meth c H locs ls C hD hS hl => lv_lconst C.1 C.2.1 d hv (k p e s m args below meth c H locs ls C hD hS hl)
theorem g_null  (d : decode mm.2.1 pc = .ok (.aconst_null, 1)) (k : gG l V mm E cs M (pc + 1) lv (.null :: st)) : gG l V mm E cs M pc lv st :=
  fun p e s m args below meth c H locs ls C hD hS hl => lv_null C.1 C.2.1 d (k p e s m args below meth c H locs ls C hD hS hl)
theorem g_iload_n {k0 : Fin 4} {i : Nat} {x : Int32} (q : Nat) (hq : lv[q]? = some (i, .int x)) (hi : (k0 : Nat) = i) (d : decode mm.2.1 pc = .ok (.iload_n k0, 1)) (k : gG l V mm E cs M (pc + 1) lv (.int x :: st)) : gG l V mm E cs M pc lv st :=
  fun p e s m args below meth c H locs ls C hD hS hl => lv_iload_n C.1 C.2.1 d hi (lv_at hl q hq) (k p e s m args below meth c H locs ls C hD hS hl)
theorem g_iload {i : Nat} {x : Int32} (q : Nat) (hq : lv[q]? = some (i, .int x)) (d : decode mm.2.1 pc = .ok (.iload i, 2)) (k : gG l V mm E cs M (pc + 2) lv (.int x :: st)) : gG l V mm E cs M pc lv st :=
  fun p e s m args below meth c H locs ls C hD hS hl => lv_iload C.1 C.2.1 d (lv_at hl q hq) (k p e s m args below meth c H locs ls C hD hS hl)
theorem g_lload_n {k0 : Fin 4} {i : Nat} {x : Int64} (q : Nat) (hq : lv[q]? = some (i, .long x)) (hi : (k0 : Nat) = i) (d : decode mm.2.1 pc = .ok (.lload_n k0, 1)) (k : gG l V mm E cs M (pc + 1) lv (.long x :: st)) : gG l V mm E cs M pc lv st :=
  fun p e s m args below meth c H locs ls C hD hS hl => lv_lload_n C.1 C.2.1 d hi (lv_at hl q hq) (k p e s m args below meth c H locs ls C hD hS hl)
theorem g_lload {i : Nat} {x : Int64} (q : Nat) (hq : lv[q]? = some (i, .long x)) (d : decode mm.2.1 pc = .ok (.lload i, 2)) (k : gG l V mm E cs M (pc + 2) lv (.long x :: st)) : gG l V mm E cs M pc lv st :=
  fun p e s m args below meth c H locs ls C hD hS hl => lv_lload C.1 C.2.1 d (lv_at hl q hq) (k p e s m args below meth c H locs ls C hD hS hl)
theorem g_aload_n {k0 : Fin 4} {i : Nat} {x : Nat} (q : Nat) (hq : lv[q]? = some (i, .ref x)) (hi : (k0 : Nat) = i) (d : decode mm.2.1 pc = .ok (.aload_n k0, 1)) (k : gG l V mm E cs M (pc + 1) lv (.ref x :: st)) : gG l V mm E cs M pc lv st :=
  fun p e s m args below meth c H locs ls C hD hS hl => lv_aload_n C.1 C.2.1 d hi (lv_at hl q hq) (k p e s m args below meth c H locs ls C hD hS hl)
theorem g_aload {i : Nat} {x : Nat} (q : Nat) (hq : lv[q]? = some (i, .ref x)) (d : decode mm.2.1 pc = .ok (.aload i, 2)) (k : gG l V mm E cs M (pc + 2) lv (.ref x :: st)) : gG l V mm E cs M pc lv st :=
  fun p e s m args below meth c H locs ls C hD hS hl => lv_aload C.1 C.2.1 d (lv_at hl q hq) (k p e s m args below meth c H locs ls C hD hS hl)
theorem g_istore_n {k0 : Fin 4} {i : Nat} {x : Int32} (hi : (k0 : Nat) = i) (lv' : List (Nat × Value)) (d : decode mm.2.1 pc = .ok (.istore_n k0, 1)) (hn : i < mm.2.2.1) (hk : gok i lv = true) (hl0 : gsl 1 i (.int x) lv = lv') (k : gG l V mm E cs M (pc + 1) lv' st) : gG l V mm E cs M pc lv (.int x :: st) :=
  fun p e s m args below meth c H locs ls C hD hS hl => lv_istore_n C.1 C.2.1 d hi hl hn rfl (fun ls' hl' => k p e s m args below meth c H locs ls' C hD hS (gsl_has1 hk hl0 hl'))
theorem g_istore {i : Nat} {x : Int32} (lv' : List (Nat × Value)) (d : decode mm.2.1 pc = .ok (.istore i, 2)) (hn : i < mm.2.2.1) (hk : gok i lv = true) (hl0 : gsl 1 i (.int x) lv = lv') (k : gG l V mm E cs M (pc + 2) lv' st) : gG l V mm E cs M pc lv (.int x :: st) :=
  fun p e s m args below meth c H locs ls C hD hS hl => lv_istore C.1 C.2.1 d hl hn rfl (fun ls' hl' => k p e s m args below meth c H locs ls' C hD hS (gsl_has1 hk hl0 hl'))
theorem g_lstore_n {k0 : Fin 4} {i : Nat} {x : Int64} (hi : (k0 : Nat) = i) (lv' : List (Nat × Value)) (d : decode mm.2.1 pc = .ok (.lstore_n k0, 1)) (hn : i + 1 < mm.2.2.1) (hk : gok i lv = true) (hl0 : gsl 2 i (.long x) lv = lv') (k : gG l V mm E cs M (pc + 1) lv' st) : gG l V mm E cs M pc lv (.long x :: st) :=
  fun p e s m args below meth c H locs ls C hD hS hl => lv_lstore_n C.1 C.2.1 d hi hl hn rfl (fun ls' hl' => k p e s m args below meth c H locs ls' C hD hS (gsl_has2 hk hl0 hl'))
theorem g_lstore {i : Nat} {x : Int64} (lv' : List (Nat × Value)) (d : decode mm.2.1 pc = .ok (.lstore i, 2)) (hn : i + 1 < mm.2.2.1) (hk : gok i lv = true) (hl0 : gsl 2 i (.long x) lv = lv') (k : gG l V mm E cs M (pc + 2) lv' st) : gG l V mm E cs M pc lv (.long x :: st) :=
  fun p e s m args below meth c H locs ls C hD hS hl => lv_lstore C.1 C.2.1 d hl hn rfl (fun ls' hl' => k p e s m args below meth c H locs ls' C hD hS (gsl_has2 hk hl0 hl'))
theorem g_astore_n {k0 : Fin 4} {i : Nat} {x : Nat} (hi : (k0 : Nat) = i) (lv' : List (Nat × Value)) (d : decode mm.2.1 pc = .ok (.astore_n k0, 1)) (hn : i < mm.2.2.1) (hk : gok i lv = true) (hl0 : gsl 1 i (.ref x) lv = lv') (k : gG l V mm E cs M (pc + 1) lv' st) : gG l V mm E cs M pc lv (.ref x :: st) :=
  fun p e s m args below meth c H locs ls C hD hS hl => lv_astore_n C.1 C.2.1 d hi hl hn rfl (fun ls' hl' => k p e s m args below meth c H locs ls' C hD hS (gsl_has1 hk hl0 hl'))
theorem g_astore {i : Nat} {x : Nat} (lv' : List (Nat × Value)) (d : decode mm.2.1 pc = .ok (.astore i, 2)) (hn : i < mm.2.2.1) (hk : gok i lv = true) (hl0 : gsl 1 i (.ref x) lv = lv') (k : gG l V mm E cs M (pc + 2) lv' st) : gG l V mm E cs M pc lv (.ref x :: st) :=
  fun p e s m args below meth c H locs ls C hD hS hl => lv_astore C.1 C.2.1 d hl hn rfl (fun ls' hl' => k p e s m args below meth c H locs ls' C hD hS (gsl_has1 hk hl0 hl'))
theorem g_astore_nN {k0 : Fin 4} {i : Nat} (hi : (k0 : Nat) = i) (lv' : List (Nat × Value)) (d : decode mm.2.1 pc = .ok (.astore_n k0, 1)) (hn : i < mm.2.2.1) (hk : gok i lv = true) (hl0 : gsl 1 i .null lv = lv') (k : gG l V mm E cs M (pc + 1) lv' st) : gG l V mm E cs M pc lv (.null :: st) :=
  fun p e s m args below meth c H locs ls C hD hS hl => lv_astore_nN C.1 C.2.1 d hi hl hn rfl (fun ls' hl' => k p e s m args below meth c H locs ls' C hD hS (gsl_has1 hk hl0 hl'))
theorem g_astoreN {i : Nat} (lv' : List (Nat × Value)) (d : decode mm.2.1 pc = .ok (.astore i, 2)) (hn : i < mm.2.2.1) (hk : gok i lv = true) (hl0 : gsl 1 i .null lv = lv') (k : gG l V mm E cs M (pc + 2) lv' st) : gG l V mm E cs M pc lv (.null :: st) :=
  fun p e s m args below meth c H locs ls C hD hS hl => lv_astoreN C.1 C.2.1 d hl hn rfl (fun ls' hl' => k p e s m args below meth c H locs ls' C hD hS (gsl_has1 hk hl0 hl'))
theorem g_iinc {i : Nat} {n : Int} {x : Int32} (q : Nat) (v : Int32) (lv' : List (Nat × Value)) (hq : lv[q]? = some (i, .int x)) (hv : x + Int32.ofInt n = v) (d : decode mm.2.1 pc = .ok (.iinc i n, 3)) (hn : i < mm.2.2.1) (hk : gok i lv = true) (hl0 : gsl 1 i (.int v) lv = lv') (k : gG l V mm E cs M (pc + 3) lv' st) : gG l V mm E cs M pc lv st :=
  fun p e s m args below meth c H locs ls C hD hS hl => lv_iinc C.1 C.2.1 d hl hq hv hn rfl (fun ls' hl' => k p e s m args below meth c H locs ls' C hD hS (gsl_has1 hk hl0 hl'))
theorem g_iadd {x y : Int32} (d : decode mm.2.1 pc = .ok (.iadd, 1)) (k : gG l V mm E cs M (pc + 1) lv (.int (x + y) :: st)) : gG l V mm E cs M pc lv (.int y :: .int x :: st) :=
  fun p e s m args below meth c H locs ls C hD hS hl => lv_iadd C.1 C.2.1 d (k p e s m args below meth c H locs ls C hD hS hl)
theorem g_isub {x y : Int32} (d : decode mm.2.1 pc = .ok (.isub, 1)) (k : gG l V mm E cs M (pc + 1) lv (.int (x - y) :: st)) : gG l V mm E cs M pc lv (.int y :: .int x :: st) :=
  fun p e s m args below meth c H locs ls C hD hS hl => lv_isub C.1 C.2.1 d (k p e s m args below meth c H locs ls C hD hS hl)
theorem g_imul {x y : Int32} (d : decode mm.2.1 pc = .ok (.imul, 1)) (k : gG l V mm E cs M (pc + 1) lv (.int (x * y) :: st)) : gG l V mm E cs M pc lv (.int y :: .int x :: st) :=
  fun p e s m args below meth c H locs ls C hD hS hl => lv_imul C.1 C.2.1 d (k p e s m args below meth c H locs ls C hD hS hl)
theorem g_iand {x y : Int32} (d : decode mm.2.1 pc = .ok (.iand, 1)) (k : gG l V mm E cs M (pc + 1) lv (.int (x &&& y) :: st)) : gG l V mm E cs M pc lv (.int y :: .int x :: st) :=
  fun p e s m args below meth c H locs ls C hD hS hl => lv_iand C.1 C.2.1 d (k p e s m args below meth c H locs ls C hD hS hl)
theorem g_ior {x y : Int32} (d : decode mm.2.1 pc = .ok (.ior, 1)) (k : gG l V mm E cs M (pc + 1) lv (.int (x ||| y) :: st)) : gG l V mm E cs M pc lv (.int y :: .int x :: st) :=
  fun p e s m args below meth c H locs ls C hD hS hl => lv_ior C.1 C.2.1 d (k p e s m args below meth c H locs ls C hD hS hl)
theorem g_ixor {x y : Int32} (d : decode mm.2.1 pc = .ok (.ixor, 1)) (k : gG l V mm E cs M (pc + 1) lv (.int (x ^^^ y) :: st)) : gG l V mm E cs M pc lv (.int y :: .int x :: st) :=
  fun p e s m args below meth c H locs ls C hD hS hl => lv_ixor C.1 C.2.1 d (k p e s m args below meth c H locs ls C hD hS hl)
theorem g_ishl {x y : Int32} (d : decode mm.2.1 pc = .ok (.ishl, 1)) (k : gG l V mm E cs M (pc + 1) lv (.int (x <<< (y &&& 31)) :: st)) : gG l V mm E cs M pc lv (.int y :: .int x :: st) :=
  fun p e s m args below meth c H locs ls C hD hS hl => lv_ishl C.1 C.2.1 d (k p e s m args below meth c H locs ls C hD hS hl)
theorem g_ishr {x y : Int32} (d : decode mm.2.1 pc = .ok (.ishr, 1)) (k : gG l V mm E cs M (pc + 1) lv (.int (x >>> (y &&& 31)) :: st)) : gG l V mm E cs M pc lv (.int y :: .int x :: st) :=
  fun p e s m args below meth c H locs ls C hD hS hl => lv_ishr C.1 C.2.1 d (k p e s m args below meth c H locs ls C hD hS hl)
theorem g_iushr {x y : Int32} (v : Int32) (hv : (x.toUInt32 >>> (y.toUInt32 &&& Int32.toUInt32 31)).toInt32 = v) (d : decode mm.2.1 pc = .ok (.iushr, 1)) (k : gG l V mm E cs M (pc + 1) lv (.int v :: st)) : gG l V mm E cs M pc lv (.int y :: .int x :: st) :=
  fun p e s m args below meth c H locs ls C hD hS hl => lv_iushr C.1 C.2.1 d hv (k p e s m args below meth c H locs ls C hD hS hl)
theorem g_idiv {x y : Int32} (hne : ¬ y = 0) (d : decode mm.2.1 pc = .ok (.idiv, 1)) (k : gG l V mm E cs M (pc + 1) lv (.int (x / y) :: st)) : gG l V mm E cs M pc lv (.int y :: .int x :: st) :=
  fun p e s m args below meth c H locs ls C hD hS hl => lv_idiv C.1 C.2.1 d hne (k p e s m args below meth c H locs ls C hD hS hl)
theorem g_irem {x y : Int32} (hne : ¬ y = 0) (d : decode mm.2.1 pc = .ok (.irem, 1)) (k : gG l V mm E cs M (pc + 1) lv (.int (x - x / y * y) :: st)) : gG l V mm E cs M pc lv (.int y :: .int x :: st) :=
  fun p e s m args below meth c H locs ls C hD hS hl => lv_irem C.1 C.2.1 d hne (k p e s m args below meth c H locs ls C hD hS hl)
theorem g_ladd {x y : Int64} (d : decode mm.2.1 pc = .ok (.ladd, 1)) (k : gG l V mm E cs M (pc + 1) lv (.long (x + y) :: st)) : gG l V mm E cs M pc lv (.long y :: .long x :: st) :=
  fun p e s m args below meth c H locs ls C hD hS hl => lv_ladd C.1 C.2.1 d (k p e s m args below meth c H locs ls C hD hS hl)
theorem g_lsub {x y : Int64} (d : decode mm.2.1 pc = .ok (.lsub, 1)) (k : gG l V mm E cs M (pc + 1) lv (.long (x - y) :: st)) : gG l V mm E cs M pc lv (.long y :: .long x :: st) :=
  fun p e s m args below meth c H locs ls C hD hS hl => lv_lsub C.1 C.2.1 d (k p e s m args below meth c H locs ls C hD hS hl)
theorem g_land {x y : Int64} (d : decode mm.2.1 pc = .ok (.land, 1)) (k : gG l V mm E cs M (pc + 1) lv (.long (x &&& y) :: st)) : gG l V mm E cs M pc lv (.long y :: .long x :: st) :=
  fun p e s m args below meth c H locs ls C hD hS hl => lv_land C.1 C.2.1 d (k p e s m args below meth c H locs ls C hD hS hl)
theorem g_lor {x y : Int64} (d : decode mm.2.1 pc = .ok (.lor, 1)) (k : gG l V mm E cs M (pc + 1) lv (.long (x ||| y) :: st)) : gG l V mm E cs M pc lv (.long y :: .long x :: st) :=
  fun p e s m args below meth c H locs ls C hD hS hl => lv_lor C.1 C.2.1 d (k p e s m args below meth c H locs ls C hD hS hl)
theorem g_lxor {x y : Int64} (d : decode mm.2.1 pc = .ok (.lxor, 1)) (k : gG l V mm E cs M (pc + 1) lv (.long (x ^^^ y) :: st)) : gG l V mm E cs M pc lv (.long y :: .long x :: st) :=
  fun p e s m args below meth c H locs ls C hD hS hl => lv_lxor C.1 C.2.1 d (k p e s m args below meth c H locs ls C hD hS hl)
theorem g_lshl {x : Int64} {y : Int32} (v : Int64) (hv : x <<< (y.toInt64 &&& 63) = v) (d : decode mm.2.1 pc = .ok (.lshl, 1)) (k : gG l V mm E cs M (pc + 1) lv (.long v :: st)) : gG l V mm E cs M pc lv (.int y :: .long x :: st) :=
  fun p e s m args below meth c H locs ls C hD hS hl => lv_lshl C.1 C.2.1 d hv (k p e s m args below meth c H locs ls C hD hS hl)
theorem g_lshr {x : Int64} {y : Int32} (v : Int64) (hv : x >>> (y.toInt64 &&& 63) = v) (d : decode mm.2.1 pc = .ok (.lshr, 1)) (k : gG l V mm E cs M (pc + 1) lv (.long v :: st)) : gG l V mm E cs M pc lv (.int y :: .long x :: st) :=
  fun p e s m args below meth c H locs ls C hD hS hl => lv_lshr C.1 C.2.1 d hv (k p e s m args below meth c H locs ls C hD hS hl)
theorem g_lushr {x : Int64} {y : Int32} (v : Int64) (hv : (x.toUInt64 >>> (y.toInt64.toUInt64 &&& Int64.toUInt64 63)).toInt64 = v) (d : decode mm.2.1 pc = .ok (.lushr, 1)) (k : gG l V mm E cs M (pc + 1) lv (.long v :: st)) : gG l V mm E cs M pc lv (.int y :: .long x :: st) :=
  fun p e s m args below meth c H locs ls C hD hS hl => lv_lushr C.1 C.2.1 d hv (k p e s m args below meth c H locs ls C hD hS hl)
theorem g_l2i {x : Int64} (v : Int32) (hv : x.toInt32 = v) (d : decode mm.2.1 pc = .ok (.l2i, 1)) (k : gG l V mm E cs M (pc + 1) lv (.int v :: st)) : gG l V mm E cs M pc lv (.long x :: st) :=
  fun p e s m args below meth c H locs ls C hD hS hl => lv_l2i C.1 C.2.1 d hv (k p e s m args below meth c H locs ls C hD hS hl)
theorem g_i2c {x : Int32} (v : Int32) (hv : (x.toUInt32 % 65536).toInt32 = v) (d : decode mm.2.1 pc = .ok (.i2c, 1)) (k : gG l V mm E cs M (pc + 1) lv (.int v :: st)) : gG l V mm E cs M pc lv (.int x :: st) :=
  fun p e s m args below meth c H locs ls C hD hS hl => lv_i2c C.1 C.2.1 d hv (k p e s m args below meth c H locs ls C hD hS hl)
theorem g_dup {v : Value} (hv : v.category = 1) (d : decode mm.2.1 pc = .ok (.dup, 1)) (k : gG l V mm E cs M (pc + 1) lv (v :: v :: st)) : gG l V mm E cs M pc lv (v :: st) :=
  fun p e s m args below meth c H locs ls C hD hS hl => lv_dup C.1 C.2.1 d hv (k p e s m args below meth c H locs ls C hD hS hl)
theorem g_pop {v : Value} (hv : v.category = 1) (d : decode mm.2.1 pc = .ok (.pop, 1)) (k : gG l V mm E cs M (pc + 1) lv st) : gG l V mm E cs M pc lv (v :: st) :=
  fun p e s m args below meth c H locs ls C hD hS hl => lv_pop C.1 C.2.1 d hv (k p e s m args below meth c H locs ls C hD hS hl)
theorem g_dup2 {va vb : Value} (hva : va.category = 1) (hvb : vb.category = 1) (d : decode mm.2.1 pc = .ok (.dup2, 1)) (k : gG l V mm E cs M (pc + 1) lv (va :: vb :: va :: vb :: st)) : gG l V mm E cs M pc lv (va :: vb :: st) :=
  fun p e s m args below meth c H locs ls C hD hS hl => lv_dup2_11 C.1 C.2.1 d hva hvb (k p e s m args below meth c H locs ls C hD hS hl)
theorem g_icmp_eq {x y : Int32} {off : Int} (tgt : Nat) (d : decode mm.2.1 pc = .ok (.if_icmp .eq off, 3)) (ht : (pc : Int) + off = (tgt : Int)) (kt : (x = y) → gG l V mm E cs M tgt lv st) (kf : ¬ (x = y) → gG l V mm E cs M (pc + 3) lv st) : gG l V mm E cs M pc lv (.int y :: .int x :: st) :=
  fun p e s m args below meth c H locs ls C hD hS hl => lv_icmp_eq C.1 C.2.1 d ht (fun h => kt h p e s m args below meth c H locs ls C hD hS hl) (fun h => kf h p e s m args below meth c H locs ls C hD hS hl)
theorem g_if_eq {x : Int32} {off : Int} (tgt : Nat) (d : decode mm.2.1 pc = .ok (.ifCond .eq off, 3)) (ht : (pc : Int) + off = (tgt : Int)) (kt : (x = 0) → gG l V mm E cs M tgt lv st) (kf : ¬ (x = 0) → gG l V mm E cs M (pc + 3) lv st) : gG l V mm E cs M pc lv (.int x :: st) :=
  fun p e s m args below meth c H locs ls C hD hS hl => lv_if_eq C.1 C.2.1 d ht (fun h => kt h p e s m args below meth c H locs ls C hD hS hl) (fun h => kf h p e s m args below meth c H locs ls C hD hS hl)
theorem g_icmp_ne {x y : Int32} {off : Int} (tgt : Nat) (d : decode mm.2.1 pc = .ok (.if_icmp .ne off, 3)) (ht : (pc : Int) + off = (tgt : Int)) (kt : (¬ x = y) → gG l V mm E cs M tgt lv st) (kf : x = y → gG l V mm E cs M (pc + 3) lv st) : gG l V mm E cs M pc lv (.int y :: .int x :: st) :=
  fun p e s m args below meth c H locs ls C hD hS hl => lv_icmp_ne C.1 C.2.1 d ht (fun h => kt h p e s m args below meth c H locs ls C hD hS hl) (fun h => kf h p e s m args below meth c H locs ls C hD hS hl)
theorem g_if_ne {x : Int32} {off : Int} (tgt : Nat) (d : decode mm.2.1 pc = .ok (.ifCond .ne off, 3)) (ht : (pc : Int) + off = (tgt : Int)) (kt : (¬ x = 0) → gG l V mm E cs M tgt lv st) (kf : x = 0 → gG l V mm E cs M (pc + 3) lv st) : gG l V mm E cs M pc lv (.int x :: st) :=
  fun p e s m args below meth c H locs ls C hD hS hl => lv_if_ne C.1 C.2.1 d ht (fun h => kt h p e s m args below meth c H locs ls C hD hS hl) (fun h => kf h p e s m args below meth c H locs ls C hD hS hl)
theorem g_icmp_lt {x y : Int32} {off : Int} (tgt : Nat) (d : decode mm.2.1 pc = .ok (.if_icmp .lt off, 3)) (ht : (pc : Int) + off = (tgt : Int)) (kt : (x < y) → gG l V mm E cs M tgt lv st) (kf : ¬ (x < y) → gG l V mm E cs M (pc + 3) lv st) : gG l V mm E cs M pc lv (.int y :: .int x :: st) :=
  fun p e s m args below meth c H locs ls C hD hS hl => lv_icmp_lt C.1 C.2.1 d ht (fun h => kt h p e s m args below meth c H locs ls C hD hS hl) (fun h => kf h p e s m args below meth c H locs ls C hD hS hl)
theorem g_if_lt {x : Int32} {off : Int} (tgt : Nat) (d : decode mm.2.1 pc = .ok (.ifCond .lt off, 3)) (ht : (pc : Int) + off = (tgt : Int)) (kt : (x < 0) → gG l V mm E cs M tgt lv st) (kf : ¬ (x < 0) → gG l V mm E cs M (pc + 3) lv st) : gG l V mm E cs M pc lv (.int x :: st) :=
  fun p e s m args below meth c H locs ls C hD hS hl => lv_if_lt C.1 C.2.1 d ht (fun h => kt h p e s m args below meth c H locs ls C hD hS hl) (fun h => kf h p e s m args below meth c H locs ls C hD hS hl)
theorem g_icmp_ge {x y : Int32} {off : Int} (tgt : Nat) (d : decode mm.2.1 pc = .ok (.if_icmp .ge off, 3)) (ht : (pc : Int) + off = (tgt : Int)) (kt : (y ≤ x) → gG l V mm E cs M tgt lv st) (kf : ¬ (y ≤ x) → gG l V mm E cs M (pc + 3) lv st) : gG l V mm E cs M pc lv (.int y :: .int x :: st) :=
  fun p e s m args below meth c H locs ls C hD hS hl => lv_icmp_ge C.1 C.2.1 d ht (fun h => kt h p e s m args below meth c H locs ls C hD hS hl) (fun h => kf h p e s m args below meth c H locs ls C hD hS hl)
theorem g_if_ge {x : Int32} {off : Int} (tgt : Nat) (d : decode mm.2.1 pc = .ok (.ifCond .ge off, 3)) (ht : (pc : Int) + off = (tgt : Int)) (kt : (0 ≤ x) → gG l V mm E cs M tgt lv st) (kf : ¬ (0 ≤ x) → gG l V mm E cs M (pc + 3) lv st) : gG l V mm E cs M pc lv (.int x :: st) :=
  fun p e s m args below meth c H locs ls C hD hS hl => lv_if_ge C.1 C.2.1 d ht (fun h => kt h p e s m args below meth c H locs ls C hD hS hl) (fun h => kf h p e s m args below meth c H locs ls C hD hS hl)
theorem g_icmp_gt {x y : Int32} {off : Int} (tgt : Nat) (d : decode mm.2.1 pc = .ok (.if_icmp .gt off, 3)) (ht : (pc : Int) + off = (tgt : Int)) (kt : (y < x) → gG l V mm E cs M tgt lv st) (kf : ¬ (y < x) → gG l V mm E cs M (pc + 3) lv st) : gG l V mm E cs M pc lv (.int y :: .int x :: st) :=
  fun p e s m args below meth c H locs ls C hD hS hl => lv_icmp_gt C.1 C.2.1 d ht (fun h => kt h p e s m args below meth c H locs ls C hD hS hl) (fun h => kf h p e s m args below meth c H locs ls C hD hS hl)
theorem g_if_gt {x : Int32} {off : Int} (tgt : Nat) (d : decode mm.2.1 pc = .ok (.ifCond .gt off, 3)) (ht : (pc : Int) + off = (tgt : Int)) (kt : (0 < x) → gG l V mm E cs M tgt lv st) (kf : ¬ (0 < x) → gG l V mm E cs M (pc + 3) lv st) : gG l V mm E cs M pc lv (.int x :: st) :=
  fun p e s m args below meth c H locs ls C hD hS hl => lv_if_gt C.1 C.2.1 d ht (fun h => kt h p e s m args below meth c H locs ls C hD hS hl) (fun h => kf h p e s m args below meth c H locs ls C hD hS hl)
theorem g_icmp_le {x y : Int32} {off : Int} (tgt : Nat) (d : decode mm.2.1 pc = .ok (.if_icmp .le off, 3)) (ht : (pc : Int) + off = (tgt : Int)) (kt : (x ≤ y) → gG l V mm E cs M tgt lv st) (kf : ¬ (x ≤ y) → gG l V mm E cs M (pc + 3) lv st) : gG l V mm E cs M pc lv (.int y :: .int x :: st) :=
  fun p e s m args below meth c H locs ls C hD hS hl => lv_icmp_le C.1 C.2.1 d ht (fun h => kt h p e s m args below meth c H locs ls C hD hS hl) (fun h => kf h p e s m args below meth c H locs ls C hD hS hl)
theorem g_if_le {x : Int32} {off : Int} (tgt : Nat) (d : decode mm.2.1 pc = .ok (.ifCond .le off, 3)) (ht : (pc : Int) + off = (tgt : Int)) (kt : (x ≤ 0) → gG l V mm E cs M tgt lv st) (kf : ¬ (x ≤ 0) → gG l V mm E cs M (pc + 3) lv st) : gG l V mm E cs M pc lv (.int x :: st) :=
  fun p e s m args below meth c H locs ls C hD hS hl => lv_if_le C.1 C.2.1 d ht (fun h => kt h p e s m args below meth c H locs ls C hD hS hl) (fun h => kf h p e s m args below meth c H locs ls C hD hS hl)
theorem g_goto {off : Int} (tgt : Nat) (d : decode mm.2.1 pc = .ok (.goto off, 3)) (ht : (pc : Int) + off = (tgt : Int)) (k : gG l V mm E cs M tgt lv st) : gG l V mm E cs M pc lv st :=
  fun p e s m args below meth c H locs ls C hD hS hl => lv_goto C.1 C.2.1 d ht (k p e s m args below meth c H locs ls C hD hS hl)
theorem g_tableOut {x : Int32} {dflt lo hi : Int} {offs : Array Int} {len : Nat} (tgt : Nat) (d : decode mm.2.1 pc = .ok (.tableswitch dflt lo hi offs, len)) (h : x.toInt < lo ∨ hi < x.toInt) (ht : (pc : Int) + dflt = (tgt : Int)) (k : gG l V mm E cs M tgt lv st) : gG l V mm E cs M pc lv (.int x :: st) :=
  fun p e s m args below meth c H locs ls C hD hS hl => lv_tableOut C.1 C.2.1 d h ht (k p e s m args below meth c H locs ls C hD hS hl)
theorem g_tableIn {x : Int32} {dflt lo hi off : Int} {offs : Array Int} {len : Nat} (tgt : Nat) (d : decode mm.2.1 pc = .ok (.tableswitch dflt lo hi offs, len)) (h1 : ¬ x.toInt < lo) (h2 : ¬ hi < x.toInt) (ho : offs[(x.toInt - lo).toNat]? = some off) (ht : (pc : Int) + off = (tgt : Int)) (k : gG l V mm E cs M tgt lv st) : gG l V mm E cs M pc lv (.int x :: st) :=
  fun p e s m args below meth c H locs ls C hD hS hl => lv_tableIn C.1 C.2.1 d h1 h2 ho ht (k p e s m args below meth c H locs ls C hD hS hl)
theorem g_ifnonnull {x : Nat} {off : Int} (tgt : Nat) (d : decode mm.2.1 pc = .ok (.ifnonnull off, 3)) (ht : (pc : Int) + off = (tgt : Int)) (k : gG l V mm E cs M tgt lv st) : gG l V mm E cs M pc lv (.ref x :: st) :=
  fun p e s m args below meth c H locs ls C hD hS hl => lv_ifnonnull C.1 C.2.1 d ht (k p e s m args below meth c H locs ls C hD hS hl)
theorem g_ifnonnullN {off : Int} (d : decode mm.2.1 pc = .ok (.ifnonnull off, 3)) (k : gG l V mm E cs M (pc + 3) lv st) : gG l V mm E cs M pc lv (.null :: st) :=
  fun p e s m args below meth c H locs ls C hD hS hl => lv_ifnonnullN C.1 C.2.1 d (k p e s m args below meth c H locs ls C hD hS hl)
end gRows
/-! cells of the memory, read and written -/
def gU (M : gMem) (a k x : Nat) : gMem := (fun b j => if b = a ∧ j = k then x else M.1 b j, M.2)
def gUr (M : gMem) (a k x : Nat) : gMem := (M.1, fun b j => if b = a ∧ j = k then x else M.2 b j)
theorem gEnt_o {E : gEnv} {M : gMem} {a kd : Nat} (h : gSh E a = kd) (h8 : kd ≤ 8) : gEnt E M a = .inr (kd - 1, gFs E M a) := by
  unfold gEnt
  rw [if_pos (by rw [h]; exact h8), h]
theorem gEnt_i {E : gEnv} {M : gMem} {a kd : Nat} (h : gSh E a = kd) (h8 : 8 < kd) (h9 : kd ≤ 10) : gEnt E M a = .inl (gC E kd, gLn E a, .inl (fun j => nI (M.1 a j))) := by
  unfold gEnt
  rw [if_neg (by rw [h]; omega), if_pos (by rw [h]; exact h9), h]
theorem gEnt_r {E : gEnv} {M : gMem} {a kd : Nat} (h : gSh E a = kd) (h8 : 10 < kd) : gEnt E M a = .inl (gC E kd, gLn E a, .inr (.inr (.inr (.inr (fun j => gO E (M.2 a j)))))) := by
  unfold gEnt
  rw [if_neg (by rw [h]; omega), if_neg (by rw [h]; omega), h]
theorem gFs_at {E : gEnv} {M : gMem} {a k : Nat} (hk : k < 22) : (gFs E M a)[k]? = some (gVl E M a k) := by
  unfold gFs
  rw [List.getElem?_map, List.getElem?_range hk]
  rfl
theorem gP1 {E : gEnv} {M : gMem} {H : Heap} {a : Nat} {e : va_E} (hD : gDesc E M H) (ha : gSh E a ≠ 0) (he : gEnt E M a = e) : va_P (gD E) vwCl [(gAd E a, e)] H := by
  intro k q hq
  cases k with
  | zero => cases hq; rw [← he]; exact hD.2.2 a ha
  | succ n => cases hq
theorem gVl_i {E : gEnv} {M : gMem} {a k kd : Nat} (h : gSh E a = kd) (hr : gR kd k = false) : gVl E M a k = .int (nI (M.1 a k)) := by
  unfold gVl
  rw [h, hr]
  rfl
theorem gVl_r {E : gEnv} {M : gMem} {a k kd r : Nat} (h : gSh E a = kd) (hr : gR kd k = true) (hv : M.2 a k = r) (h0 : r ≠ 0) : gVl E M a k = .ref (gAd E r) := by
  unfold gVl gO
  rw [h, if_pos hr, hv, if_neg h0]
  rfl
section gCells
variable {l : Launch} {V : gVt} {mm : gY} {E : gEnv} {cs : Nat × Nat} {M : gMem} {pc : Nat} {lv : List (Nat × Value)} {st : List Value}
theorem g_get {a kd k idx N : Nat} {C : String} {T : u_T} {v : Value} (hsh : gSh E a = kd) (h0 : kd ≠ 0) (h8 : kd ≤ 8) (hc : vwCl[kd - 1]? = some (C, T, N)) (hin : ∀ w ∈ u_ws C T N, w ∈ gT) (hk : k < N) (hk2 : k < 22) (hl : Cond.fieldLink mm.1.cls idx (T k).1 (T k).2.1 (T k).2.2.1 ∈ gT) (hv : gVl E M a k = v)
    (d : decode mm.2.1 pc = .ok (.getfield idx, 3)) (kk : gG l V mm E cs M (pc + 3) lv (v :: st)) : gG l V mm E cs M pc lv (.ref (gAd E a) :: st) := by
  intro p e s m args below meth c H locs ls X hD hS hl2
  obtain ⟨hx, hb, hml, hown, hts, hr, hlk, hK, hB, hnm⟩ := X
  exact va_get (tys := gTy E) hx hb hts hin hown hK.1 (gP1 hD (by rw [hsh]; exact h0) (gEnt_o hsh h8)) 0 rfl hc k hk (hts _ hl) (fun _ h => h) ((gFs_at hk2).trans (congrArg some hv)) d (kk p e s m args below meth c H locs ls ⟨hx, hb, hml, hown, hts, hr, hlk, hK, hB, hnm⟩ hD hS hl2)
/-- a cell changes, all others stay -/
theorem gDesc_set {E : gEnv} {M M' : gMem} {H H1 : Heap} {a : Nat} (hD : gDesc E M H) (ha : gSh E a ≠ 0) (he : ∀ b, b ≠ a → gEnt E M' b = gEnt E M b) (h1 : va_at (gD E) vwCl (gAd E a, gEnt E M' a) H1) (oq : ∀ q : Nat, q ≠ gAd E a → H1[q]? = H[q]?) : gDesc E M' H1 := by
  refine ⟨hD.1, hD.2.1, fun b hb => ?_⟩
  by_cases hba : b = a
  · subst hba; exact h1
  · rw [he b hba]
    exact (hD.2.2 b hb).kept (oq _ (fun q => hba (hD.1 b a hb ha q)))
theorem gEnt_ne {E : gEnv} {M M' : gMem} {a : Nat} (h1 : ∀ b j, b ≠ a → M'.1 b j = M.1 b j) (h2 : ∀ b j, b ≠ a → M'.2 b j = M.2 b j) : ∀ b, b ≠ a → gEnt E M' b = gEnt E M b := by
  intro b hb
  have e1 : M'.1 b = M.1 b := funext fun j => h1 b j hb
  have e2 : M'.2 b = M.2 b := funext fun j => h2 b j hb
  have e3 : gVl E M' b = gVl E M b := funext fun k => by unfold gVl; rw [e1, e2]
  unfold gEnt gFs
  rw [e1, e2, e3]
theorem gU_ne {M : gMem} {a k x : Nat} : ∀ b j, b ≠ a → (gU M a k x).1 b j = M.1 b j := fun b j h => by simp [gU, h]
theorem gUr_ne {M : gMem} {a k x : Nat} : ∀ b j, b ≠ a → (gUr M a k x).2 b j = M.2 b j := fun b j h => by simp [gUr, h]
/-- the object's picture, one field changed -/
theorem gOb {E : gEnv} {M M' : gMem} {a k : Nat} {v : Value} (hk : k < 22) (hv : gVl E M' a k = v) (ho : ∀ j, j ≠ k → gVl E M' a j = gVl E M a j) (j : Nat) (hj : j < 22) : updV (vp_V (gFs E M a)) k v j = vp_V (gFs E M' a) j := by
  have e1 : vp_V (gFs E M' a) j = gVl E M' a j := by simp [vp_V, gFs_at hj]
  have e2 : vp_V (gFs E M a) j = gVl E M a j := by simp [vp_V, gFs_at hj]
  rw [e1]
  by_cases h : j = k
  · subst h; simp [updV, hv]
  · simp only [updV, if_neg h]; rw [e2, ho j h]
theorem g_put {M' : gMem} {a kd k idx N : Nat} {C : String} {T : u_T} {v : Value} (ty0 : Nat → FieldType) (hsh : gSh E a = kd) (h0 : kd ≠ 0) (h8 : kd ≤ 8) (hc : vwCl[kd - 1]? = some (C, T, N)) (hN : N ≤ 22) (hin : ∀ w ∈ u_ws C T N, w ∈ gT) (hty : ∀ k, k < N → parseFieldDescriptor (T k).2.2.1 = some (ty0 k)) (hnm0 : ∀ a, a < N → ∀ b, b < N → a ≠ b → (T a).2.1 ≠ (T b).2.1)
    (hk : k < N) (hl : Cond.fieldLink mm.1.cls idx (T k).1 (T k).2.1 (T k).2.2.1 ∈ gT) (hfin : (T k).2.2.2 = false) (hn : narrow (ty0 k) v = v) (hfit : fits (ty0 k) v = true) (hv : gVl E M' a k = v) (ho : ∀ j, j ≠ k → gVl E M' a j = gVl E M a j) (hne : ∀ b, b ≠ a → gEnt E M' b = gEnt E M b)
    (d : decode mm.2.1 pc = .ok (.putfield idx, 3)) (kk : gG l V mm E cs M' (pc + 3) lv st) : gG l V mm E cs M pc lv (v :: .ref (gAd E a) :: st) := by
  intro p e s m args below meth c H locs ls X hD hS hl2
  obtain ⟨hx, hb, hml, hown, hts, hr, hlk, hK, hB, hnm⟩ := X
  have ha : gSh E a ≠ 0 := by rw [hsh]; exact h0
  have hap := va_apart (own := mm.1.cls) hts hin ty0 hty hnm0 hK.1 hc
  obtain ⟨r, h1, cell, q1, q2, q3, q4⟩ := gP1 hD ha (gEnt_o hsh h8) 0 _ rfl
  have hr1 : r = (C, T, N) := Option.some.inj (h1.symm.trans hc)
  subst hr1
  obtain ⟨hSl, hfc, kC, hkC, hkind⟩ := hK.1.1 (kd - 1) _ hc
  obtain ⟨cf, kf, fi, f, hi, hsl⟩ := hSl k hk
  have hlay := hts _ (hin _ (u_in_lay hk))
  unfold u_lay at hlay
  rw [if_neg (by rw [hfin]; decide)] at hlay
  have h6 := u_store hfc hkC hkind hlay hi (hty k hk) hn hfit
  refine W.putK hx hb (f := f) ⟨hown, hts _ hl, ⟨_, _, _, hi⟩, (u_facts hfc hkC (u_lays hts hin hk) hi).1⟩ (by rw [q2]; exact h6) q1 q3 (by rw [hsl]; exact k2_hasslot (q4 k hk)) rfl rfl d fun H' e1 e2 e3 => ?_
  rw [hsl] at e1 ⊢
  refine kk p e s m args below meth c H' _ ls ⟨hx, hb, hml, hown, hts, hr, hlk, hK, hB, hnm⟩ (gDesc_set hD ha hne ?_ e3) (hS.put e2 e3 (hD.2.1 a ha)) hl2
  rw [gEnt_o hsh h8]
  exact ⟨_, hc, t_OB.to (V := updV (vp_V (gFs E M a)) k v) ⟨_, e1, q2, q3, t_set q4 hap hk v⟩ (fun j hj => gOb (Nat.lt_of_lt_of_le hk hN) hv ho j (Nat.lt_of_lt_of_le hj hN))⟩
theorem g_putF {M' : gMem} {a kd k idx N : Nat} {C : String} {T : u_T} {v : Value} (ty0 : Nat → FieldType) (hsh : gSh E a = kd) (h0 : kd ≠ 0) (h8 : kd ≤ 8) (hc : vwCl[kd - 1]? = some (C, T, N)) (hN : N ≤ 22) (hin : ∀ w ∈ u_ws C T N, w ∈ gT) (hty : ∀ k, k < N → parseFieldDescriptor (T k).2.2.1 = some (ty0 k)) (hnm0 : ∀ a, a < N → ∀ b, b < N → a ≠ b → (T a).2.1 ≠ (T b).2.1)
    (hk : k < N) (hl : Cond.fieldLink mm.1.cls idx (T k).1 (T k).2.1 (T k).2.2.1 ∈ gT) (hfin : (T k).2.2.2 = true) (hini : mm.1.name = "<init>") (hdecl : (T k).1 = mm.1.cls) (hn : narrow (ty0 k) v = v) (hfit : fits (ty0 k) v = true) (hv : gVl E M' a k = v) (ho : ∀ j, j ≠ k → gVl E M' a j = gVl E M a j) (hne : ∀ b, b ≠ a → gEnt E M' b = gEnt E M b)
    (d : decode mm.2.1 pc = .ok (.putfield idx, 3)) (kk : gG l V mm E cs M' (pc + 3) lv st) : gG l V mm E cs M pc lv (v :: .ref (gAd E a) :: st) := by
  intro p e s m args below meth c H locs ls X hD hS hl2
  obtain ⟨hx, hb, hml, hown, hts, hr, hlk, hK, hB, hnm⟩ := X
  have ha : gSh E a ≠ 0 := by rw [hsh]; exact h0
  have hap := va_apart (own := mm.1.cls) hts hin ty0 hty hnm0 hK.1 hc
  obtain ⟨r, h1, cell, q1, q2, q3, q4⟩ := gP1 hD ha (gEnt_o hsh h8) 0 _ rfl
  have hr1 : r = (C, T, N) := Option.some.inj (h1.symm.trans hc)
  subst hr1
  obtain ⟨hSl, hfc, kC, hkC, hkind⟩ := hK.1.1 (kd - 1) _ hc
  obtain ⟨cf, kf, fi, f, hi, hsl⟩ := hSl k hk
  have hlay := hts _ (hin _ (u_in_lay hk))
  unfold u_lay at hlay
  rw [if_pos hfin] at hlay
  have hcf : m.cls = cf := by
    obtain ⟨_, _, c', _, _, _, -, -, hf', -, -, -, hown2, -⟩ := Cond.laysFinal_spec hlay
    have e1 : c' = cf := by have := hi.symm.trans hf'; simp at this; exact this.1.symm
    rw [hdecl] at hown2
    rw [← e1]; exact Option.some.inj (hown.symm.trans hown2)
  have h6 := u_fits hfc hkC hkind (Or.inr hlay) hi (hty k hk) hn hfit
  refine W.putFinK hx hb hown (hts _ hl) hi (u_facts hfc hkC (u_lays hts hin hk) hi).1 hcf (by rw [hnm]; exact hini) (by rw [q2]; exact h6) q1 q3 (by rw [hsl]; exact k2_hasslot (q4 k hk)) rfl rfl d fun H' e1 e2 e3 => ?_
  rw [hsl] at e1 ⊢
  refine kk p e s m args below meth c H' _ ls ⟨hx, hb, hml, hown, hts, hr, hlk, hK, hB, hnm⟩ (gDesc_set hD ha hne ?_ e3) (hS.put e2 e3 (hD.2.1 a ha)) hl2
  rw [gEnt_o hsh h8]
  exact ⟨_, hc, t_OB.to (V := updV (vp_V (gFs E M a)) k v) ⟨_, e1, q2, q3, t_set q4 hap hk v⟩ (fun j hj => gOb (Nat.lt_of_lt_of_le hk hN) hv ho j (Nat.lt_of_lt_of_le hj hN))⟩
theorem gU_vl {a k x kd : Nat} (hsh : gSh E a = kd) (hr : gR kd k = false) : gVl E (gU M a k x) a k = .int (nI x) := by
  rw [gVl_i hsh hr]; simp [gU]
theorem gU_vo {a k x : Nat} : ∀ j, j ≠ k → gVl E (gU M a k x) a j = gVl E M a j := fun j h => by simp [gVl, gU, h]
theorem gUr_vl {a k x kd : Nat} (hsh : gSh E a = kd) (hr : gR kd k = true) (h0 : x ≠ 0) : gVl E (gUr M a k x) a k = .ref (gAd E x) := gVl_r hsh hr (by simp [gUr]) h0
theorem gUr_vo {a k x : Nat} : ∀ j, j ≠ k → gVl E (gUr M a k x) a j = gVl E M a j := fun j h => by simp [gVl, gUr, h]
theorem gU_en {a k x : Nat} : ∀ b, b ≠ a → gEnt E (gU M a k x) b = gEnt E M b := gEnt_ne gU_ne (fun _ _ _ => rfl)
theorem gUr_en {a k x : Nat} : ∀ b, b ≠ a → gEnt E (gUr M a k x) b = gEnt E M b := gEnt_ne (fun _ _ _ => rfl) gUr_ne
/-! arrays -/
theorem nI_in31 {i n : Nat} (h : i < n) (hn : n ≤ 2147483647) : vp_in (nI i) n := vp_in_nI h (by omega)
theorem g_iaload {a i : Nat} (hsh : gSh E a = 9) (hi : i < gLn E a) (hn : gLn E a ≤ 2147483647) (d : decode mm.2.1 pc = .ok (.iaload, 1)) (kk : gG l V mm E cs M (pc + 1) lv (.int (nI (M.1 a i)) :: st)) : gG l V mm E cs M pc lv (.int (nI i) :: .ref (gAd E a) :: st) := by
  intro p e s m args below meth c H locs ls X hD hS hl2
  refine va_iald (tys := gTy E) X.1 X.2.1 X.2.2.2.2.2.2.2.1.1 (gP1 hD (by rw [hsh]; decide) (gEnt_i hsh (by decide) (by decide))) 0 0 rfl rfl (nI_in31 hi hn) d ?_
  rw [nI_clamp (by omega)]
  exact (kk p e s m args below meth c H locs ls X hD hS hl2)
theorem g_caload {a i : Nat} (hsh : gSh E a = 10) (hi : i < gLn E a) (hn : gLn E a ≤ 2147483647) (d : decode mm.2.1 pc = .ok (.caload, 1)) (kk : gG l V mm E cs M (pc + 1) lv (.int (nI (M.1 a i)) :: st)) : gG l V mm E cs M pc lv (.int (nI i) :: .ref (gAd E a) :: st) := by
  intro p e s m args below meth c H locs ls X hD hS hl2
  refine va_cald (tys := gTy E) X.1 X.2.1 X.2.2.2.2.2.2.2.1.1 (gP1 hD (by rw [hsh]; decide) (gEnt_i hsh (by decide) (by decide))) 0 1 rfl rfl (nI_in31 hi hn) d ?_
  rw [nI_clamp (by omega)]
  exact (kk p e s m args below meth c H locs ls X hD hS hl2)
theorem g_aaload {a i kd r t0 : Nat} {C : String} (hsh : gSh E a = kd) (hkd : 10 < kd) (ht : (gTy E)[t0]? = some (gC E kd, .object C)) (hi : i < gLn E a) (hn : gLn E a ≤ 2147483647) (hr : M.2 a i = r) (h0 : r ≠ 0) (d : decode mm.2.1 pc = .ok (.aaload, 1)) (kk : gG l V mm E cs M (pc + 1) lv (.ref (gAd E r) :: st)) : gG l V mm E cs M pc lv (.int (nI i) :: .ref (gAd E a) :: st) := by
  intro p e s m args below meth c H locs ls X hD hS hl2
  refine va_aldq (tys := gTy E) X.1 X.2.1 X.2.2.2.2.2.2.2.1.1 (gP1 hD (by rw [hsh]; omega) (gEnt_r hsh hkd)) 0 t0 rfl ht (nI_in31 hi hn) d ?_
  rw [nI_clamp (by omega), hr, show gO E r = some (gAd E r) from if_neg h0]
  exact (kk p e s m args below meth c H locs ls X hD hS hl2)
theorem g_alen {a kd t0 : Nat} {ty : FieldType} (hsh : gSh E a = kd) (hkd : 8 < kd) (ht : (gTy E)[t0]? = some (gC E kd, ty)) (d : decode mm.2.1 pc = .ok (.arraylength, 1)) (kk : gG l V mm E cs M (pc + 1) lv (.int (nI (gLn E a)) :: st)) : gG l V mm E cs M pc lv (.ref (gAd E a) :: st) := by
  intro p e s m args below meth c H locs ls X hD hS hl2
  by_cases h10 : kd ≤ 10
  · exact va_alen (tys := gTy E) X.1 X.2.1 X.2.2.2.2.2.2.2.1.1 (gP1 hD (by rw [hsh]; omega) (gEnt_i hsh hkd h10)) 0 t0 rfl ht rfl d (kk p e s m args below meth c H locs ls X hD hS hl2)
  · exact va_alen (tys := gTy E) X.1 X.2.1 X.2.2.2.2.2.2.2.1.1 (gP1 hD (by rw [hsh]; omega) (gEnt_r hsh (by omega))) 0 t0 rfl ht rfl d (kk p e s m args below meth c H locs ls X hD hS hl2)
theorem g_iastore {a i x : Nat} (hsh : gSh E a = 9) (hi : i < gLn E a) (hn : gLn E a ≤ 2147483647) (d : decode mm.2.1 pc = .ok (.iastore, 1)) (kk : gG l V mm E cs (gU M a i x) (pc + 1) lv st) : gG l V mm E cs M pc lv (.int (nI x) :: .int (nI i) :: .ref (gAd E a) :: st) := by
  intro p e s m args below meth c H locs ls X hD hS hl2
  have ha : gSh E a ≠ 0 := by rw [hsh]; decide
  have hin := nI_in31 hi hn
  have hc : H[gAd E a]? = some (arrV (gC E 9) (gLn E a) (fun j => .int (nI (M.1 a j)))) := by
    have h := hD.2.2 a ha
    rw [gEnt_i hsh (by decide) (by decide)] at h
    exact h
  refine W.iast X.1 X.2.1 hc ((X.2.2.2.2.2.2.2.1.1.2 0 _ rfl).1 _ _) (fun q => by cases q) (by rw [arrV_size]; exact hin) rfl rfl d fun H1 e1 z oq => ?_
  refine kk p e s m args below meth c H1 _ ls X (gDesc_set hD ha gU_en ?_ oq) (hS.put z oq (hD.2.1 a ha)) hl2
  rw [gEnt_i hsh (by decide) (by decide)]
  show H1[gAd E a]? = some (arrV (gC E 9) (gLn E a) (fun j => .int (nI ((gU M a i x).1 a j))))
  rw [e1, arrV_store, nI_clamp (by omega)]
  congr 2
  funext q
  by_cases hq : q = i
  · subst hq; simp [updV, gU]
  · simp [updV, gU, hq]
theorem g_castore {a i x : Nat} (hsh : gSh E a = 10) (hi : i < gLn E a) (hn : gLn E a ≤ 2147483647) (hx : x < 65536) (d : decode mm.2.1 pc = .ok (.castore, 1)) (kk : gG l V mm E cs (gU M a i x) (pc + 1) lv st) : gG l V mm E cs M pc lv (.int (nI x) :: .int (nI i) :: .ref (gAd E a) :: st) := by
  intro p e s m args below meth c H locs ls X hD hS hl2
  have ha : gSh E a ≠ 0 := by rw [hsh]; decide
  have hin := nI_in31 hi hn
  have hc : H[gAd E a]? = some (arrV (gC E 10) (gLn E a) (fun j => .int (nI (M.1 a j)))) := by
    have h := hD.2.2 a ha
    rw [gEnt_i hsh (by decide) (by decide)] at h
    exact h
  refine W.cast X.1 X.2.1 hc ((X.2.2.2.2.2.2.2.1.1.2 1 _ rfl).1 _ _) (fun q => by cases q) (by rw [arrV_size]; exact hin) rfl rfl d fun H1 e1 z oq => ?_
  refine kk p e s m args below meth c H1 _ ls X (gDesc_set hD ha gU_en ?_ oq) (hS.put z oq (hD.2.1 a ha)) hl2
  rw [gEnt_i hsh (by decide) (by decide)]
  show H1[gAd E a]? = some (arrV (gC E 10) (gLn E a) (fun j => .int (nI ((gU M a i x).1 a j))))
  rw [e1, arrV_store, nI_clamp (by omega), (pk_charN hx).1]
  congr 2
  funext q
  by_cases hq : q = i
  · subst hq; simp [updV, gU]
  · simp [updV, gU, hq]
theorem g_aastore {a i v kd kv t0 : Nat} {q : vw_C} (hsh : gSh E a = kd) (hkd : 10 < kd) (hv : gSh E v = kv) (hv0 : kv ≠ 0) (hv8 : kv ≤ 8) (hcl : vwCl[kv - 1]? = some q) (ht : (gTy E)[t0]? = some (gC E kd, .object q.1)) (hi : i < gLn E a) (hn : gLn E a ≤ 2147483647) (h0 : v ≠ 0) (d : decode mm.2.1 pc = .ok (.aastore, 1)) (kk : gG l V mm E cs (gUr M a i v) (pc + 1) lv st) : gG l V mm E cs M pc lv (.ref (gAd E v) :: .int (nI i) :: .ref (gAd E a) :: st) := by
  intro p e s m args below meth c H locs ls X hD hS hl2
  have ha : gSh E a ≠ 0 := by rw [hsh]; omega
  have hin := nI_in31 hi hn
  have hc : H[gAd E a]? = some (arrV (gC E kd) (gLn E a) (fun j => va_rf (gO E (M.2 a j)))) := by
    have h := hD.2.2 a ha
    rw [gEnt_r hsh hkd] at h
    exact h
  have hK : va_K (gD E) vwCl (gTy E) s := X.2.2.2.2.2.2.2.1.1
  obtain ⟨r', hr', cellV, g1, g2, g3, -⟩ := gP1 hD (by rw [hv]; exact hv0) (gEnt_o hv hv8) 0 _ rfl
  have hcls := (hK.1 (kv - 1) q hcl).2
  obtain ⟨kA, comp, k1, k2, k3, -⟩ := (hK.2 t0 _ ht).2
  have hcomp : comp = (gD E).1 (kv - 1) := Option.some.inj (k3.symm.trans hcls.1)
  subst hcomp
  obtain ⟨kC, hkC, -⟩ := hcls.2
  refine W.aast X.1 X.2.1 hc (fun q h => by cases h) (fun h => by cases h) k1 k2 rfl hkC ⟨fun q => hin (Or.inl q), by rw [arrV_size]; exact Nat.not_le.mp fun q => hin (Or.inr q)⟩ g1 (fun q h => by rw [g3] at h; cases h) (by rw [g2]; exact hkC) (by rw [g2]; exact va_assign hcls) rfl rfl d fun H1 e1 z oq => ?_
  refine kk p e s m args below meth c H1 _ ls X (gDesc_set hD ha gUr_en ?_ oq) (hS.put z oq (hD.2.1 a ha)) hl2
  rw [gEnt_r hsh hkd]
  show H1[gAd E a]? = some (arrV (gC E kd) (gLn E a) (fun j => va_rf (gO E ((gUr M a i v).2 a j))))
  rw [e1, arrV_store, nI_clamp (by omega)]
  congr 2
  funext q
  by_cases hq : q = i
  · subst hq; simp [updV, gUr, gO, h0, va_rf]
  · simp [updV, gUr, hq]
/-! ends -/
end gCells
section gEnds
variable {l : Launch} {h : Nat} {mm : gY} {E : gEnv} {M : gMem} {pc : Nat} {lv : List (Nat × Value)} {Q : Option Value → gMem → Prop}
theorem g_iret {r : Int32} (hr : mm.2.2.2 = some .int) (d : decode mm.2.1 pc = .ok (.ireturn, 1)) (hq : Q (some (.int r)) M) : gG l (gV0 h E Q) mm E (0, 0) M pc lv [.int r] := by
  intro p e s m args below meth c H locs ls X hD hS hl2
  exact W.iret (v := r) X.1 X.2.1 (X.2.2.2.2.2.1.trans hr) (fun t ht hW => ⟨⟨_, M, rfl, hq, by rw [ht]; exact hD⟩, hS.F ht⟩) hS.2.2 d X.2.2.2.2.2.2.1
theorem gb_nar (b : Bool) : narrow .boolean (.int (gb b)) = .int (gb b) := by cases b <;> rfl
theorem g_zret {b : Bool} (hr : mm.2.2.2 = some .boolean) (d : decode mm.2.1 pc = .ok (.ireturn, 1)) (hq : Q (some (.int (gb b))) M) : gG l (gV0 h E Q) mm E (0, 0) M pc lv [.int (gb b)] := by
  intro p e s m args below meth c H locs ls X hD hS hl2
  exact W.zret (v := gb b) X.1 X.2.1 (X.2.2.2.2.2.1.trans hr) (gb_nar b) (fun t ht hW => ⟨⟨_, M, rfl, hq, by rw [ht]; exact hD⟩, hS.F ht⟩) hS.2.2 d X.2.2.2.2.2.2.1
theorem g_lret {r : Int64} (hr : mm.2.2.2 = some .long) (d : decode mm.2.1 pc = .ok (.lreturn, 1)) (hq : Q (some (.long r)) M) : gG l (gV0 h E Q) mm E (0, 0) M pc lv [.long r] := by
  intro p e s m args below meth c H locs ls X hD hS hl2
  exact W.lret (v := r) X.1 X.2.1 (X.2.2.2.2.2.1.trans hr) (fun t ht hW => ⟨⟨_, M, rfl, hq, by rw [ht]; exact hD⟩, hS.F ht⟩) hS.2.2 d X.2.2.2.2.2.2.1
theorem g_vret (hr : mm.2.2.2 = none) (d : decode mm.2.1 pc = .ok (.return_, 1)) (hq : Q none M) : gG l (gV0 h E Q) mm E (0, 0) M pc lv [] := by
  intro p e s m args below meth c H locs ls X hD hS hl2
  exact W.vret X.1 X.2.1 (X.2.2.2.2.2.1.trans hr) (fun t ht hW => ⟨⟨_, M, rfl, hq, by rw [ht]; exact hD⟩, hS.F ht⟩) hS.2.2 d X.2.2.2.2.2.2.1
theorem g_aret {v : Value} {n : String} (hr : mm.2.2.2 = some (.object n)) (hv : v = .null ∨ ∃ a, v = .ref a) (d : decode mm.2.1 pc = .ok (.areturn, 1)) (hq : Q (some v) M) : gG l (gV0 h E Q) mm E (0, 0) M pc lv [v] := by
  intro p e s m args below meth c H locs ls X hD hS hl2
  exact W.aret (v := v) X.1 X.2.1 (X.2.2.2.2.2.1.trans hr) (Or.inl ⟨n, rfl⟩) hv (fun t ht hW => ⟨⟨_, M, rfl, hq, by rw [ht]; exact hD⟩, hS.F ht⟩) hS.2.2 d X.2.2.2.2.2.2.1
end gEnds
/-! calls -/
def gInf (mc : gY) (n : Nat) : Prop := Cond.initialized mc.1.cls ∈ gT ∧ Cond.code mc.1 mc.2.1 mc.2.2.1 mc.2.2.2 ∈ gT ∧ mc.1.cls ≠ "java/lang/invoke/MethodHandle" ∧ mc.1.cls ≠ "java/lang/invoke/VarHandle" ∧ (parseMethodDescriptor mc.1.desc).map (fun d => d.parameters.length) = some n
def gInfV (mc : gY) (n : Nat) : Prop := gInf mc n ∧ Cond.instanceMethod mc.1 ∈ gT ∧ Cond.selects mc.1.cls mc.1 mc.1 ∈ gT
def gInfS (mc : gY) (n : Nat) : Prop := gInf mc n ∧ Cond.static mc.1 ∈ gT
theorem gWs_ok {mc : gY} {n : Nat} (h : gInf mc n) : ∀ w ∈ gWs mc, w ∈ gT := fun w hw => (List.mem_cons.mp hw).elim (fun e => by rw [e]; exact h.2.1) id
theorem g_ce {α : Type} {P : α → Prop} {r : α} (h : P r) : ∀ v, v = r → P v := fun v e => by rw [e]; exact h
section gCalls
variable {l : Launch} {V : gVt} {mm : gY} {E : gEnv} {cs : Nat × Nat} {M : gMem} {pc : Nat} {lv : List (Nat × Value)} {st rest : List Value}
theorem gCallB {mc : gY} {n h' idx : Nat} {R : Room} {s : State} {args : Array Value} (hts : ∀ w ∈ gT, w.before args s = true) (hi : gInf mc n) (hl : Cond.methodLink mm.1.cls idx mc.1 ∈ gT) (hR : h' + 1 ≤ R.frames ∧ 8 + (mc.2.2.1 + 11) + 40 * h' ≤ R.locals) :
    CallB R s args mm.1.cls idx mc.1 mc.2.1 mc.2.2.1 mc.2.2.2 (gWs mc) (gRm h') 0 0 n := by
  refine ⟨rfl, rfl, hR.1, hR.2, fun w hw a' U hW => ?_, List.mem_cons_self, hts _ hi.2.1, hts _ hi.1, ⟨hi.2.2.1, hi.2.2.2.1⟩, fun sig h => ?_, hts _ hl⟩
  · have h := gWs_ok hi w hw
    exact gOk_at hW (gT_ok h) (hts w h)
  · have h2 := hi.2.2.2.2
    rw [h] at h2
    exact (Option.some.inj h2).symm
theorem gCallN {mc : gY} {n h' idx : Nat} {host : String} {R : Room} {s : State} {args : Array Value} (hts : ∀ w ∈ gT, w.before args s = true) (hi : gInf mc n) (hl : Cond.methodLinkNest mm.1.cls idx mc.1 host ∈ gT) (hR : h' + 1 ≤ R.frames ∧ 8 + (mc.2.2.1 + 11) + 40 * h' ≤ R.locals) :
    va_CN R s args mm.1.cls idx mc.1 host mc.2.1 mc.2.2.1 mc.2.2.2 (gWs mc) (gRm h') 0 0 n := by
  refine ⟨⟨rfl, rfl, hR.1, hR.2, fun w hw a' U hW => ?_, List.mem_cons_self⟩, hts _ hi.2.1, hts _ hi.1, ⟨hi.2.2.1, hi.2.2.2.1⟩, fun sig h => ?_, hts _ hl⟩
  · have h := gWs_ok hi w hw
    exact gOk_at hW (gT_ok h) (hts w h)
  · have h2 := hi.2.2.2.2
    rw [h] at h2
    exact (Option.some.inj h2).symm
/-- what a call gives back -/
theorem g_back {p : Program} {e : Env} {R : Room} {s : State} {m : MethodId} {args : Array Value} {below : List Frame} {meth : Method} {c : Code} {H : Heap} {locs : List Loc} {Qw : State → Prop} {ls : Array Slot} {Q : Option Value → gMem → Prop} {a : Array Value} {cells slots : Nat}
    (hr : va_Run p l e R s m args below meth c H locs cells slots 0 0 (F0 m pc ls st) rest (gQp E Q a) (gA E)) (hS : va_S (gA E) s.heap H locs)
    (kk : ∀ (v : Option Value) (u : gMem) (H1 : Heap) (locs1 : List Loc), Q v u → gDesc E u H1 → va_S (gA E) s.heap H1 locs1 → W p l e R s m args below meth c H1 locs1 cells slots Qw (F0 m (pc + 3) ls (v.toList ++ rest))) : W p l e R s m args below meth c H locs cells slots Qw (F0 m pc ls st) := by
  intro T hT X
  obtain ⟨v, st₀, t, T', L, h0, X', hL, e1, e2, ⟨⟨v', u, hv, hq, hd⟩, hz, hk⟩, stp⟩ := hr T hT X
  cases hv
  rw [h0] at hz hk
  obtain ⟨t2, a1, b1⟩ := kk v u T'.heap (locs ++ L) hq (by rw [e1]; exact hd)
    ⟨Nat.le_trans hS.1 (by rw [e1]; exact hz), fun q h1 h2 => by rw [e1, hk q (Nat.lt_of_lt_of_le h1 hS.1) h2]; exact hS.2.1 q h1 h2, fun q hq => by
      rcases List.mem_append.mp hq with h | h
      · exact hS.2.2 q h
      · exact hL q h⟩ T' rfl X'
  exact ⟨t2, stp t2 a1, b1⟩
theorem g_rm {m : MethodId} {ls : Array Slot} {st rest : List Value} (h : (rest.map fun v => v.category).sum ≤ 8) : 2 * (F0 m pc ls st).monitorRoom + (rest.map fun v => v.category).sum ≤ 8 := by
  exact lv_room h
theorem gPre {E : gEnv} {M : gMem} {s : State} {H : Heap} {locs : List Loc} {av : List Value} (hD : gDesc E M H) (hK : gK E s) (hS : va_S (gA E) s.heap H locs) (hB : gBs E ≤ s.heap.size) : ∀ U : State, U.heap = H → s.WarmedH U.vm → gPc E M av av.toArray U :=
  fun U hU hW => ⟨rfl, by rw [hU]; exact hD, ⟨va_K.moved hW.alike hK.1, gSt.mv hK.2 hW (fun a h1 h2 => by rw [hU]; exact hS.2.1 a h1 h2)⟩, by rw [hU]; exact Nat.le_trans hB hS.1⟩
theorem gRecv {E : gEnv} {M : gMem} {s : State} {H : Heap} {b kd : Nat} {q : vw_C} (hD : gDesc E M H) (hK : gK E s) (hsh : gSh E b = kd) (h0 : kd ≠ 0) (h8 : kd ≤ 8) (hc : vwCl[kd - 1]? = some q) : ∃ cell : Cell, H[gAd E b]? = some cell ∧ cell.vm.isStatics = false ∧ s.vm.findClass q.1 = some cell.cls :=
  va_recv (tys := gTy E) hK.1 (gP1 hD (by rw [hsh]; exact h0) (gEnt_o hsh h8)) hc (q0 := 0) rfl
theorem g_callV {mc : gY} {n h' idx b kd : Nat} {q : vw_C} {As : List Value} {Q' : Option Value → gMem → Prop} (hl : Cond.methodLink mm.1.cls idx mc.1 ∈ gT) (hi : gInfV mc n) (hM : gMet l E mc h' (.ref (gAd E b) :: As) M Q') (hR : h' + 1 ≤ V.1.frames ∧ 8 + (mc.2.2.1 + 11) + 40 * h' ≤ V.1.locals)
    (hsh : gSh E b = kd) (h0 : kd ≠ 0) (h8 : kd ≤ 8) (hc : vwCl[kd - 1]? = some q) (hq : q.1 = mc.1.cls) (hn : As.length = n) (hst : st = As.reverse ++ .ref (gAd E b) :: rest) (hW : (rest.map fun v => v.category).sum ≤ 8) (hcs : cs.1 ≤ V.1.cells ∧ cs.2 ≤ V.1.slots) (d : decode mm.2.1 pc = .ok (.invokevirtual idx, 3))
    (kk : ∀ v u, Q' v u → gG l V mm E cs u (pc + 3) lv (v.toList ++ rest)) : gG l V mm E cs M pc lv st := by
  intro p e s m args below meth c H locs ls X hD hS hl2
  obtain ⟨hx, hb, hml, hown, hts, hr, hlk, hK, hB, hnm⟩ := X
  refine g_back (va_runV (As := As) (rest := rest) (C := mc.1.cls) (b := gAd E b) ⟨hx, hb, hml, hown, hts⟩ hM ⟨gCallB hts hi.1 hl hR, hts _ hi.2.1, hts _ hi.2.2⟩ ⟨gPc_blind _ _ _, by rw [← hq]; exact gRecv hD hK hsh h0 h8 hc, gPre hD hK hS hB⟩ rfl hn hl2.1 hst (g_rm hW) d hcs) hS (fun v u H1 locs1 h1 h2 h3 => ?_)
  exact kk v u h1 p e s m args below meth c H1 locs1 ls ⟨hx, hb, hml, hown, hts, hr, hlk, hK, hB, hnm⟩ h2 h3 hl2
theorem g_callS {mc : gY} {n h' idx : Nat} {As : List Value} {Q' : Option Value → gMem → Prop} (hl : Cond.methodLink mm.1.cls idx mc.1 ∈ gT) (hi : gInfS mc n) (hM : gMet l E mc h' As M Q') (hR : h' + 1 ≤ V.1.frames ∧ 8 + (mc.2.2.1 + 11) + 40 * h' ≤ V.1.locals)
    (hn : As.length = n) (hst : st = As.reverse ++ rest) (hW : (rest.map fun v => v.category).sum ≤ 8) (hcs : cs.1 ≤ V.1.cells ∧ cs.2 ≤ V.1.slots) (d : decode mm.2.1 pc = .ok (.invokestatic idx, 3))
    (kk : ∀ v u, Q' v u → gG l V mm E cs u (pc + 3) lv (v.toList ++ rest)) : gG l V mm E cs M pc lv st := by
  intro p e s m args below meth c H locs ls X hD hS hl2
  obtain ⟨hx, hb, hml, hown, hts, hr, hlk, hK, hB, hnm⟩ := X
  refine g_back (va_runS (As := As) (rest := rest) ⟨hx, hb, hml, hown, hts⟩ hM ⟨gCallB hts hi.1 hl hR, hts _ hi.2⟩ ⟨gPc_blind _ _ _, gPre hD hK hS hB⟩ rfl hn hl2.1 hst (g_rm hW) d hcs) hS (fun v u H1 locs1 h1 h2 h3 => ?_)
  exact kk v u h1 p e s m args below meth c H1 locs1 ls ⟨hx, hb, hml, hown, hts, hr, hlk, hK, hB, hnm⟩ h2 h3 hl2
theorem g_callSN {mc : gY} {n h' idx : Nat} {host : String} {As : List Value} {Q' : Option Value → gMem → Prop} (hl : Cond.methodLinkNest mm.1.cls idx mc.1 host ∈ gT) (hi : gInfS mc n) (hM : gMet l E mc h' As M Q') (hR : h' + 1 ≤ V.1.frames ∧ 8 + (mc.2.2.1 + 11) + 40 * h' ≤ V.1.locals)
    (hn : As.length = n) (hst : st = As.reverse ++ rest) (hW : (rest.map fun v => v.category).sum ≤ 8) (hcs : cs.1 ≤ V.1.cells ∧ cs.2 ≤ V.1.slots) (d : decode mm.2.1 pc = .ok (.invokestatic idx, 3))
    (kk : ∀ v u, Q' v u → gG l V mm E cs u (pc + 3) lv (v.toList ++ rest)) : gG l V mm E cs M pc lv st := by
  intro p e s m args below meth c H locs ls X hD hS hl2
  obtain ⟨hx, hb, hml, hown, hts, hr, hlk, hK, hB, hnm⟩ := X
  refine g_back (va_runSN (As := As) (rest := rest) ⟨hx, hb, hml, hown, hts⟩ hM ⟨gCallN hts hi.1 hl hR, hts _ hi.2, trivial⟩ ⟨gPc_blind _ _ _, gPre hD hK hS hB⟩ rfl hn hl2.1 hst (g_rm hW) d hcs) hS (fun v u H1 locs1 h1 h2 h3 => ?_)
  exact kk v u h1 p e s m args below meth c H1 locs1 ls ⟨hx, hb, hml, hown, hts, hr, hlk, hK, hB, hnm⟩ h2 h3 hl2
/-- the answer of a call that answers one thing -/
theorem g_one {v0 : Option Value} {M' : gMem} {P : Option Value → gMem → Prop} (h : P v0 M') : ∀ v u, (v = v0 ∧ u = M') → P v u := fun v u e => by obtain ⟨e1, e2⟩ := e; subst e1; subst e2; exact h
theorem g_rI {r : Int32} {M' : gMem} (k : gG l V mm E cs M' pc lv (.int r :: rest)) : ∀ v u, (v = some (.int r) ∧ u = M') → gG l V mm E cs u pc lv (v.toList ++ rest) := fun v u e => by obtain ⟨e1, e2⟩ := e; subst e1; subst e2; exact k
theorem g_rL {r : Int64} {M' : gMem} (k : gG l V mm E cs M' pc lv (.long r :: rest)) : ∀ v u, (v = some (.long r) ∧ u = M') → gG l V mm E cs u pc lv (v.toList ++ rest) := fun v u e => by obtain ⟨e1, e2⟩ := e; subst e1; subst e2; exact k
theorem g_rU {M' : gMem} (k : gG l V mm E cs M' pc lv rest) : ∀ v u, (v = none ∧ u = M') → gG l V mm E cs u pc lv (v.toList ++ rest) := fun v u e => by obtain ⟨e1, e2⟩ := e; subst e1; subst e2; exact k
end gCalls

