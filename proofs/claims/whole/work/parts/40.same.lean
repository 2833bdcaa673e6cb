/-! what is told of a state, told the same of the class's view and of the reference's -/
def uE (u v : Nat → Nat) : Prop := ∀ w, w < 7 → u w = v w
def vE (n : Nat) (V W : Nat → Nat → Nat) : Prop := ∀ i, i < n → uE (V i) (W i)
def hEq (k : Nat) (H K : Nat → Nat → Nat) : Prop := ∀ h, h < k → ∀ w, w < 3 → H h w = K h w
theorem uOk_E {u v : Nat → Nat} (h : uE u v) (hu : uOk u) : uOk v := by
  obtain ⟨a0, a1, a2, a3, a4, a5, a6, a7⟩ := hu
  refine ⟨?_, ?_, ?_, ?_, ?_, ?_, ?_, ?_⟩ <;> (repeat rw [← h _ (by decide)]) <;> assumption
theorem sCom_E {u v u' v' : Nat → Nat} (h : uE u u') (g : uE v v') : sCom u v = sCom u' v' := by
  simp only [sCom, sWk]
  rw [h 0 (by decide), h 1 (by decide), h 2 (by decide), h 3 (by decide), h 4 (by decide), g 0 (by decide), g 1 (by decide), g 2 (by decide), g 3 (by decide), g 4 (by decide)]
theorem sCl_E {u v u' v' : Nat → Nat} (h : uE u u') (g : uE v v') : sCl u v = sCl u' v' := by
  simp only [sCl]
  rw [sCom_E h g, h 5 (by decide), g 5 (by decide)]
theorem sWk_comm (u v : Nat → Nat) : sWk u v = sWk v u := by
  unfold sWk
  split <;> split <;> split <;> split <;> omega
theorem sCom_comm (u v : Nat → Nat) : sCom u v = sCom v u := by
  unfold sCom
  rw [sWk_comm u v, Nat.and_comm (u 0), Nat.and_comm (u 1), Nat.and_comm (u 2)]
theorem sCl_comm (u v : Nat → Nat) : sCl u v = sCl v u := by
  unfold sCl
  rw [sCom_comm u v, Bool.or_comm]
theorem sAny_E {p q : Nat → Bool} : ∀ n, (∀ i, i < n → p i = q i) → sAny p n = sAny q n := by
  intro n
  induction n with
  | zero => intro _; rfl
  | succ n ih => intro h; simp only [sAny]; rw [ih (fun i hi => h i (by omega)), h n (by omega)]
theorem sFr_E {p q : Nat → Bool} : ∀ k j, (∀ i, j ≤ i → i < j + k → p i = q i) → sFr p j k = sFr q j k := by
  intro k
  induction k with
  | zero => intro j _; rfl
  | succ k ih => intro j h; simp only [sFr]; rw [h j (by omega) (by omega), ih (j + 1) (fun i h1 h2 => h i (by omega) (by omega))]
section same
variable {n : Nat} {V W : Nat → Nat → Nat}
theorem sPrice_E (h : vE n V W) (set : Nat) : sPrice V n set = sPrice W n set := sSum_congr n (fun i hi => by rw [h i hi 6 (by decide)])
theorem sIn_E {i : Nat} (h : uE (V i) (W i)) (fr to : Nat) : sIn V fr to i = sIn W fr to i := by
  simp only [sIn]; rw [h 3 (by decide), h 4 (by decide)]
theorem sBg_E {set land means : Nat} : ∀ n, vE n V W → sBg V set land means n = sBg W set land means n := by
  intro n
  induction n with
  | zero => intro _; rfl
  | succ n ih =>
    intro h
    have e := h n (by omega)
    have eH : sHas V set land means n = sHas W set land means n := by unfold sHas; rw [e 0 (by decide), e 2 (by decide)]
    simp only [sBg]
    rw [ih (fun i hi => h i (by omega)), eH, e 3 (by decide)]
variable {k : Nat} {H K : Nat → Nat → Nat}
theorem sKept_E (h : vE n V W) (hh : hEq k H K) {z : Nat} (hz : z < k) (set land : Nat) : sKept V n H set z land = sKept W n K set z land := by
  simp only [sKept]
  rw [sBg_E n h, sBg_E n h, hh z hz 0 (by decide), hh z hz 1 (by decide), hh z hz 2 (by decide)]
theorem sBrk_E (h : vE n V W) (hh : hEq k H K) {z : Nat} (hz : z < k) (set : Nat) : ∀ m, sBrk V n H set z m = sBrk W n K set z m := by
  intro m
  induction m with
  | zero => rfl
  | succ m ih => simp only [sBrk]; rw [ih, sKept_E h hh hz]
theorem sKepts_E (h : vE n V W) (hh : hEq k H K) (set : Nat) : sKepts V n H k set = sKepts W n K k set := by
  simp only [sKepts, sKept6]
  rw [sAny_E k (fun z hz => by rw [sAny_E 6 (fun land _ => by rw [sKept_E h hh hz])])]
theorem sClashOf_E (h : vE n V W) {i : Nat} (hi : i < n) (set : Nat) : sClashOf V n i set = sClashOf W n i set :=
  sFr_E n 0 (fun j _ hj => by rw [sCl_E (h i hi) (h j (by omega))])
theorem sWhy_E (h : vE n V W) (hh : hEq k H K) {i : Nat} (hi : i < n) (fr to sg : Nat) : sWhy V n H k fr to sg i = sWhy W n K k fr to sg i := by
  simp only [sWhy]
  rw [sIn_E (h i hi), sClashOf_E h hi, sKepts_E h hh]
theorem sOffer_E (h : vE n V W) {i : Nat} (hi : i < n) (sg : Nat) {w : Nat} (hw : w < 9) : sOffer V sg i w = sOffer W sg i w := by
  have e := h i hi
  rcases (show w < 7 ∨ w = 7 ∨ w = 8 by omega) with hw | rfl | rfl
  · have h7 : w ≠ 7 := by omega
    have h8 : w ≠ 8 := by omega
    simp only [sOffer]
    exact e w hw
  · rfl
  · exact sCom_E e e
theorem sPt_E {i : Nat} (h : uE (V i) (W i)) (row wk : Nat) : sPt V i row wk = sPt W i row wk := by
  simp only [sPt]; rw [h 0 (by decide), h 1 (by decide), h 2 (by decide), h 3 (by decide), h 4 (by decide)]
theorem sSold_E (h : vE n V W) (sg row wk : Nat) : sSold V n sg row wk = sSold W n sg row wk := sSum_congr n (fun i hi => by rw [sPt_E (h i hi)])
theorem sAl_E (h : vE n V W) (sg row wk : Nat) : sAl V n sg row wk = sAl W n sg row wk := sAny_E n (fun i hi => by rw [sPt_E (h i hi), h i hi 5 (by decide)])
theorem sPm_E (h : vE n V W) : sPm V n = sPm W n := sSum_congr n (fun i hi => sSum_congr i (fun j hj => by rw [sCl_E (h i hi) (h j (by omega))]))
theorem goodM_E (h : vE n V W) (hh : hEq k H K) (fr to set : Nat) : goodM V n H k fr to set = goodM W n K k fr to set := by
  simp only [goodM]
  rw [sKepts_E h hh, sAny_E (q := gmI W fr to set) n (fun i hi => by
    show (set.testBit i && (!(sIn V fr to i) || gmJ V set i i)) = (set.testBit i && (!(sIn W fr to i) || gmJ W set i i))
    rw [sIn_E (h i hi)]
    simp only [gmJ]
    rw [sAny_E i (fun j hj => by rw [sCl_E (h i hi) (h j (by omega))])])]
theorem sBest_E (h : vE n V W) {p q : Nat → Bool} : ∀ s, (∀ z, z < s → p z = q z) → sBest V n p s = sBest W n q s := by
  intro s
  induction s with
  | zero => intro _; rfl
  | succ s ih =>
    intro hp
    have eB : ∀ a b, sBet V n a b = sBet W n a b := fun a b => by unfold sBet; rw [sPrice_E h a, sPrice_E h b]
    simp only [sBest]
    rw [ih (fun z hz => hp z (by omega)), hp s (by omega), eB]
end same
theorem sSum_add (f g : Nat → Nat) : ∀ n, sSum (fun i => f i + g i) n = sSum f n + sSum g n := by
  intro n
  induction n with
  | zero => rfl
  | succ n ih => simp only [sSum]; rw [ih]; omega
theorem sSum_front (f : Nat → Nat) : ∀ n, sSum f (n + 1) = f 0 + sSum (fun i => f (i + 1)) n := by
  intro n
  induction n with
  | zero => simp [sSum]
  | succ n ih =>
    show sSum f (n + 1) + f (n + 1) = f 0 + (sSum (fun i => f (i + 1)) n + f (n + 1))
    rw [ih]; omega
/-- pairs that clash: the class looks behind, the reference ahead -/
theorem sPc_Pm (V : Nat → Nat → Nat) : ∀ n, sPc V n n = sPm V n := by
  intro n
  induction n with
  | zero => rfl
  | succ n ih =>
    show sSum (fun i => sPcI V i (n + 1 - (i + 1))) n + sPcI V n (n + 1 - (n + 1)) = sSum (fun i => sPmI V i i) n + sPmI V n n
    rw [show n + 1 - (n + 1) = 0 by omega]
    show sSum (fun i => sPcI V i (n + 1 - (i + 1))) n + 0 = _
    have e : sSum (fun i => sPcI V i (n + 1 - (i + 1))) n = sSum (fun i => sPcI V i (n - (i + 1)) + (if sCl (V i) (V n) then 1 else 0)) n := by
      refine sSum_congr n (fun i hi => ?_)
      rw [show n + 1 - (i + 1) = (n - (i + 1)) + 1 by omega]
      show sPcI V i (n - (i + 1)) + (if sCl (V i) (V (i + 1 + (n - (i + 1)))) then 1 else 0) = _
      rw [show i + 1 + (n - (i + 1)) = n by omega]
    rw [e, sSum_add]
    have ih : sSum (fun i => sPcI V i (n - (i + 1))) n = sSum (fun i => sPmI V i i) n := ih
    rw [ih]
    have e2 : sSum (fun i => if sCl (V i) (V n) then 1 else 0) n = sPmI V n n := sSum_congr n (fun i _ => by rw [sCl_comm])
    rw [e2]
    omega
theorem sOut_bit {V : Nat → Nat → Nat} {fr to : Nat} : ∀ n i, (sOut V fr to n).testBit i = (decide (i < n) && !(sIn V fr to i)) := by
  intro n
  induction n with
  | zero => intro i; simp [sOut]
  | succ n ih =>
    intro i
    simp only [sOut, Nat.testBit_or]
    rw [ih]
    by_cases h : i = n
    · subst h
      cases sIn V fr to i <;> simp [Nat.testBit_two_pow_self]
    · have h2 : (if sIn V fr to n then 0 else 2 ^ n).testBit i = false := by
        split
        · simp
        · exact Nat.testBit_two_pow_of_ne (Ne.symm h)
      rw [h2, Bool.or_false]
      congr 1
      rw [Bool.eq_iff_iff, decide_eq_true_iff, decide_eq_true_iff]
      omega
theorem sFr_some {p : Nat → Bool} : ∀ k j, (sFr p j k).isSome = true ↔ ∃ i, j ≤ i ∧ i < j + k ∧ p i = true := by
  intro k
  induction k with
  | zero => intro j; simp only [sFr]; constructor; intro h; cases h; rintro ⟨i, a, b, c⟩; omega
  | succ k ih =>
    intro j
    simp only [sFr]
    by_cases h : p j = true
    · rw [if_pos h]; exact ⟨fun _ => ⟨j, by omega, by omega, h⟩, fun _ => rfl⟩
    · rw [if_neg h, ih]
      constructor
      · rintro ⟨i, a, b, c⟩; exact ⟨i, by omega, by omega, c⟩
      · rintro ⟨i, a, b, c⟩
        refine ⟨i, ?_, by omega, c⟩
        rcases Nat.eq_or_lt_of_le a with e | e
        · subst e; exact absurd c h
        · omega
theorem and0_iff {a b : Nat} : a &&& b = 0 ↔ ∀ i, a.testBit i = true → b.testBit i = false := by
  constructor
  · intro h i hi
    have := congrArg (fun z => z.testBit i) h
    simp only [Nat.testBit_and, Nat.zero_testBit, hi, Bool.true_and] at this
    exact this
  · intro h
    apply Nat.eq_of_testBit_eq
    intro i
    rw [Nat.testBit_and, Nat.zero_testBit]
    cases ha : a.testBit i with
    | false => rfl
    | true => rw [h i ha]; rfl
theorem good_CM (V : Nat → Nat → Nat) (n : Nat) (Hd : Nat → Nat → Nat) (k fr to set : Nat) (hs : set < 2 ^ n) : goodC V n Hd k fr to set = goodM V n Hd k fr to set := by
  have hb : ∀ i, set.testBit i = true → i < n := by
    intro i hi
    rcases Nat.lt_or_ge i n with h | h
    · exact h
    · rw [Nat.testBit_lt_two_pow (Nat.lt_of_lt_of_le hs (Nat.pow_le_pow_right (by decide) h))] at hi; cases hi
  have e1 : (set &&& sOut V fr to n == 0) = true ↔ ∀ i, set.testBit i = true → sIn V fr to i = true := by
    rw [beq_iff_eq, and0_iff]
    constructor
    · intro h i hi
      have := h i hi
      rw [sOut_bit, decide_eq_true (hb i hi)] at this
      simpa using this
    · intro h i hi
      rw [sOut_bit, h i hi]
      simp
  have e2 : sNc V n set = true ↔ ∀ i j, set.testBit i = true → set.testBit j = true → j ≠ i → sCl (V i) (V j) = false := by
    unfold sNc
    rw [Bool.not_eq_true', sAny_no]
    constructor
    · intro h i j hi hj hij
      have h1 := h i (hb i hi)
      rw [hi, Bool.true_and] at h1
      cases hc : sCl (V i) (V j) with
      | false => rfl
      | true =>
        have : (sClashOf V n i set).isSome = true := (sFr_some n 0).mpr ⟨j, by omega, by have := hb j hj; omega, by simp [hij, hj, hc]⟩
        rw [this] at h1; cases h1
    · intro h i _
      cases hi : set.testBit i with
      | false => rfl
      | true =>
        cases hc : (sClashOf V n i set).isSome with
        | false => rfl
        | true =>
          obtain ⟨j, _, _, hj⟩ := (sFr_some n 0).mp hc
          simp only [Bool.and_eq_true, bne_iff_ne] at hj
          rw [h i j hi hj.1.2 hj.1.1] at hj
          exact absurd hj.2 (by decide)
  have e3 : (!(sAny (gmI V fr to set) n)) = true ↔ (∀ i, set.testBit i = true → sIn V fr to i = true) ∧ ∀ i j, set.testBit i = true → set.testBit j = true → j < i → sCl (V i) (V j) = false := by
    rw [Bool.not_eq_true', sAny_no]
    constructor
    · intro h
      refine ⟨fun i hi => ?_, fun i j hi hj hij => ?_⟩
      · have h1 := h i (hb i hi)
        simp only [gmI, hi, Bool.true_and, Bool.or_eq_false_iff, Bool.not_eq_false'] at h1
        exact h1.1
      · have h1 := h i (hb i hi)
        simp only [gmI, hi, Bool.true_and, Bool.or_eq_false_iff] at h1
        have h2 := sAny_no.mp h1.2 j hij
        simp only [hj, Bool.true_and] at h2
        exact h2
    · rintro ⟨h1, h2⟩ i _
      cases hi : set.testBit i with
      | false => simp [gmI, hi]
      | true =>
        simp only [gmI, hi, Bool.true_and, h1 i hi, Bool.not_true, Bool.false_or]
        refine sAny_no.mpr (fun j hj => ?_)
        cases hsj : set.testBit j with
        | false => rfl
        | true => simp [h2 i j hi hsj hj]
  rw [Bool.eq_iff_iff]
  unfold goodC goodM
  rw [Bool.and_eq_true, Bool.and_eq_true, Bool.and_eq_true, e1, e2, e3]
  constructor
  · rintro ⟨⟨a, b⟩, c⟩
    exact ⟨c, a, fun i j hi hj hij => b i j hi hj (by omega)⟩
  · rintro ⟨c, a, b⟩
    refine ⟨⟨a, fun i j hi hj hij => ?_⟩, c⟩
    rcases Nat.lt_or_ge j i with h | h
    · exact b i j hi hj h
    · rw [sCl_comm]; exact b j i hj hi (by omega)
