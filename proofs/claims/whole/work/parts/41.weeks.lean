/-! weeks as bits, and weeks as the reference counts them -/
section wk
variable {V : Nat → Nat → Nat} {sg row m : Nat}
theorem mC_pt {i : Nat} (h : V i 3 ≤ V i 4) : (mC V sg row i && (sMask (V i 3) (V i 4)).testBit m) = (sg.testBit i && sPt V i row m) := by
  rw [sPt_eq h]
  unfold mC
  rw [Bool.and_assoc]
theorem ite_bit {c : Bool} {a b : Nat} : (if c then a ||| b else a).testBit m = (a.testBit m || (c && b.testBit m)) := by
  cases c <;> simp
theorem mST_bit : ∀ n, (∀ i, i < n → V i 3 ≤ V i 4) → (mS V sg row n).testBit m = decide (0 < sSold V n sg row m) ∧ (mT V sg row n).testBit m = decide (1 < sSold V n sg row m) := by
  intro n
  induction n with
  | zero => intro _; simp [mS, mT, sSold, sSum]
  | succ n ih =>
    intro h
    obtain ⟨i1, i2⟩ := ih (fun i hi => h i (by omega))
    have e := mC_pt (sg := sg) (row := row) (m := m) (h n (by omega))
    have eS : sSold V (n + 1) sg row m = sSold V n sg row m + (if sg.testBit n && sPt V n row m then 1 else 0) := rfl
    have e1 : (mS V sg row (n + 1)).testBit m = ((mS V sg row n).testBit m || (mC V sg row n && (sMask (V n 3) (V n 4)).testBit m)) := ite_bit
    have e2 : (mT V sg row (n + 1)).testBit m = ((mT V sg row n).testBit m || (mC V sg row n && (mS V sg row n &&& sMask (V n 3) (V n 4)).testBit m)) := ite_bit
    rw [e1, e2, i1, i2, Nat.testBit_and, i1, eS]
    have e3 : (mC V sg row n && (decide (0 < sSold V n sg row m) && (sMask (V n 3) (V n 4)).testBit m)) = (decide (0 < sSold V n sg row m) && (mC V sg row n && (sMask (V n 3) (V n 4)).testBit m)) := by
      cases mC V sg row n <;> cases (sMask (V n 3) (V n 4)).testBit m <;> simp
    rw [e3, e]
    cases sg.testBit n && sPt V n row m with
    | false => simp
    | true =>
      simp only [Bool.and_true, if_true]
      constructor
      · simp
      · rw [Bool.eq_iff_iff, Bool.or_eq_true, decide_eq_true_iff, decide_eq_true_iff, decide_eq_true_iff]
        omega
theorem mA_bit : ∀ n, (∀ i, i < n → V i 3 ≤ V i 4) → (mA V sg row n).testBit m = sAl V n sg row m := by
  intro n
  induction n with
  | zero => intro _; simp [mA, sAl, sAny]
  | succ n ih =>
    intro h
    have i1 := ih (fun i hi => h i (by omega))
    have e := mC_pt (sg := sg) (row := row) (m := m) (h n (by omega))
    have e1 : (mA V sg row (n + 1)).testBit m = ((mA V sg row n).testBit m || ((mC V sg row n && V n 5 == 1) && (sMask (V n 3) (V n 4)).testBit m)) := ite_bit
    have e2 : sAl V (n + 1) sg row m = (sAl V n sg row m || (sg.testBit n && V n 5 == 1 && sPt V n row m)) := rfl
    rw [e1, e2, i1]
    congr 1
    rw [show (mC V sg row n && V n 5 == 1 && (sMask (V n 3) (V n 4)).testBit m) = (V n 5 == 1 && (mC V sg row n && (sMask (V n 3) (V n 4)).testBit m)) by cases mC V sg row n <;> cases V n 5 == 1 <;> simp, e]
    cases sg.testBit n <;> cases V n 5 == 1 <;> simp
theorem sWeeks_bit {n fr to : Nat} (hV : ∀ i, i < n → V i 3 ≤ V i 4) (hV4 : ∀ i, i < n → V i 4 ≤ 51) (hft : fr ≤ to) (hto : to ≤ 51) {q : Nat} (hq : q < 5) : (sWeeks V n sg fr to row q).testBit m = (decide (fr ≤ m) && decide (m ≤ to) && pI V n sg row m q) := by
  have hb := mST_bit (sg := sg) (row := row) (m := m) n hV
  have ha := mA_bit (sg := sg) (row := row) (m := m) n hV
  rcases (show q = 0 ∨ q = 1 ∨ q = 2 ∨ q = 3 ∨ q = 4 by omega) with rfl | rfl | rfl | rfl | rfl
  · show (sMask fr to).testBit m = _
    rw [sMask_bit hft]; simp [pI]
  · show (sMask fr to &&& mS V sg row n).testBit m = _
    rw [Nat.testBit_and, sMask_bit hft, hb.1]; rfl
  · show (sMask fr to &&& mT V sg row n).testBit m = _
    rw [Nat.testBit_and, sMask_bit hft, hb.2]; rfl
  · show (sMask fr to &&& mA V sg row n).testBit m = _
    rw [Nat.testBit_and, sMask_bit hft, ha]; rfl
  · show (sMask fr to &&& (2 ^ 64 - (mS V sg row n + 1))).testBit m = _
    have hl := mS_lt (V := V) (sg := sg) (row := row) n hV4
    rw [Nat.testBit_and, sMask_bit hft, Nat.testBit_two_pow_sub_succ (by omega), hb.1]
    by_cases h : m ≤ to
    · have h64 : m < 64 := by omega
      simp only [h, h64, decide_true, Bool.true_and, Bool.and_true]
      congr 1
      show (!decide (0 < sSold V n sg row m)) = (sSold V n sg row m == 0)
      cases hz : sSold V n sg row m <;> simp
    · simp [h]
end wk
theorem sSum_split (f : Nat → Nat) (a : Nat) : ∀ b, sSum f (a + b) = sSum f a + sSum (fun t => f (a + t)) b := by
  intro b
  induction b with
  | zero => rfl
  | succ b ih =>
    show sSum f (a + b) + f (a + b) = sSum f a + (sSum (fun t => f (a + t)) b + f (a + b))
    rw [ih]; omega
theorem sSum_0 {f : Nat → Nat} : ∀ n, (∀ i, i < n → f i = 0) → sSum f n = 0 := by
  intro n
  induction n with
  | zero => intro _; rfl
  | succ n ih => intro h; show sSum f n + f n = 0; rw [ih (fun i hi => h i (by omega)), h n (by omega)]
theorem points_eq {V : Nat → Nat → Nat} {n sg fr to : Nat} (hV : ∀ i, i < n → V i 3 ≤ V i 4) (hV4 : ∀ i, i < n → V i 4 ≤ 51) (hft : fr ≤ to) (hto : to ≤ 51) {q : Nat} (hq : q < 5) (c : Nat) : sSum (fun z => sPop (sWeeks V n sg fr to z q)) c = pAll V n sg fr to q c := by
  refine sSum_congr c (fun z _ => ?_)
  unfold sPop pRow
  rw [show 52 = fr + ((to + 1 - fr) + (51 - to)) by omega, sSum_split, sSum_split, sSum_0 fr, sSum_0 (51 - to)]
  · rw [Nat.zero_add, Nat.add_zero]
    refine sSum_congr _ (fun t ht => ?_)
    rw [sWeeks_bit hV hV4 hft hto hq]
    have h1 : fr ≤ fr + t := by omega
    have h2 : fr + t ≤ to := by omega
    simp only [h1, h2, decide_true, Bool.true_and]
  · intro t _
    rw [sWeeks_bit hV hV4 hft hto hq]
    have h2 : ¬ fr + (to + 1 - fr + t) ≤ to := by omega
    simp only [h2, decide_false, Bool.and_false, Bool.false_and, Bool.false_eq_true, if_false]
  · intro t ht
    rw [sWeeks_bit hV hV4 hft hto hq]
    have h2 : ¬ fr ≤ t := by omega
    simp only [h2, decide_false, Bool.false_and, Bool.false_eq_true, if_false]
/-- the weeks of x: those of p from fr to to -/
def xP (x : Nat) (p : Nat → Bool) (fr to : Nat) : Prop := ∀ m, x.testBit m = (decide (fr ≤ m) && decide (m ≤ to) && p m)
theorem sFw_sp {p : Nat → Bool} : ∀ k w, (∀ m, w ≤ m → m < sFw p w k → p m = false) ∧ (sFw p w k < w + k → p (sFw p w k) = true) := by
  intro k
  induction k with
  | zero => intro w; exact ⟨fun m h1 h2 => by simp only [sFw] at h2; omega, fun h => by simp only [sFw] at h; omega⟩
  | succ k ih =>
    intro w
    obtain ⟨i1, i2⟩ := ih (w + 1)
    unfold sFw
    by_cases h : p w = true
    · rw [if_pos h]; exact ⟨fun m h1 h2 => by omega, fun _ => h⟩
    · rw [if_neg h]
      refine ⟨fun m h1 h2 => ?_, fun h2 => i2 (by omega)⟩
      rcases Nat.eq_or_lt_of_le h1 with e | e
      · subst e; exact Bool.eq_false_iff.mpr h
      · exact i1 m e h2
theorem sTw_sp {p : Nat → Bool} : ∀ k w, p w = true → (∀ m, w ≤ m → m ≤ sTw p w k → p m = true) ∧ (sTw p w k < w + k → p (sTw p w k + 1) = false) := by
  intro k
  induction k with
  | zero => intro w hw; exact ⟨fun m h1 h2 => by simp only [sTw] at h2; rw [show m = w by omega]; exact hw, fun h => by simp only [sTw] at h; omega⟩
  | succ k ih =>
    intro w hw
    unfold sTw
    by_cases h : p (w + 1) = true
    · rw [if_pos h]
      obtain ⟨i1, i2⟩ := ih (w + 1) h
      refine ⟨fun m h1 h2 => ?_, fun h2 => i2 (by omega)⟩
      rcases Nat.eq_or_lt_of_le h1 with e | e
      · subst e; exact hw
      · exact i1 m e h2
    · rw [if_neg h]
      exact ⟨fun m h1 h2 => by rw [show m = w by omega]; exact hw, fun _ => Bool.eq_false_iff.mpr h⟩
theorem sRn_run {x : Nat} : ∀ r f, f + r ≤ 52 → (∀ m, f ≤ m → m < f + r → x.testBit m = true) → (f + r = 52 ∨ x.testBit (f + r) = false) → sRn x f (52 - f) = r := by
  intro r
  induction r with
  | zero =>
    intro f h1 _ h3
    rcases Nat.lt_or_ge f 52 with h | h
    · rw [sRn_step h, if_neg (by rcases h3 with e | e; omega; rw [show f = f + 0 from rfl, e]; decide)]
    · rw [show 52 - f = 0 by omega]; rfl
  | succ r ih =>
    intro f h1 h2 h3
    rw [sRn_step (by omega), if_pos (h2 f (by omega) (by omega)), ih (f + 1) (by omega) (fun m a b => h2 m (by omega) (by omega)) (by rw [show f + 1 + r = f + (r + 1) by omega]; exact h3)]
    omega
theorem sWs_bit {x : Nat} (hx : x < 4503599627370496) {m : Nat} (hm : m < 64) : (sWs x).testBit m = (x.testBit m && !(decide (1 ≤ m) && x.testBit (m - 1))) := by
  unfold sWs
  rw [show (18446744073709551616 : Nat) = 2 ^ 64 from rfl, Nat.testBit_and, Nat.testBit_two_pow_sub_succ (by omega), Nat.mul_comm x, Nat.testBit_two_pow_mul]
  simp only [hm, decide_true, Bool.true_and]
theorem sCnt_s (x w : Nat) : sCnt x (w + 1) = sCnt x w + (if x.testBit w then 1 else 0) := rfl
theorem sCnt_mono (x : Nat) {a b : Nat} (h : a ≤ b) : sCnt x a ≤ sCnt x b := by
  induction b with
  | zero => rw [show a = 0 by omega]; exact Nat.le_refl _
  | succ b ih =>
    rcases Nat.eq_or_lt_of_le h with e | e
    · subst e; exact Nat.le_refl _
    · have := ih (by omega); rw [sCnt_s]; omega
theorem sCnt_no (x : Nat) {a b : Nat} (h : a ≤ b) (h0 : ∀ m, a ≤ m → m < b → x.testBit m = false) : sCnt x b = sCnt x a := by
  induction b with
  | zero => rw [show a = 0 by omega]
  | succ b ih =>
    rcases Nat.eq_or_lt_of_le h with e | e
    · subst e; rfl
    · rw [sCnt_s, h0 b (by omega) (by omega), ih (by omega) (fun m h1 h2 => h0 m h1 (by omega))]; rfl
theorem sKth_some {x f j : Nat} (hf : f < 52) (hb : x.testBit f = true) (hc : sCnt x f = j) : sKth x j = some f := by
  unfold sKth
  have hs : (sFr (fun w => x.testBit w && sCnt x w == j) 0 52).isSome = true := (sFr_some 52 0).mpr ⟨f, by omega, by omega, by simp [hb, hc]⟩
  cases hq : sFr (fun w => x.testBit w && sCnt x w == j) 0 52 with
  | none => rw [hq] at hs; cases hs
  | some w =>
    obtain ⟨_, _, hp⟩ := sFr_lt 52 0 w hq
    simp only [Bool.and_eq_true, beq_iff_eq] at hp
    have h1 := sCnt_s x w
    have h2 := sCnt_s x f
    rw [hp.1] at h1
    rw [hb] at h2
    simp only [if_true] at h1 h2
    rcases Nat.lt_trichotomy w f with h | h | h
    · have := sCnt_mono x (show w + 1 ≤ f by omega); omega
    · rw [h]
    · have := sCnt_mono x (show f + 1 ≤ w by omega); omega
theorem sKth_none {x j : Nat} (h : sPop x ≤ j) : sKth x j = none := by
  unfold sKth
  cases hq : sFr (fun w => x.testBit w && sCnt x w == j) 0 52 with
  | none => rfl
  | some w =>
    obtain ⟨_, hw, hp⟩ := sFr_lt 52 0 w hq
    simp only [Bool.and_eq_true, beq_iff_eq] at hp
    have h1 := sCnt_s x w
    rw [hp.1] at h1
    simp only [if_true] at h1
    have := sCnt_mono x (show w + 1 ≤ 52 by omega)
    have e : sCnt x 52 = sPop x := rfl
    omega
/-- one window found from wk on -/
theorem wstep {x : Nat} {p : Nat → Bool} {fr to wk : Nat} (hx : xP x p fr to) (hto : to ≤ 51) (h1 : fr ≤ wk) (h2 : wk ≤ to + 1) (f : Nat) (hf : f = sFw p wk (to + 1 - wk)) :
    wk ≤ f ∧ f ≤ to + 1 ∧ (∀ m, wk ≤ m → m < f → x.testBit m = false) ∧ (f ≤ to → ∀ e, e = sTw p f (to - f) → f ≤ e ∧ e ≤ to ∧ (∀ m, f ≤ m → m ≤ e → x.testBit m = true) ∧ x.testBit (e + 1) = false ∧ sRn x f (52 - f) = e + 1 - f) := by
  have a1 := sFw_le (p := p) (to + 1 - wk) wk
  have a2 := sFw_sp (p := p) (to + 1 - wk) wk
  rw [← hf] at a1 a2
  refine ⟨a1.1, by omega, fun m b1 b2 => ?_, fun hft e he => ?_⟩
  · rw [hx m, a2.1 m b1 b2, Bool.and_false]
  · have hpf : p f = true := a2.2 (by omega)
    have c1 := sTw_le (p := p) (to - f) f
    have c2 := sTw_sp (p := p) (to - f) f hpf
    rw [← he] at c1 c2
    have d1 : ∀ m, f ≤ m → m ≤ e → x.testBit m = true := by
      intro m g1 g2
      rw [hx m, c2.1 m g1 g2, decide_eq_true (show fr ≤ m by omega), decide_eq_true (show m ≤ to by omega)]
      rfl
    have d2 : x.testBit (e + 1) = false := by
      rw [hx (e + 1)]
      by_cases g : e < to
      · rw [c2.2 (by omega), Bool.and_false]
      · rw [decide_eq_false (show ¬ e + 1 ≤ to by omega)]; simp
    refine ⟨c1.1, by omega, d1, d2, ?_⟩
    refine sRn_run (e + 1 - f) f (by omega) (fun m g1 g2 => d1 m g1 (by omega)) (Or.inr ?_)
    rw [show f + (e + 1 - f) = e + 1 by omega]; exact d2
theorem nI_ne1 {c : Nat} (h : c < 2147483648) : ¬ nI c = -1 := by
  intro e
  have e2 := congrArg Int32.toInt e
  rw [nI_toInt (by omega)] at e2
  have e3 : ((-1 : Int32)).toInt = -1 := by decide
  omega
theorem sWi_eq {x : Nat} {p : Nat → Bool} {fr to : Nat} (hx : xP x p fr to) (hxl : x < 4503599627370496) (hto : to ≤ 51) (k q : Int32) (hk : k = -1 ∨ ∃ j, j < 2147483648 ∧ k = nI j) : ∀ d wk c, fr ≤ wk → wk ≤ to + 1 → to + 1 - wk < d → c = sCnt (sWs x) wk → (x.testBit wk = true → (sWs x).testBit wk = true) → (∀ j, j < 2147483648 → k = nI j → c ≤ j) → sWi p to k q d wk c = fWd x k q := by
  intro d
  induction d with
  | zero => intro wk c _ _ h; omega
  | succ d ih =>
    intro wk c h1 h2 h3 h4 h5 h6
    unfold sWi
    have hw := wstep hx hto h1 h2 _ rfl
    generalize sFw p wk (to + 1 - wk) = f at hw
    obtain ⟨w1, w2, w3, w4⟩ := hw
    have hcl : c ≤ wk := by rw [h4]; exact sCnt_le _ _
    have hcf : sCnt (sWs x) f = c := by
      rw [h4]
      refine sCnt_no _ w1 (fun m a b => ?_)
      rw [sWs_bit hxl (by omega), w3 m a b]; rfl
    by_cases hft : f ≤ to
    · rw [if_pos hft]
      have w4 := w4 hft _ rfl
      generalize sTw p f (to - f) = e at w4
      obtain ⟨v1, v2, v3, v4, v5⟩ := w4
      have hst : (sWs x).testBit f = true := by
        rcases Nat.eq_or_lt_of_le w1 with g | g
        · rw [← g]; exact h5 (by rw [g]; exact v3 f (by omega) (by omega))
        · rw [sWs_bit hxl (by omega), v3 f (by omega) (by omega), w3 (f - 1) (by omega) (by omega)]; simp
      by_cases hck : nI c = k
      · rw [if_pos hck]
        have hk1 : ¬ k = -1 := by rw [← hck]; exact nI_ne1 (by omega)
        unfold fWd
        rw [if_neg hk1, ← hck, nI_toInt (by omega), show ((c : Int)).toNat = c from rfl, sKth_some (by omega) hst hcf]
        show _ = if q = nI 0 then nI f else nI (f + sRn x f (52 - f) - 1)
        rw [v5, show f + (e + 1 - f) - 1 = e by omega]
      · rw [if_neg hck]
        refine ih (e + 1) (c + 1) (by omega) (by omega) (by omega) ?_ (fun h => by rw [v4] at h; cases h) (fun j hj hkj => ?_)
        · have e1 : sCnt (sWs x) (e + 1) = sCnt (sWs x) (f + 1) := by
            refine sCnt_no _ (by omega) (fun m a b => ?_)
            rw [sWs_bit hxl (by omega), v3 (m - 1) (by omega) (by omega), decide_eq_true (show 1 ≤ m by omega)]; simp
          rw [e1, sCnt_s, hcf, hst]; rfl
        · have := h6 j hj hkj
          rcases Nat.eq_or_lt_of_le this with g | g
          · exact absurd (by rw [g, hkj]) hck
          · exact g
    · rw [if_neg hft]
      have hp : sPop (sWs x) = c := by
        have e1 : sCnt (sWs x) 52 = sCnt (sWs x) f := by
          refine sCnt_no _ (by omega) (fun m a b => ?_)
          rw [sWs_bit hxl (by omega), hx m, decide_eq_false (show ¬ m ≤ to by omega)]; simp
        rw [← hcf, ← e1]; rfl
      unfold fWd
      rcases hk with hk | ⟨j, hj, hk⟩
      · rw [if_pos hk, if_pos hk, hp]
      · have hk1 : ¬ k = -1 := by rw [hk]; exact nI_ne1 hj
        rw [if_neg hk1, if_neg hk1, hk, nI_toInt (by omega), show ((j : Int)).toNat = j from rfl, sKth_none (by rw [hp]; exact h6 j hj hk)]
theorem sCnt_lo {x : Nat} {p : Nat → Bool} {fr to : Nat} (hx : xP x p fr to) (hxl : x < 4503599627370496) (hf : fr ≤ 51) : sCnt (sWs x) fr = 0 := by
  have e := sCnt_no (sWs x) (Nat.zero_le fr) (fun m _ b => by
    rw [sWs_bit hxl (by omega), hx m, decide_eq_false (show ¬ fr ≤ m by omega)]; rfl)
  rw [e]; rfl
theorem window_eq {x : Nat} {p : Nat → Bool} {fr to : Nat} (hx : xP x p fr to) (hxl : x < 4503599627370496) (hft : fr ≤ to) (hto : to ≤ 51) (k q : Int32) (hk : k = -1 ∨ ∃ j, j < 2147483648 ∧ k = nI j) : sWi p to k q 60 fr 0 = fWd x k q := by
  refine sWi_eq hx hxl hto k q hk 60 fr 0 (Nat.le_refl _) (by omega) (by omega) (sCnt_lo hx hxl (by omega)).symm (fun h => ?_) (fun j _ _ => Nat.zero_le _)
  rw [sWs_bit hxl (by omega), h]
  by_cases g : 1 ≤ fr
  · rw [hx (fr - 1), decide_eq_false (show ¬ fr ≤ fr - 1 by omega)]; simp
  · simp [g]
theorem sLs_s (x w : Nat) : sLs x (w + 1) = if (if x.testBit w then (sLs x w).2.2 + 1 else 0) > (sLs x w).1 then ((if x.testBit w then (sLs x w).2.2 + 1 else 0), w + 1 - (if x.testBit w then (sLs x w).2.2 + 1 else 0), (if x.testBit w then (sLs x w).2.2 + 1 else 0)) else ((sLs x w).1, (sLs x w).2.1, (if x.testBit w then (sLs x w).2.2 + 1 else 0)) := rfl
theorem sLs_z {x w : Nat} (h : x.testBit w = false) : sLs x (w + 1) = ((sLs x w).1, (sLs x w).2.1, 0) := by
  rw [sLs_s, h]; simp
theorem sLs_no {x a b : Nat} (h : a ≤ b) (h0 : ∀ m, a ≤ m → m < b → x.testBit m = false) : (sLs x b).1 = (sLs x a).1 ∧ (sLs x b).2.1 = (sLs x a).2.1 ∧ (a < b → (sLs x b).2.2 = 0) := by
  induction b with
  | zero => rw [show a = 0 by omega]; exact ⟨rfl, rfl, fun h => by omega⟩
  | succ b ih =>
    rcases Nat.eq_or_lt_of_le h with e | e
    · subst e; exact ⟨rfl, rfl, fun h => by omega⟩
    · obtain ⟨i1, i2, _⟩ := ih (by omega) (fun m h1 h2 => h0 m h1 (by omega))
      rw [sLs_z (h0 b (by omega) (by omega))]
      exact ⟨i1, i2, fun _ => rfl⟩
theorem sLs_run {x f bl bs : Nat} (h0 : sLs x f = (bl, bs, 0)) : ∀ r, (∀ m, f ≤ m → m < f + r → x.testBit m = true) → sLs x (f + r) = if r > bl then (r, f, r) else (bl, bs, r) := by
  intro r
  induction r with
  | zero => intro _; rw [Nat.add_zero, h0]; simp
  | succ r ih =>
    intro h
    have i := ih (fun m a b => h m a (by omega))
    rw [show f + (r + 1) = f + r + 1 by omega, sLs_s, h (f + r) (by omega) (by omega), i]
    simp only [if_true]
    by_cases h1 : r > bl
    · rw [if_pos h1, if_pos (by simp), if_pos (by omega)]
      simp only [Prod.mk.injEq, and_true, true_and]
      omega
    · rw [if_neg h1]
      by_cases h2 : r + 1 > bl
      · rw [if_pos (by simpa using h2), if_pos h2]
        simp only [Prod.mk.injEq, and_true, true_and]
        omega
      · rw [if_neg (by simpa using h2), if_neg h2]
theorem lgS_eq {x : Nat} {p : Nat → Bool} {fr to : Nat} (hx : xP x p fr to) (hto : to ≤ 51) (c : Nat) (g0 : Nat × Nat × Nat) : ∀ d wk g, fr ≤ wk → wk ≤ to + 1 → to + 1 - wk < d → (x.testBit wk = true → (sLs x wk).2.2 = 0) → ((sLs x wk).1 = 0 → (sLs x wk).2.1 = 0 ∧ ∀ m, m < wk → x.testBit m = false) → (0 < (sLs x wk).1 → sRn x (sLs x wk).2.1 (52 - (sLs x wk).2.1) = (sLs x wk).1) → g = (if (sLs x wk).1 > g0.1 then ((sLs x wk).1, c, (sLs x wk).2.1) else g0) →
    lgS p to c d wk g = (if (sLs x 52).1 > g0.1 then ((sLs x 52).1, c, (sLs x 52).2.1) else g0) ∧ sRn x (sLs x 52).2.1 (52 - (sLs x 52).2.1) = (sLs x 52).1 := by
  intro d
  induction d with
  | zero => intro wk g _ _ h; omega
  | succ d ih =>
    intro wk g h1 h2 h3 h4 h5 h6 h7
    unfold lgS
    have hw := wstep hx hto h1 h2 _ rfl
    generalize sFw p wk (to + 1 - wk) = f at hw
    obtain ⟨w1, w2, w3, w4⟩ := hw
    obtain ⟨n1, n2, n3⟩ := sLs_no w1 w3
    by_cases hft : f ≤ to
    · rw [if_pos hft]
      have w4 := w4 hft _ rfl
      generalize sTw p f (to - f) = e at w4
      obtain ⟨v1, v2, v3, v4, v5⟩ := w4
      have hc0 : (sLs x f).2.2 = 0 := by
        rcases Nat.eq_or_lt_of_le w1 with q | q
        · rw [← q]; exact h4 (by rw [q]; exact v3 f (by omega) (by omega))
        · exact n3 q
      have hrun := sLs_run (x := x) (f := f) (bl := (sLs x wk).1) (bs := (sLs x wk).2.1) (by rw [← n1, ← n2, ← hc0]) (e + 1 - f) (fun m a b => v3 m a (by omega))
      rw [show f + (e + 1 - f) = e + 1 by omega] at hrun
      generalize (sLs x wk).1 = bl at *
      generalize (sLs x wk).2.1 = bs at *
      refine ih (e + 1) _ (by omega) (by omega) (by omega) (fun h => by rw [v4] at h; cases h) ?_ ?_ ?_
      · rw [hrun]
        split
        · intro h; simp at h; omega
        · intro h; simp at h; omega
      · rw [hrun]
        split
        · intro _; exact v5
        · intro h; exact h6 h
      · rw [hrun, h7, show e - f + 1 = e + 1 - f by omega]
        by_cases q1 : e + 1 - f > bl
        · rw [if_pos q1]
          by_cases q2 : bl > g0.1
          · rw [if_pos q2]
            simp only
            rw [if_pos q1, if_pos (by omega)]
          · rw [if_neg q2]
        · rw [if_neg q1]
          by_cases q2 : bl > g0.1
          · rw [if_pos q2]
            simp only
            rw [if_neg q1]
          · rw [if_neg q2, if_neg (by omega)]
    · rw [if_neg hft]
      have hz : ∀ m, wk ≤ m → m < 52 → x.testBit m = false := by
        intro m a b
        rcases Nat.lt_or_ge m f with q | q
        · exact w3 m a q
        · rw [hx m, decide_eq_false (show ¬ m ≤ to by omega)]; simp
      obtain ⟨m1, m2, _⟩ := sLs_no (x := x) (show wk ≤ 52 by omega) hz
      rw [m1, m2]
      refine ⟨h7, ?_⟩
      rcases Nat.eq_zero_or_pos (sLs x wk).1 with q | q
      · obtain ⟨q1, q2⟩ := h5 q
        rw [q, q1]
        refine sRn_run 0 0 (by omega) (fun m a b => by omega) (Or.inr ?_)
        rcases Nat.eq_zero_or_pos wk with z | z
        · exact hz 0 (by omega) (by omega)
        · exact q2 0 z
      · exact h6 q
theorem longest_eq {V : Nat → Nat → Nat} {n sg fr to : Nat} (x : Nat → Nat) (hx : ∀ c, xP (x c) (sLf V n sg c) fr to) (hft : fr ≤ to) (hto : to ≤ 51) : ∀ c, lgM V n sg fr to c = sLg x c := by
  intro c
  induction c with
  | zero => rfl
  | succ c ih =>
    have hl : ∀ m, m < fr → (x c).testBit m = false := fun m hm => by rw [hx c m, decide_eq_false (show ¬ fr ≤ m by omega)]; rfl
    obtain ⟨n1, n2, n3⟩ := sLs_no (x := x c) (Nat.zero_le fr) (fun m _ b => hl m b)
    have n1 : (sLs (x c) fr).1 = 0 := n1
    have n2 : (sLs (x c) fr).2.1 = 0 := n2
    have h := lgS_eq (hx c) hto c (lgM V n sg fr to c) 60 fr (lgM V n sg fr to c) (Nat.le_refl _) (by omega) (by omega) (fun _ => by
      rcases Nat.eq_zero_or_pos fr with z | z
      · rw [z]; rfl
      · exact n3 z) (fun _ => ⟨n2, hl⟩) (fun h => by rw [n1] at h; omega) (by rw [n1]; simp)
    show lgS (sLf V n sg c) to c 60 fr (lgM V n sg fr to c) = _
    rw [h.1]
    show _ = if sRn (x c) (sLs (x c) 52).2.1 (52 - (sLs (x c) 52).2.1) > (sLg x c).1 then _ else _
    rw [h.2, ih]
theorem xP_of {V : Nat → Nat → Nat} {n sg fr to : Nat} (hV : ∀ i, i < n → V i 3 ≤ V i 4) (hV4 : ∀ i, i < n → V i 4 ≤ 51) (hft : fr ≤ to) (hto : to ≤ 51) (row : Nat) : xP (sWeeks V n sg fr to row 4) (sLf V n sg row) fr to := fun _ => sWeeks_bit hV hV4 hft hto (by decide)
