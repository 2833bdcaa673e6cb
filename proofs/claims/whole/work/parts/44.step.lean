/-! one call to each of the two: the same answer, and rel again -/
theorem gMet_mono {l : Launch} {E : gEnv} {mm : gY} {h : Nat} {av : List Value} {M : gMem} {Q Q' : Option Value → gMem → Prop} (hM : gMet l E mm h av M Q) (hq : ∀ v u, Q v u → Q' v u) : gMet l E mm h av M Q' := by
  intro p e ha hc hk s m args below hf happ hP hK
  obtain ⟨n, o, h1, h2, h3, h4⟩ := hM p e ha hc hk s m args below hf happ hP hK
  obtain ⟨⟨⟨v, u, a, b, c⟩, d⟩, f⟩ := h4
  exact ⟨n, o, h1, h2, h3, ⟨⟨v, u, a, hq v u b, c⟩, d⟩, f⟩
def pEnd (l : Launch) (E : gEnv) (mm : gY) (h : Nat) (av : List Value) : Option Value → gMem → Prop := fun v u => ∃ r, v = some (.int r) ∧ gMet l E mm h av u (fun v' w => v' = some (.int r) ∧ ∃ b b', rel E w b b')
section pr
variable {l : Launch} {E : gEnv} {M : gMem} {b b' : Nat}
theorem pr_obs {mC mM : gY} {h h' : Nat} {aC aM : List Value} {r r' : Int32} (hr : rel E M b b') (hc : gMetI l E mC h aC M r) (hm : gMetI l E mM h' aM M r') (e : r' = r) : gMet l E mC h aC M (pEnd l E mM h' aM) :=
  gMet_mono hc (fun v u q => ⟨r, q.1, by rw [q.2]; exact gMet_mono hm (fun v' w q' => ⟨by rw [q'.1, e], b, b', by rw [q'.2]; exact hr⟩)⟩)
theorem pr_obs2 {mC mM : gY} {h h' : Nat} {aC aM : List Value} {r r' : Int32} {Q : gMem → Prop} (hc : gMetI l E mC h aC M r) (hm : gMet l E mM h' aM M (fun v u => v = some (.int r') ∧ Q u)) (hq : ∀ u, Q u → rel E u b b') (e : r' = r) : gMet l E mC h aC M (pEnd l E mM h' aM) :=
  gMet_mono hc (fun v u q => ⟨r, q.1, by rw [q.2]; exact gMet_mono hm (fun v' w q' => ⟨by rw [q'.1, e], b, b', hq w q'.2⟩)⟩)
theorem fSel_E {n : Nat} {x : Int32} {f g : Nat → Int32} {bad : Int32} (h : ∀ j, j < n → f j = g j) : fSel n x f bad = fSel n x g bad := by
  unfold fSel
  cases hx : inR x n with
  | false => rfl
  | true =>
    have hx := of_decide_eq_true hx
    simp only [if_true]
    exact h _ (by omega)
theorem fRng_E {lo hi : Nat} {x : Int32} {f g : Nat → Int32} {bad : Int32} (h : ∀ j, lo ≤ j → j ≤ hi → f j = g j) : fRng lo hi x f bad = fRng lo hi x g bad := by
  unfold fRng
  cases hx : inG x lo hi with
  | false => rfl
  | true =>
    have hx := of_decide_eq_true hx
    simp only [if_true]
    exact h _ (by omega) (by omega)
theorem fCell_E {x y z : Int32} {f g : Nat → Nat → Nat → Int32} {bad : Int32} (h : ∀ i j k, i < 6 → j < 4 → k < 4 → f i j k = g i j k) : fCell x y z f bad = fCell x y z g bad := by
  unfold fCell
  cases hx : inR x 6 && inR y 4 && inR z 4 with
  | false => rfl
  | true =>
    simp only [Bool.and_eq_true] at hx
    have h1 := of_decide_eq_true hx.1.1
    have h2 := of_decide_eq_true hx.1.2
    have h3 := of_decide_eq_true hx.2
    simp only [if_true]
    exact h _ _ _ (by omega) (by omega) (by omega)
theorem rel_sg (hr : rel E M b b') : M.1 66 10 < 1024 := by
  obtain ⟨-, -, -, -, hsg, -, ⟨n1, -⟩, -⟩ := hr
  rw [n1]; exact hsg
theorem pr_why (hr : rel E M b b') (x : Int32) : gMet l E mX6_why 5 [.ref (gAd E 1), .int x] M (pEnd l E mX7_why 5 [.ref (gAd E 60), .int x]) := by
  have hv := rel_v hr
  have hh := rel_h hr
  refine pr_obs hr (kX6_why l E M b b' hr.1 hr.2.2.1 hr.2.2.2.2.1 x) (kX7_why l E M hr.2.1 (rel_mO hr) (rel_sg hr) x) ?_
  obtain ⟨-, -, -, -, -, ⟨t1, t2, t3, t4, -⟩, ⟨n1, -⟩, -⟩ := hr
  rw [t1, t2, t3, t4, n1]
  exact fSel_E (fun j hj => by rw [sWhy_E hv hh hj])
theorem pr_clash (hr : rel E M b b') (x : Int32) : gMet l E mX6_clash 4 [.ref (gAd E 1), .int x] M (pEnd l E mX7_clash 5 [.ref (gAd E 60), .int x]) := by
  have hv := rel_v hr
  refine pr_obs hr (kX6_clash l E M b b' hr.1 hr.2.2.1 hr.2.2.2.2.1 x) (kX7_clash l E M hr.2.1 (rel_mO hr) (rel_sg hr) x) ?_
  obtain ⟨-, -, -, -, -, ⟨t1, t2, t3, t4, -⟩, ⟨n1, -⟩, -⟩ := hr
  rw [t1, n1]
  exact fSel_E (fun j hj => by rw [sClashOf_E hv hj])
theorem pr_common (hr : rel E M b b') (x y : Int32) : gMet l E mX6_common 3 [.ref (gAd E 1), .int x, .int y] M (pEnd l E mX7_common 2 [.ref (gAd E 60), .int x, .int y]) := by
  have hv := rel_v hr
  refine pr_obs hr (kX6_common l E M b b' hr.1 hr.2.2.1 hr.2.2.2.2.1 x y) (kX7_common l E M hr.2.1 (rel_mO hr) (rel_sg hr) x y) ?_
  obtain ⟨-, -, -, -, -, ⟨t1, t2, t3, t4, -⟩, ⟨n1, -⟩, -⟩ := hr
  rw [t1]
  exact fSel_E (fun i hi => fSel_E (fun j hj => by rw [sCom_E (hv i hi) (hv j hj)]))
theorem pr_begin (hr : rel E M b b') (x y : Int32) : gMet l E mX6_begin 2 [.ref (gAd E 1), .int x, .int y] M (pEnd l E mX7_begin 2 [.ref (gAd E 60), .int x, .int y]) := by
  have hv := rel_v hr
  refine pr_obs hr (kX6_begin l E M b b' hr.1 hr.2.2.1 hr.2.2.2.2.1 x y) (kX7_begin l E M hr.2.1 (rel_mO hr) (rel_sg hr) x y) ?_
  obtain ⟨-, -, -, -, -, ⟨t1, t2, t3, t4, -⟩, ⟨n1, -⟩, -⟩ := hr
  rw [t1, n1]
  exact fSel_E (fun i hi => fSel_E (fun j hj => by rw [sBg_E _ hv]))
theorem pr_broken (hr : rel E M b b') (x : Int32) : gMet l E mX6_broken 4 [.ref (gAd E 1), .int x] M (pEnd l E mX7_broken 3 [.ref (gAd E 60), .int x]) := by
  have hv := rel_v hr
  have hh := rel_h hr
  refine pr_obs hr (kX6_broken l E M b b' hr.1 hr.2.2.1 hr.2.2.2.2.1 x) (kX7_broken l E M hr.2.1 (rel_mO hr) (rel_sg hr) x) ?_
  obtain ⟨-, -, -, -, -, ⟨t1, t2, t3, t4, -⟩, ⟨n1, -⟩, -⟩ := hr
  rw [t1, t2, n1]
  exact fSel_E (fun j hj => by rw [sBrk_E hv hh hj])
theorem pr_offer (hr : rel E M b b') (x y : Int32) : gMet l E mX6_offer 3 [.ref (gAd E 1), .int x, .int y] M (pEnd l E mX7_offer 2 [.ref (gAd E 60), .int x, .int y]) := by
  have hv := rel_v hr
  refine pr_obs hr (kX6_offer l E M b b' hr.1 hr.2.2.1 hr.2.2.2.2.1 x y) (kX7_offer l E M hr.2.1 (rel_mO hr) (rel_sg hr) x y) ?_
  obtain ⟨-, -, -, -, -, ⟨t1, t2, t3, t4, -⟩, ⟨n1, -⟩, -⟩ := hr
  rw [t1, n1]
  exact fSel_E (fun i hi => fSel_E (fun w hw => by rw [sOffer_E hv hi _ hw]))
theorem pr_count (hr : rel E M b b') (y : Int32) : gMet l E mX6_count 4 [.ref (gAd E 1), .int y] M (pEnd l E mX7_count 3 [.ref (gAd E 60), .int y]) := by
  have hv := rel_v hr
  refine pr_obs hr (kX6_count l E M b b' hr.1 hr.2.2.1 hr.2.2.2.2.1 y) (kX7_count l E M hr.2.1 (rel_mO hr) (rel_sg hr) y) ?_
  obtain ⟨-, -, -, -, -, ⟨t1, t2, t3, t4, -⟩, ⟨n1, -⟩, ⟨x1, -⟩, ⟨y1, -⟩⟩ := hr
  rw [t1, t2, t3, t4, n1, x1, y1, sPc_Pm, sPm_E hv, sPrice_E hv]
theorem rel_ft (hr : rel E M b b') : (∀ i, i < M.1 b 1 → cV M b i 3 ≤ cV M b i 4) ∧ (∀ i, i < M.1 b 1 → cV M b i 4 ≤ 51) ∧ M.1 b 4 ≤ M.1 b 5 ∧ M.1 b 5 ≤ 51 := by
  obtain ⟨-, -, hO, -⟩ := hr
  exact ⟨fun i hi => (hO.2.2.2.2.1 i hi).2.2.2.1, fun i hi => (hO.2.2.2.2.1 i hi).2.2.2.2.1, hO.2.2.1, hO.2.2.2.1⟩
theorem pI_E {n : Nat} {V W : Nat → Nat → Nat} (h : vE n V W) (sg row m q : Nat) : pI V n sg row m q = pI W n sg row m q := by
  rcases q with - | - | - | - | q
  · rfl
  · simp only [pI]; rw [sSold_E h]
  · simp only [pI]; rw [sSold_E h]
  · simp only [pI]; rw [sAl_E h]
  · simp only [pI]; rw [sSold_E h]
theorem pAll_E {n : Nat} {V W : Nat → Nat → Nat} (h : vE n V W) (sg fr to q c : Nat) : pAll V n sg fr to q c = pAll W n sg fr to q c :=
  sSum_congr c (fun row _ => sSum_congr _ (fun t _ => by rw [pI_E h]))
theorem pr_point (hr : rel E M b b') (x y z wk q : Int32) : gMet l E mX6_point 3 [.ref (gAd E 1), .int x, .int y, .int z, .int wk, .int q] M (pEnd l E mX7_point 3 [.ref (gAd E 60), .int x, .int y, .int z, .int wk, .int q]) := by
  have hv := rel_v hr
  obtain ⟨f1, f2, f3, f4⟩ := rel_ft hr
  refine pr_obs hr (kX6_point l E M b b' hr.1 hr.2.2.1 hr.2.2.2.2.1 x y z wk q) (kX7_point l E M hr.2.1 (rel_mO hr) (rel_sg hr) x y z wk q) ?_
  obtain ⟨-, -, -, -, -, ⟨t1, t2, t3, t4, -⟩, ⟨n1, -⟩, -⟩ := hr
  rw [t1, t3, t4, n1]
  refine fCell_E (fun i j k _ _ _ => fRng_E (fun m h1 h2 => ?_))
  rw [sWeeks_bit f1 f2 f3 f4 (by decide), ← sSold_E hv, ← sAl_E hv, decide_eq_true h1, decide_eq_true h2]
  rfl
theorem pr_points (hr : rel E M b b') (x : Int32) : gMet l E mX6_points 3 [.ref (gAd E 1), .int x] M (pEnd l E mX7_points 3 [.ref (gAd E 60), .int x]) := by
  have hv := rel_v hr
  obtain ⟨f1, f2, f3, f4⟩ := rel_ft hr
  refine pr_obs hr (kX6_points l E M b b' hr.1 hr.2.2.1 hr.2.2.2.2.1 x) (kX7_points l E M hr.2.1 (rel_mO hr) (rel_sg hr) x) ?_
  obtain ⟨-, -, -, -, -, ⟨t1, t2, t3, t4, -⟩, ⟨n1, -⟩, -⟩ := hr
  rw [t1, t3, t4, n1]
  exact fSel_E (fun q hq => by rw [points_eq f1 f2 f3 f4 hq, pAll_E hv])
theorem irr60 {b' k : Nat} (h : 19 ≤ k ∧ k ≤ 21) : irr b' 60 k := by unfold irr; omega
theorem rel_U {k x : Nat} (hr : rel E M b b') (h : 19 ≤ k ∧ k ≤ 21) : rel E (gU M 60 k x) b b' := by
  refine rel_ag hr rfl (fun a j hi => ?_) (fun i => ?_) (fun i => ?_)
  · simp only [gU]
    rw [if_neg]
    rintro ⟨rfl, rfl⟩
    exact hi (irr60 h)
  · have := hr.2.2.2.2.2.2.2.1.2.2.2.1 i
    simp only [gU]; rw [if_neg (by omega)]; exact this
  · have := hr.2.2.2.2.2.2.2.1.2.2.2.2 i
    simp only [gU]; rw [if_neg (by omega)]; exact this
theorem rel_Wn {u : gMem} (hr : rel E M b b') (h : mWn M u) : rel E u b b' := by
  rcases h with rfl | ⟨a, c, rfl⟩
  · exact hr
  · exact rel_U (rel_U hr (by omega)) (by omega)
theorem sLf_E {n : Nat} {V W : Nat → Nat → Nat} (h : vE n V W) (sg row : Nat) : sLf V n sg row = sLf W n sg row := funext fun z => by unfold sLf; rw [sSold_E h]
theorem lgM_E {n : Nat} {V W : Nat → Nat → Nat} (h : vE n V W) (sg fr to : Nat) : ∀ c, lgM V n sg fr to c = lgM W n sg fr to c := by
  intro c
  induction c with
  | zero => rfl
  | succ c ih => simp only [lgM]; rw [ih, sLf_E h]
theorem pr_window (hr : rel E M b b') (x y z kk q : Int32) : gMet l E mX6_window 3 [.ref (gAd E 1), .int x, .int y, .int z, .int kk, .int q] M (pEnd l E mX7_window 4 [.ref (gAd E 60), .int x, .int y, .int z, .int kk, .int q]) := by
  have hv := rel_v hr
  obtain ⟨f1, f2, f3, f4⟩ := rel_ft hr
  refine pr_obs2 (kX6_window l E M b b' hr.1 hr.2.2.1 hr.2.2.2.2.1 x y z kk q) (kX7_window l E M hr.2.1 (rel_mO hr) (rel_sg hr) x y z kk q) (fun u hu => rel_Wn hr hu) ?_
  obtain ⟨-, -, -, -, -, ⟨t1, t2, t3, t4, -⟩, ⟨n1, -⟩, -⟩ := hr
  rw [t1, t3, t4, n1]
  refine fCell_E (fun i j k _ _ _ => ?_)
  by_cases hk : -1 ≤ kk
  · rw [if_pos hk, if_pos hk]
    have hk2 : kk = -1 ∨ ∃ j, j < 2147483648 ∧ kk = nI j := by
      by_cases h1 : kk = -1
      · exact Or.inl h1
      · exact Or.inr (nn_of hk h1)
    have hx := xP_of (sg := M.1 1 5) f1 f2 f3 f4 (16 * i + 4 * j + k)
    rw [← sLf_E hv, window_eq hx (sWeeks_lt f4) f3 f4 kk _ hk2, window_eq hx (sWeeks_lt f4) f3 f4 kk _ hk2]
  · rw [if_neg hk, if_neg hk]
theorem pr_longest (hr : rel E M b b') (x : Int32) : gMet l E mX6_longest 3 [.ref (gAd E 1), .int x] M (pEnd l E mX7_longest 4 [.ref (gAd E 60), .int x]) := by
  have hv := rel_v hr
  obtain ⟨f1, f2, f3, f4⟩ := rel_ft hr
  refine pr_obs2 (kX6_longest l E M b b' hr.1 hr.2.2.1 hr.2.2.2.2.1 x) (kX7_longest l E M hr.2.1 (rel_mO hr) (rel_sg hr) x) (fun u hu => rel_Wn hr hu) ?_
  obtain ⟨-, -, -, -, -, ⟨t1, t2, t3, t4, -⟩, ⟨n1, -⟩, -⟩ := hr
  rw [t1, t3, t4, n1]
  rw [← lgM_E hv, longest_eq (fun z => sWeeks (cV M b) (M.1 b 1) (M.1 1 5) (M.1 b 4) (M.1 b 5) z 4) (fun c => xP_of f1 f2 f3 f4 c) f3 f4]
theorem best_eq {n k fr to : Nat} {V W H K : Nat → Nat → Nat} (hv : vE n V W) (hh : hEq k H K) : sBest W n (goodM W n K k fr to) (2 ^ n) = sBest V n (goodC V n H k fr to) (2 ^ n) :=
  (sBest_E hv (2 ^ n) (fun z hz => by rw [good_CM V n H k fr to z hz, goodM_E hv hh])).symm
theorem pr_best (hr : rel E M b b') (q : Int32) : gMet l E mX6_best 6 [.ref (gAd E 1), .int q] M (pEnd l E mX7_best 6 [.ref (gAd E 60), .int q]) := by
  have hv := rel_v hr
  have hh := rel_h hr
  refine pr_obs2 (b := b) (b' := b') (kX6_best l E M b b' hr.1 hr.2.2.1 hr.2.2.2.2.1 q) (kX7_best l E M hr.2.1 (rel_mO hr) (rel_sg hr) q) (fun u hu => ?_) ?_
  · rcases hu with rfl | ⟨x, rfl⟩
    · exact hr
    · exact rel_U hr (by omega)
  · obtain ⟨-, -, -, -, -, ⟨t1, t2, t3, t4, -⟩, ⟨n1, -⟩, -⟩ := hr
    rw [t1, t2, t3, t4, best_eq hv hh, sPrice_E hv]
end pr
