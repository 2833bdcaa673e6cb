/-! the calls that change: the same answer, and rel again -/
theorem mNt_lt {u : gMem} (h : u.1 60 17 < 6) : (mNt u).1 60 17 = u.1 60 17 + 1 ∧ ∀ i, (mNt u).1 67 i = if 11 * u.1 60 17 ≤ i ∧ i < 11 * u.1 60 17 + 11 then u.1 66 (i - 11 * u.1 60 17) else u.1 67 i := by
  unfold mNt
  rw [if_neg (by omega)]
  refine ⟨gU_s, fun i => ?_⟩
  rw [gU_o (by decide), gRow_at]
  rfl
theorem mNt_6 {u : gMem} (h : u.1 60 17 = 6) : (mNt u).1 60 17 = 6 ∧ ∀ i, (mNt u).1 67 i = if 55 ≤ i ∧ i < 66 then u.1 66 (i - 55) else if i < 55 then u.1 67 (i + 11) else u.1 67 i := by
  unfold mNt
  rw [if_pos h]
  refine ⟨gU_s, fun i => ?_⟩
  rw [gU_o (by decide), gRow_at]
  rfl
theorem sBest_lt {V : Nat → Nat → Nat} {n : Nat} {good : Nat → Bool} : ∀ s, 0 < s → sBest V n good s < s := by
  intro s
  induction s with
  | zero => intro h; omega
  | succ s ih =>
    intro _
    have := sBest_le (V := V) (n := n) (good := good) s
    unfold sBest
    split <;> omega
section pr2
variable {l : Launch} {E : gEnv} {M : gMem} {b b' : Nat}
theorem rel_push2 {u0 u w : gMem} {j s' d : Nat} (h : rel E M b b') (hj : j < M.1 b 1) (hA : hAdd M u0 (M.1 1 5) j (M.1 (b + 3 + j) 7)) (hs : s' < 1024) (hd : M.1 (b + 3 + j) 4 + d ≤ 51)
    (c1 : ∀ a k, ¬ (a = 1 ∧ k = 5) → ¬ (a = b + 3 + j ∧ k = 7) → ¬ (a = 60 ∧ k = 21) → u.1 a k = u0.1 a k) (c2 : u.2 = u0.2) (c3 : u.1 1 5 = s') (c4 : u.1 (b + 3 + j) 7 = d)
    (d1 : ∀ a k, ¬ (a = 66 ∧ (k = 10 ∨ k = j)) → w.1 a k = (mNt u).1 a k) (d2 : w.2 = u.2) (d3 : w.1 66 10 = s') (d4 : w.1 66 j = d) : rel E w b b' := by
  have hbb := h.1.2.2.2.2.1
  have hn10 : M.1 b 1 ≤ 10 := h.2.2.1.1
  have y1 : M.1 60 17 = M.1 5 1 := h.2.2.2.2.2.2.2.2.1
  have y2 : M.1 5 1 ≤ 6 := h.2.2.2.2.2.2.2.2.2.1
  have q1 := hA.1
  have hi : ∀ a k, 60 ≤ a → ¬ (a = 60 ∧ k = 21) → u.1 a k = M.1 a k := fun a k ha hk => by rw [c1 a k (by omega) (by omega) hk, q1 a k (by omega) (by omega)]
  have e66 : ∀ k, u.1 66 k = M.1 66 k := fun k => hi 66 k (by omega) (by omega)
  have e67 : ∀ k, u.1 67 k = M.1 67 k := fun k => hi 67 k (by omega) (by omega)
  refine rel_push h hj hA hs hd (fun a k h5 h10 h67 h60 h15 hb7 h66 => ?_) ⟨?_, d3, ?_, d4⟩ ⟨by rw [d2, c2], fun a k h1 h2 => ?_, ?_⟩ (fun hz => ?_) (fun hz => ?_)
  · rw [d1 a k h66, mNt_o h67 (by omega), c1 a k h15 hb7 (by omega), q1 a k h5 (by omega)]
  · rw [d1 1 5 (by omega), mNt_o (by omega) (by omega)]; exact c3
  · rw [d1 _ 7 (by omega), mNt_o (by omega) (by omega)]; exact c4
  · rw [d1 a k (by omega), mNt_o (by omega) (by omega), c1 a k (by omega) (by omega) (by omega)]
  · rw [d1 5 1 (by omega), mNt_o (by omega) (by omega), c1 5 1 (by omega) (by omega) (by omega)]
  · have hu : u.1 60 17 = M.1 5 1 := by rw [hi 60 17 (by omega) (by omega), y1]
    obtain ⟨m1, m2⟩ := mNt_lt (u := u) (by omega)
    rw [d1 60 17 (by omega), m1, hu]
    refine ⟨rfl, fun i => ?_⟩
    rw [d1 67 i (by omega), m2 i, hu]
    simp only [e66, e67]
  · have hu : u.1 60 17 = M.1 5 1 := by rw [hi 60 17 (by omega) (by omega), y1]
    obtain ⟨m1, m2⟩ := mNt_6 (u := u) (by omega)
    rw [d1 60 17 (by omega), m1]
    refine ⟨rfl, fun i => ?_⟩
    rw [d1 67 i (by omega), m2 i]
    simp only [e66, e67]
theorem mV_ag {u : gMem} (h : ∀ a k, 60 < a → u.1 a k = M.1 a k) : mV u = mV M ∧ mH u = mH M := by
  refine ⟨?_, ?_⟩
  · funext i w
    simp only [mV, h 64 _ (by omega), h 66 _ (by omega)]
  · funext i w
    simp only [mH, h 65 _ (by omega)]
theorem mO_ag {u : gMem} (hO : mO M) (h : ∀ a k, 60 < a → u.1 a k = M.1 a k) (h2 : ∀ k, 11 ≤ k → k ≤ 14 → u.1 60 k = M.1 60 k) : mO u := by
  unfold mO
  rw [(mV_ag h).1, (mV_ag h).2, h2 11 (by omega) (by omega), h2 12 (by omega) (by omega), h2 13 (by omega) (by omega), h2 14 (by omega) (by omega)]
  exact hO
theorem mR_ag {u : gMem} (hR : mR E M) (h : ∀ k, u.2 60 k = M.2 60 k) : mR E u := by
  unfold mR at hR ⊢
  simp only [h]
  exact hR
theorem rel_or {sg j : Nat} (h : sg < 1024) (hj : j < 10) : sg ||| 2 ^ j < 1024 := Nat.or_lt_two_pow (n := 10) h (Nat.pow_lt_pow_right (by decide) hj)
/-- what both need of a change noted by the first -/
theorem rel_note {u0 u : gMem} {j mv s : Nat} (hr : rel E M b b') (hA : hAdd M u0 s j mv) (h1 : ∀ a k, 60 ≤ a → u.1 a k = u0.1 a k) (h2 : u.2 = u0.2) : mR E u ∧ mO u ∧ (∀ a k, 60 ≤ a → u.1 a k = M.1 a k) ∧ mV u = mV M ∧ mH u = mH M := by
  have e : ∀ a k, 60 ≤ a → u.1 a k = M.1 a k := fun a k ha => by rw [h1 a k ha, hA.1 a k (by omega) (by omega)]
  refine ⟨mR_ag hr.2.1 (fun k => by rw [h2, hA.2.1 60 k (by decide)]), mO_ag (rel_mO hr) (fun a k ha => e a k (by omega)) (fun k _ _ => e 60 k (by omega)), e, mV_ag (fun a k ha => e a k (by omega))⟩
theorem pr_sign (hr : rel E M b b') (x : Int32) : gMet l E mX6_sign 5 [.ref (gAd E 1), .int x] M (pEnd l E mX7_sign 5 [.ref (gAd E 60), .int x]) := by
  have hv := rel_v hr
  have hh := rel_h hr
  have hr' := hr
  obtain ⟨hS, hR, hO, hn, hsg, ⟨t1, t2, t3, t4, -⟩, ⟨n1, n2⟩, -, ⟨y1, y2, -⟩⟩ := hr'
  have hbb := hS.2.2.2.2.1
  have hn10 : M.1 b 1 ≤ 10 := hO.1
  cases hx : inR x (M.1 b 1) with
  | false => exact pr_obs hr (kX6_sign_bad l E M b b' hS hO hsg x hx) (kX7_sign_bad l E M hR (rel_mO hr) (rel_sg hr) x (by rw [t1]; exact hx)) rfl
  | true =>
    obtain ⟨j, hj, rfl⟩ := inR_of hx
    have ew : sWhy (mV M) (M.1 60 11) (mH M) (M.1 60 12) (M.1 60 13) (M.1 60 14) (M.1 66 10) j = sWhy (cV M b) (M.1 b 1) (cH M b) (M.1 b 3) (M.1 b 4) (M.1 b 5) (M.1 1 5) j := by
      rw [t1, t2, t3, t4, n1, sWhy_E hv hh hj]
    by_cases hw : sWhy (cV M b) (M.1 b 1) (cH M b) (M.1 b 3) (M.1 b 4) (M.1 b 5) (M.1 1 5) j = 0
    · refine gMet_mono (kX6_sign_ok l E M b b' hS hO hsg y2 j hj hw) (fun v u q => ?_)
      obtain ⟨hv1, u0, hA, hu⟩ := q
      have e0 : ∀ a k, 60 ≤ a → u.1 a k = u0.1 a k := fun a k ha => by rw [hu]; exact gU_o (by omega)
      have hu2 : u.2 = u0.2 := by rw [hu]; rfl
      obtain ⟨k1, k2, k3, k4, k5⟩ := rel_note hr hA e0 hu2
      refine ⟨_, hv1, ?_⟩
      refine gMet_mono (kX7_sign_ok l E u k1 k2 (by rw [k3 66 10 (by omega), n1]; exact hsg) (by rw [k3 60 17 (by omega), y1]; exact y2) j (by rw [k3 60 11 (by omega), t1]; exact hj) (by rw [k4, k5, k3 60 11 (by omega), k3 60 12 (by omega), k3 60 13 (by omega), k3 60 14 (by omega), k3 66 10 (by omega), ew]; exact hw)) (fun v' w q' => ?_)
      rw [k3 66 10 (by omega), n1] at q'
      refine ⟨q'.1, b, b', ?_⟩
      refine rel_push2 (u := u) (s' := M.1 1 5 ||| 2 ^ j) (d := M.1 (b + 3 + j) 7) hr hj hA (rel_or hsg (by omega)) ?_ ?_ hu2 ?_ ?_ ?_ ?_ ?_ ?_
      · exact (hO.2.2.2.2.1 j hj).2.2.2.2.1
      · intro a k h1 _ _
        rw [hu]; simp only [gU]; rw [if_neg h1]
      · rw [hu]; exact gU_s
      · rw [hu, gU_o (by omega), hA.1 _ _ (by omega) (by omega)]
      · intro a k h1
        rw [q'.2]; simp only [gU]; rw [if_neg (by omega)]
      · rw [q'.2]; exact mNt_2
      · rw [q'.2]; exact gU_s
      · rw [q'.2, gU_k (by omega), mNt_o (by omega) (by omega), k3 66 j (by omega)]; exact n2 j hj
    · exact pr_obs hr (kX6_sign_no l E M b b' hS hO hsg j hj hw) (kX7_sign_no l E M hR (rel_mO hr) (rel_sg hr) j (by rw [t1]; exact hj) (by rw [ew]; exact hw)) rfl
theorem pr_drop (hr : rel E M b b') (x : Int32) : gMet l E mX6_drop 5 [.ref (gAd E 1), .int x] M (pEnd l E mX7_drop 5 [.ref (gAd E 60), .int x]) := by
  have hr' := hr
  obtain ⟨hS, hR, hO, hn, hsg, ⟨t1, t2, t3, t4, -⟩, ⟨n1, n2⟩, -, ⟨y1, y2, -⟩⟩ := hr'
  have hbb := hS.2.2.2.2.1
  have hn10 : M.1 b 1 ≤ 10 := hO.1
  cases hx : inR x (M.1 b 1) with
  | false => exact pr_obs hr (kX6_drop_bad l E M b b' hS hO hsg x hx) (kX7_drop_bad l E M hR (rel_mO hr) (rel_sg hr) x (by rw [t1]; exact hx)) rfl
  | true =>
    obtain ⟨j, hj, rfl⟩ := inR_of hx
    cases hb : (M.1 1 5).testBit j with
    | true =>
      refine gMet_mono (kX6_drop_ok l E M b b' hS hO hsg y2 j hj hb) (fun v u q => ?_)
      obtain ⟨hv1, u0, hA, hu⟩ := q
      have e0 : ∀ a k, 60 ≤ a → u.1 a k = u0.1 a k := fun a k ha => by rw [hu]; exact gU_o (by omega)
      have hu2 : u.2 = u0.2 := by rw [hu]; rfl
      obtain ⟨k1, k2, k3, k4, k5⟩ := rel_note hr hA e0 hu2
      refine ⟨_, hv1, ?_⟩
      refine gMet_mono (kX7_drop_ok l E u k1 k2 (by rw [k3 66 10 (by omega), n1]; exact hsg) (by rw [k3 60 17 (by omega), y1]; exact y2) j (by rw [k3 60 11 (by omega), t1]; exact hj) (by rw [k3 66 10 (by omega), n1]; exact hb)) (fun v' w q' => ?_)
      rw [k3 66 10 (by omega), n1] at q'
      refine ⟨q'.1, b, b', ?_⟩
      refine rel_push2 (u := u) (s' := M.1 1 5 &&& (1023 - 2 ^ j)) (d := M.1 (b + 3 + j) 7) hr hj hA (Nat.lt_of_le_of_lt Nat.and_le_left hsg) ?_ ?_ hu2 ?_ ?_ ?_ ?_ ?_ ?_
      · exact (hO.2.2.2.2.1 j hj).2.2.2.2.1
      · intro a k h1 _ _
        rw [hu]; simp only [gU]; rw [if_neg h1]
      · rw [hu]; exact gU_s
      · rw [hu, gU_o (by omega), hA.1 _ _ (by omega) (by omega)]
      · intro a k h1
        rw [q'.2]; simp only [gU]; rw [if_neg (by omega)]
      · rw [q'.2]; exact mNt_2
      · rw [q'.2]; exact gU_s
      · rw [q'.2, gU_k (by omega), mNt_o (by omega) (by omega), k3 66 j (by omega)]; exact n2 j hj
    | false => exact pr_obs hr (kX6_drop_no l E M b b' hS hO hsg j hj hb) (kX7_drop_no l E M hR (rel_mO hr) (rel_sg hr) j (by rw [t1]; exact hj) (by rw [n1]; exact hb)) rfl
theorem pr_take (hr : rel E M b b') : gMet l E mX6_take 6 [.ref (gAd E 1)] M (pEnd l E mX7_take 6 [.ref (gAd E 60)]) := by
  have hv := rel_v hr
  have hh := rel_h hr
  have hr' := hr
  obtain ⟨hS, hR, hO, hn, hsg, ⟨t1, t2, t3, t4, -⟩, ⟨n1, n2⟩, -, ⟨y1, y2, -⟩⟩ := hr'
  have hbb := hS.2.2.2.2.1
  have hn10 : M.1 b 1 ≤ 10 := hO.1
  have hbest := sBest_le (V := cV M b) (n := M.1 b 1) (good := goodC (cV M b) (M.1 b 1) (cH M b) (M.1 b 3) (M.1 b 4) (M.1 b 5)) (2 ^ M.1 b 1)
  have hpos := sBest_lt (V := cV M b) (n := M.1 b 1) (good := goodC (cV M b) (M.1 b 1) (cH M b) (M.1 b 3) (M.1 b 4) (M.1 b 5)) (2 ^ M.1 b 1) (Nat.two_pow_pos _)
  have h1024 : 2 ^ M.1 b 1 ≤ 2 ^ 10 := Nat.pow_le_pow_right (by decide) hn10
  refine gMet_mono (kX6_take l E M b b' hS hO hsg y2 hn (by omega)) (fun v u q => ?_)
  obtain ⟨hv1, u0, hA, hu⟩ := q
  have e0 : ∀ a k, 60 ≤ a → u.1 a k = u0.1 a k := fun a k ha => by rw [hu]; exact gU_o (by omega)
  have hu2 : u.2 = u0.2 := by rw [hu]; rfl
  obtain ⟨k1, k2, k3, k4, k5⟩ := rel_note hr hA e0 hu2
  refine ⟨_, hv1, ?_⟩
  refine gMet_mono (kX7_take l E u k1 k2 (by rw [k3 66 10 (by omega), n1]; exact hsg) (by rw [k3 60 17 (by omega), y1]; exact y2)) (fun v' w q' => ?_)
  rw [k4, k5, k3 60 11 (by omega), k3 60 12 (by omega), k3 60 13 (by omega), k3 60 14 (by omega), t1, t2, t3, t4, best_eq hv hh] at q'
  refine ⟨q'.1, b, b', ?_⟩
  generalize sBest (cV M b) (M.1 b 1) (goodC (cV M b) (M.1 b 1) (cH M b) (M.1 b 3) (M.1 b 4) (M.1 b 5)) (2 ^ M.1 b 1) = S at *
  generalize sPrice (mV M) (M.1 b 1) S = P at *
  refine rel_push2 (u := gU u 60 21 P) (s' := S) (d := M.1 (b + 3 + 0) 7) hr hn hA (by omega) ?_ ?_ hu2 ?_ ?_ ?_ ?_ ?_ ?_
  · exact (hO.2.2.2.2.1 0 hn).2.2.2.2.1
  · intro a k h1 _ h3
    rw [hu]; simp only [gU]; rw [if_neg h3, if_neg h1]
  · rw [gU_o (by omega), hu]; exact gU_s
  · rw [gU_o (by omega), hu, gU_o (by omega), hA.1 _ _ (by omega) (by omega)]
  · intro a k h1
    rw [q'.2]; simp only [gU]; rw [if_neg (by omega)]
  · rw [q'.2]; exact mNt_2
  · rw [q'.2]; exact gU_s
  · rw [q'.2, gU_k (by omega), mNt_o (by omega) (by omega), gU_o (by omega), k3 66 0 (by omega)]; exact n2 0 hn
theorem pr_move (hr : rel E M b b') (x d : Int32) : gMet l E mX6_move 5 [.ref (gAd E 1), .int x, .int d] M (pEnd l E mX7_move 5 [.ref (gAd E 60), .int x, .int d]) := by
  have hr' := hr
  obtain ⟨hS, hR, hO, hn, hsg, ⟨t1, t2, t3, t4, t5, -⟩, ⟨n1, n2⟩, -, ⟨y1, y2, -⟩⟩ := hr'
  have hbb := hS.2.2.2.2.1
  have hn10 : M.1 b 1 ≤ 10 := hO.1
  cases hx : inR x (M.1 b 1) with
  | false => exact pr_obs hr (kX6_move_bad1 l E M b b' hS hO hsg x d hx) (kX7_move_bad1 l E M hR (rel_mO hr) (rel_sg hr) x d (by rw [t1]; exact hx)) rfl
  | true =>
    obtain ⟨j, hj, rfl⟩ := inR_of hx
    cases hd : inR d 52 with
    | false => exact pr_obs hr (kX6_move_bad2 l E M b b' hS hO hsg j d hj hd) (kX7_move_bad2 l E M hR (rel_mO hr) (rel_sg hr) j d (by rw [t1]; exact hj) hd) rfl
    | true =>
      obtain ⟨z, hz, rfl⟩ := inR_of hd
      have e4 : M.1 64 (7 * j + 4) = M.1 (b + 3 + j) 4 := t5 j 4 hj (by decide)
      have e7 : M.1 66 j = M.1 (b + 3 + j) 7 := n2 j hj
      have hle : M.1 (b + 3 + j) 4 + M.1 (b + 3 + j) 7 ≤ 51 := (hO.2.2.2.2.1 j hj).2.2.2.2.1
      by_cases hno : (M.1 1 5).testBit j = true ∨ z = M.1 (b + 3 + j) 7 ∨ 51 - M.1 (b + 3 + j) 4 < z
      · exact pr_obs hr (kX6_move_no l E M b b' hS hO hsg j z hj (by omega) hno) (kX7_move_no l E M hR (rel_mO hr) (rel_sg hr) j z (by rw [t1]; exact hj) (by omega) (by rw [n1, e7, e4]; exact hno)) rfl
      · have o1 : (M.1 1 5).testBit j = false := Bool.eq_false_iff.mpr (fun h => hno (Or.inl h))
        have o2 : z ≠ M.1 (b + 3 + j) 7 := fun h => hno (Or.inr (Or.inl h))
        have o3 : z ≤ 51 - M.1 (b + 3 + j) 4 := by omega
        refine gMet_mono (kX6_move_ok l E M b b' hS hO hsg y2 j z hj (by omega) o1 o2 o3) (fun v u q => ?_)
        obtain ⟨hv1, u0, hA, hu⟩ := q
        have e0 : ∀ a k, 60 ≤ a → u.1 a k = u0.1 a k := fun a k ha => by rw [hu]; exact gU_o (by omega)
        have hu2 : u.2 = u0.2 := by rw [hu]; rfl
        obtain ⟨k1, k2, k3, k4, k5⟩ := rel_note hr hA e0 hu2
        refine ⟨_, hv1, ?_⟩
        refine gMet_mono (kX7_move_ok l E u k1 k2 (by rw [k3 66 10 (by omega), n1]; exact hsg) (by rw [k3 60 17 (by omega), y1]; exact y2) j z (by rw [k3 60 11 (by omega), t1]; exact hj) (by omega) (by rw [k3 66 10 (by omega), n1]; exact o1) (by rw [k3 66 j (by omega), e7]; exact o2) (by rw [k3 64 _ (by omega), e4]; exact o3)) (fun v' w q' => ?_)
        rw [k3 66 j (by omega), e7] at q'
        refine ⟨q'.1, b, b', ?_⟩
        refine rel_push2 (u := u) (s' := M.1 1 5) (d := z) hr hj hA hsg (by omega) ?_ hu2 ?_ ?_ ?_ ?_ ?_ ?_
        · intro a k _ h2 _
          rw [hu]; simp only [gU]; rw [if_neg h2]
        · rw [hu, gU_o (by omega), hA.1 _ _ (by omega) (by omega)]
        · rw [hu]; exact gU_s
        · intro a k h1
          rw [q'.2]; simp only [gU]; rw [if_neg (by omega)]
        · rw [q'.2]; exact mNt_2
        · rw [q'.2, gU_k (by omega), mNt_o (by omega) (by omega), k3 66 10 (by omega)]; exact n1
        · rw [q'.2]; exact gU_s
end pr2
