/-! text, soonest, undo, fault, lay: one to each -/
section pr3
variable {l : Launch} {E : gEnv} {M : gMem} {b b' : Nat}
theorem rel_agT {u : gMem} (h : rel E M b b') (h2 : u.2 = M.2) (e : ∀ a k, ¬ irr b' a k → a ≠ 2 → a ≠ 61 → ¬ (a = 1 ∧ k = 1) → ¬ (a = 60 ∧ k = 1) → u.1 a k = M.1 a k) (hT : rText u) : rel E u b b' := by
  obtain ⟨hS, hR, hO, hn, hsg, ⟨t1, t2, t3, t4, t5, t6⟩, ⟨n1, n2⟩, -, ⟨y1, y2, y3⟩⟩ := h
  have hbb := hS.2.2.2.2.1
  have hch := hS.2.2.2.2.2.1
  have hb : ∀ a, b ≤ a → a < b + 17 → ∀ k, u.1 a k = M.1 a k := fun a h1 h2 k => e a k (by unfold irr; omega) (by omega) (by omega) (by omega) (by omega)
  have hlo : ∀ a, 5 ≤ a → a < 20 → ∀ k, u.1 a k = M.1 a k := fun a h1 h2 k => e a k (by unfold irr; omega) (by omega) (by omega) (by omega) (by omega)
  have h15 : u.1 1 5 = M.1 1 5 := e 1 5 (by unfold irr; omega) (by omega) (by omega) (by omega) (by omega)
  have hhi : ∀ a, 64 ≤ a → a < 68 → ∀ k, u.1 a k = M.1 a k := fun a h1 h2 k => e a k (by unfold irr; omega) (by omega) (by omega) (by omega) (by omega)
  have h60 : ∀ k, (11 ≤ k ∧ k ≤ 14) ∨ k = 17 → u.1 60 k = M.1 60 k := fun k hk => e 60 k (by unfold irr; omega) (by omega) (by omega) (by omega) (by omega)
  have hn10 : M.1 b 1 ≤ 10 := hO.1
  have hk4 : M.1 b 3 ≤ 4 := hO.2.1
  refine ⟨cS_2 hS h2, mR_2 hR h2, cO_ag hO (hb b (by omega) (by omega)) (fun i k hi => hb _ (by omega) (by omega) k) (fun i k hi => hb _ (by omega) (by omega) k), ?_, ?_, ⟨?_, ?_, ?_, ?_, ?_, ?_⟩, ⟨?_, ?_⟩, hT, ⟨?_, ?_, ?_⟩⟩
  · rw [hb b (by omega) (by omega)]; exact hn
  · rw [h15]; exact hsg
  · rw [h60 _ (by omega), hb b (by omega) (by omega)]; exact t1
  · rw [h60 _ (by omega), hb b (by omega) (by omega)]; exact t2
  · rw [h60 _ (by omega), hb b (by omega) (by omega)]; exact t3
  · rw [h60 _ (by omega), hb b (by omega) (by omega)]; exact t4
  · intro i w hi hw
    rw [hb b (by omega) (by omega)] at hi
    rw [hhi 64 (by omega) (by omega), hb _ (by omega) (by omega)]; exact t5 i w hi hw
  · intro i w hi hw
    rw [hb b (by omega) (by omega)] at hi
    rw [hhi 65 (by omega) (by omega), hb _ (by omega) (by omega)]; exact t6 i w hi hw
  · rw [hhi 66 (by omega) (by omega), h15]; exact n1
  · intro i hi
    rw [hb b (by omega) (by omega)] at hi
    rw [hhi 66 (by omega) (by omega), hb _ (by omega) (by omega)]; exact n2 i hi
  · rw [h60 _ (by omega), hlo 5 (by omega) (by omega)]; exact y1
  · rw [hlo 5 (by omega) (by omega)]; exact y2
  · intro c hc
    rw [hlo 5 (by omega) (by omega)] at hc
    have hce := hch c (by omega)
    have eh : ∀ w, hE u c w = hE M c w := fun w => by
      show u.1 (u.2 6 c) w = M.1 (M.2 6 c) w
      rw [h2]; exact hlo _ (by omega) (by omega) w
    obtain ⟨z1, z2, z3, z4, z5⟩ := y3 c hc
    have e67 := hhi 67 (by omega) (by omega)
    have e66 := hhi 66 (by omega) (by omega)
    unfold rHc
    simp only [eh, e67, e66, hb b (by omega) (by omega), hlo 5 (by omega) (by omega)]
    refine ⟨z1, z2, z3, z4, fun j hj => ?_⟩
    rw [hb (b + 3 + j) (by omega) (by omega)]
    exact z5 j hj
theorem pr_write (hr : rel E M b b') (x : Int32) : gMet l E mX6_write 0 [.ref (gAd E 1), .int x] M (pEnd l E mX7_write 1 [.ref (gAd E 60), .int x]) := by
  have hr' := hr
  obtain ⟨hS, hR, hO, hn, hsg, -, -, ⟨x1, x2, x3, x4, x5⟩, -⟩ := hr'
  have hbb := hS.2.2.2.2.1
  cases hx : inG x 32 126 with
  | false => exact pr_obs hr (kX6_write_bad l E M b b' hS hO hsg x hx) (kX7_write_bad l E M hR x hx) rfl
  | true =>
    obtain ⟨c, h1, h2, rfl⟩ := inG_of hx
    rcases Nat.lt_or_ge (M.1 1 1) 200 with hL | hL
    · refine gMet_mono (kX6_write_ok l E M b b' hS hO hsg c h1 h2 hL) (fun v u q => ?_)
      obtain ⟨hv1, hu⟩ := q
      have hu2 : u.2 = M.2 := by rw [hu]; rfl
      have e60 : u.1 60 1 = M.1 1 1 := by rw [hu, gU_o (by omega), gU_o (by omega)]; exact x1
      refine ⟨_, hv1, ?_⟩
      refine gMet_mono (kX7_write_ok l E u (mR_2 hR hu2) c h1 h2 (by rw [e60]; exact hL)) (fun v' w q' => ?_)
      rw [e60] at q'
      obtain ⟨q1, q2⟩ := q'
      refine ⟨q1, b, b', ?_⟩
      have ew : ∀ a k, w.1 a k = if a = 60 ∧ k = 1 then M.1 1 1 + 1 else if a = 61 ∧ k = M.1 1 1 then c else if a = 1 ∧ k = 1 then M.1 1 1 + 1 else if a = 2 ∧ k = M.1 1 1 then c else M.1 a k := fun a k => by rw [q2, hu]; rfl
      refine rel_agT hr (by rw [q2, hu]; rfl) (fun a k _ a2 a61 a1 a60 => ?_) ⟨?_, ?_, ?_, ?_, ?_⟩
      · rw [ew, if_neg a60, if_neg (fun z => a61 z.1), if_neg a1, if_neg (fun z => a2 z.1)]
      · rw [ew, ew]; simp
      · rw [ew]; simp; omega
      · intro p hp
        have hp : p < M.1 1 1 + 1 := by rw [ew] at hp; simpa using hp
        rw [ew, ew]
        by_cases hpL : p = M.1 1 1
        · subst hpL; simp; exact h2
        · simp [hpL]; exact x3 p (by omega)
      · intro i; rw [ew]; simp; exact x4 i
      · intro i; rw [ew]; simp; exact x5 i
    · have hL : M.1 1 1 = 200 := by omega
      exact pr_obs hr (kX6_write_full l E M b b' hS hO hsg c h1 h2 hL) (kX7_write_full l E M hR c h1 h2 (by rw [x1]; exact hL)) rfl
theorem pr_wipe (hr : rel E M b b') : gMet l E mX6_wipe 0 [.ref (gAd E 1)] M (pEnd l E mX7_wipe 0 [.ref (gAd E 60)]) := by
  have hr' := hr
  obtain ⟨hS, hR, hO, hn, hsg, -, -, ⟨x1, x2, x3, x4, x5⟩, -⟩ := hr'
  refine gMet_mono (kX6_wipe l E M b b' hS hO hsg) (fun v u q => ?_)
  obtain ⟨hv1, hu⟩ := q
  have hu2 : u.2 = M.2 := by rw [hu]; rfl
  have e60 : u.1 60 1 = M.1 1 1 := by rw [hu, gU_o (by omega)]; exact x1
  refine ⟨_, hv1, ?_⟩
  refine gMet_mono (kX7_wipe l E u (mR_2 hR hu2)) (fun v' w q' => ?_)
  rw [e60] at q'
  obtain ⟨q1, q2⟩ := q'
  refine ⟨q1, b, b', ?_⟩
  have ew : ∀ a k, w.1 a k = if a = 60 ∧ k = 1 then 0 else if a = 1 ∧ k = 1 then 0 else M.1 a k := fun a k => by rw [q2, hu]; rfl
  refine rel_agT hr (by rw [q2, hu]; rfl) (fun a k _ a2 a61 a1 a60 => ?_) ⟨?_, ?_, ?_, ?_, ?_⟩
  · rw [ew, if_neg a60, if_neg a1]
  · rw [ew, ew]; simp
  · rw [ew]; simp
  · intro p hp
    have hp : p < 0 := by rw [ew] at hp; simpa using hp
    omega
  · intro i; rw [ew]; simp; exact x4 i
  · intro i; rw [ew]; simp; exact x5 i
theorem mv_E (hr : rel E M b b') {j z : Nat} (hj : j < 10) : vE (M.1 b 1) (cV (gU M (b + 3 + j) 7 z) b) (mV (gU M 66 j z)) := by
  have hv := rel_v hr
  have hbb := hr.1.2.2.2.2.1
  have hn10 : M.1 b 1 ≤ 10 := hr.2.2.1.1
  obtain ⟨-, -, -, -, -, ⟨-, -, -, -, t5, -⟩, ⟨n1, n2⟩, -⟩ := hr
  intro i hi
  by_cases hij : i = j
  · subst hij
    intro w hw
    have e := fun w hw => t5 i w hi hw
    have e0 : M.1 64 (7 * i) = M.1 (b + 3 + i) 0 := t5 i 0 hi (by decide)
    rcases (show w = 0 ∨ w = 1 ∨ w = 2 ∨ w = 3 ∨ w = 4 ∨ w = 5 ∨ w = 6 by omega) with rfl | rfl | rfl | rfl | rfl | rfl | rfl <;> simp only [cV, oV, mV, gU] <;> simp [e, e0]
  · have e1 : cV (gU M (b + 3 + j) 7 z) b i = cV M b i := by
      funext w
      have q : ∀ k, (gU M (b + 3 + j) 7 z).1 (b + 3 + i) k = M.1 (b + 3 + i) k := fun k => gU_o (by omega)
      simp only [cV, oV, q]
    have e2 : mV (gU M 66 j z) i = mV M i := by
      funext w
      have q : (gU M 66 j z).1 66 i = M.1 66 i := gU_k hij
      simp only [mV, q]
      rfl
    rw [e1, e2]
    exact hv i hi
theorem pr_soonest (hr : rel E M b b') (x : Int32) : gMet l E mX6_soonest 5 [.ref (gAd E 1), .int x] M (pEnd l E mX7_soonest 5 [.ref (gAd E 60), .int x]) := by
  have hh := rel_h hr
  have hr' := hr
  obtain ⟨hS, hR, hO, hn, hsg, ⟨t1, t2, t3, t4, t5, -⟩, ⟨n1, n2⟩, -, ⟨y1, y2, -⟩⟩ := hr'
  have hbb := hS.2.2.2.2.1
  have hn10 : M.1 b 1 ≤ 10 := hO.1
  cases hx : inR x (M.1 b 1) with
  | false => exact pr_obs hr (kX6_soonest_bad l E M b b' hS hO hsg x hx) (kX7_soonest_bad l E M hR (rel_mO hr) (rel_sg hr) x (by rw [t1]; exact hx)) rfl
  | true =>
    obtain ⟨j, hj, rfl⟩ := inR_of hx
    cases hb : (M.1 1 5).testBit j with
    | true => exact pr_obs hr (kX6_soonest_no l E M b b' hS hO hsg j hj hb) (kX7_soonest_no l E M hR (rel_mO hr) (rel_sg hr) j (by rw [t1]; exact hj) (by rw [n1]; exact hb)) rfl
    | false =>
      refine pr_obs hr (kX6_soonest_ok l E M b b' hS hO hsg j hj hb) (kX7_soonest_ok l E M hR (rel_mO hr) (rel_sg hr) j (by rw [t1]; exact hj) (by rw [n1]; exact hb)) ?_
      rw [n2 j hj, t5 j 4 hj (by decide)]
      refine congrArg oN (sFr_E _ _ (fun z _ _ => ?_))
      have g : ∀ k, (gU M 66 j z).1 60 k = M.1 60 k := fun k => gU_o (by decide)
      have g6 : (gU M 66 j z).1 66 10 = M.1 66 10 := gU_k (by omega)
      have c : ∀ k, (gU M (b + 3 + j) 7 z).1 b k = M.1 b k := fun k => gU_o (by omega)
      have c1 : (gU M (b + 3 + j) 7 z).1 1 5 = M.1 1 5 := gU_o (by omega)
      have ch : hEq (M.1 b 3) (cH (gU M (b + 3 + j) 7 z) b) (mH (gU M 66 j z)) := by
        intro h hh2 w hw
        have e1 : cH (gU M (b + 3 + j) 7 z) b h w = cH M b h w := by
          show (gU M (b + 3 + j) 7 z).1 (b + 13 + h) w = M.1 (b + 13 + h) w
          exact gU_o (by omega)
        rw [e1]
        exact hh h hh2 w hw
      rw [g, g, g, g, g6, c, c, c, c, c1, t1, t2, t3, t4, n1, sWhy_E (mv_E hr (by omega)) ch hj]
theorem pr_undo (hr : rel E M b b') : gMet l E mX6_undo 1 [.ref (gAd E 1)] M (pEnd l E mX7_undo 0 [.ref (gAd E 60)]) := by
  have hr' := hr
  obtain ⟨hS, hR, hO, hn, hsg, ⟨t1, t2, t3, t4, t5, t6⟩, ⟨n1, n2⟩, ⟨x1, x2, x3, x4, x5⟩, ⟨y1, y2, y3⟩⟩ := hr'
  have hbb := hS.2.2.2.2.1
  have hch := hS.2.2.2.2.2.1
  have hn10 : M.1 b 1 ≤ 10 := hO.1
  have hk4 : M.1 b 3 ≤ 4 := hO.2.1
  rcases Nat.eq_zero_or_pos (M.1 5 1) with hz | hz
  · exact pr_obs hr (kX6_undo_no l E M b b' hS hO hsg hz) (kX7_undo_no l E M hR (by rw [y1]; exact hz)) rfl
  · obtain ⟨z1, z2, z3, z4, z5⟩ := y3 (M.1 5 1 - 1) (by omega)
    refine gMet_mono (kX6_undo_ok l E M b b' hS hO hsg y2 hz z1 z2) (fun v u q => ?_)
    obtain ⟨hv1, hu⟩ := q
    change u = gU (gU (gU M 5 1 (M.1 5 1 - 1)) 1 5 (hE M (M.1 5 1 - 1) 0)) (b + 3 + hE M (M.1 5 1 - 1) 1) 7 (hE M (M.1 5 1 - 1) 2) at hu
    generalize hsg0 : hE M (M.1 5 1 - 1) 0 = sg at *
    generalize hi0 : hE M (M.1 5 1 - 1) 1 = i0 at *
    generalize hmv : hE M (M.1 5 1 - 1) 2 = mv at *
    have hu2 : u.2 = M.2 := by rw [hu]; rfl
    have eu : ∀ a k, 60 ≤ a → u.1 a k = M.1 a k := fun a k ha => by rw [hu, gU_o (by omega), gU_o (by omega), gU_o (by omega)]
    refine ⟨_, hv1, ?_⟩
    refine gMet_mono (kX7_undo_ok l E u (mR_2 hR hu2) (by rw [eu 60 17 (by omega), y1]; exact y2) (by rw [eu 60 17 (by omega), y1]; exact hz)) (fun v' w q' => ?_)
    rw [eu 60 17 (by omega), y1] at q'
    obtain ⟨q1, q2⟩ := q'
    refine ⟨q1, b, b', ?_⟩
    have w2 : w.2 = M.2 := by rw [q2, hu]; rfl
    have w66 : ∀ j, j < 11 → w.1 66 j = M.1 67 (11 * (M.1 5 1 - 1) + j) := fun j hj => by
      rw [q2, gRow_at]
      show (if j < 11 then u.1 67 (11 * (M.1 5 1 - 1) + j) else u.1 66 j) = _
      rw [if_pos hj, eu 67 _ (by omega)]
    have wo : ∀ a k, a ≠ 66 → ¬ (a = 60 ∧ k = 17) → ¬ (a = 5 ∧ k = 1) → ¬ (a = 1 ∧ k = 5) → ¬ (a = b + 3 + i0 ∧ k = 7) → w.1 a k = M.1 a k := fun a k h1 h2 h3 h4 h5 => by
      rw [q2, gRow_o h1, hu]
      simp only [gU]
      rw [if_neg h2, if_neg h5, if_neg h4, if_neg h3]
    have w17 : w.1 60 17 = M.1 5 1 - 1 := by rw [q2, gRow_o (by omega)]; exact gU_s
    have w51 : w.1 5 1 = M.1 5 1 - 1 := by rw [q2, gRow_o (by omega), gU_o (by omega), hu, gU_o (by omega), gU_o (by omega)]; exact gU_s
    have w15 : w.1 1 5 = sg := by rw [q2, gRow_o (by omega), gU_o (by omega), hu, gU_o (by omega)]; exact gU_s
    have wi7 : w.1 (b + 3 + i0) 7 = mv := by rw [q2, gRow_o (by omega), gU_o (by omega), hu]; exact gU_s
    have eb : ∀ k, w.1 b k = M.1 b k := fun k => wo b k (by omega) (by omega) (by omega) (by omega) (by omega)
    have ew : ∀ i k, i < 10 → k ≠ 7 → w.1 (b + 3 + i) k = M.1 (b + 3 + i) k := fun i k hi hk => wo _ k (by omega) (by omega) (by omega) (by omega) (by omega)
    have e7 : ∀ i, i < M.1 b 1 → w.1 (b + 3 + i) 7 = M.1 67 (11 * (M.1 5 1 - 1) + i) := fun i hi => by
      by_cases hii : i = i0
      · subst hii; rw [wi7, ← z4]
      · rw [wo _ 7 (by omega) (by omega) (by omega) (by omega) (by omega), (z5 i hi).2 hii, if_pos (by omega), n2 i hi]
    have eh : ∀ i k, i < 4 → w.1 (b + 13 + i) k = M.1 (b + 13 + i) k := fun i k hi => wo _ k (by omega) (by omega) (by omega) (by omega) (by omega)
    have e60 : ∀ k, k ≠ 17 → w.1 60 k = M.1 60 k := fun k hk => wo 60 k (by omega) (by omega) (by omega) (by omega) (by omega)
    have e67 : ∀ k, w.1 67 k = M.1 67 k := fun k => wo 67 k (by omega) (by omega) (by omega) (by omega) (by omega)
    have e11 : w.1 1 1 = M.1 1 1 := wo 1 1 (by omega) (by omega) (by omega) (by omega) (by omega)
    refine ⟨cS_2 hS w2, mR_2 hR w2, ?_, ?_, ?_, ⟨?_, ?_, ?_, ?_, ?_, ?_⟩, ⟨?_, ?_⟩, ⟨?_, ?_, ?_, ?_, ?_⟩, ⟨?_, ?_, ?_⟩⟩
    · obtain ⟨v1, v2, v3, v4, v5, v6⟩ := hO
      unfold cO
      rw [eb, eb, eb, eb]
      refine ⟨v1, v2, v3, v4, fun i hi => ?_, fun h hh => ?_⟩
      · obtain ⟨a0, a1, a2, a3, a4, a5, a6, a7⟩ := v5 i hi
        have o1 := (z5 i hi).1
        simp only [cV, oV] at a0 a1 a2 a3 a4 a5 a6 a7
        refine ⟨?_, ?_, ?_, ?_, ?_, ?_, ?_, ?_⟩ <;> simp only [cV, oV] <;> (try rw [e7 i hi]) <;> (repeat rw [ew _ _ (by omega) (by decide)]) <;> omega
      · show w.1 (b + 13 + h) 0 < 4 ∧ w.1 (b + 13 + h) 1 < 4 ∧ 1 ≤ w.1 (b + 13 + h) 2 ∧ w.1 (b + 13 + h) 2 ≤ 51
        rw [eh h 0 (by omega), eh h 1 (by omega), eh h 2 (by omega)]
        exact v6 h hh
    · rw [eb]; exact hn
    · rw [w15]; exact z1
    · rw [eb, e60 _ (by omega)]; exact t1
    · rw [eb, e60 _ (by omega)]; exact t2
    · rw [eb, e60 _ (by omega)]; exact t3
    · rw [eb, e60 _ (by omega)]; exact t4
    · intro i k hi hk
      rw [eb] at hi
      rw [ew i k (by omega) (by omega), wo 64 _ (by omega) (by omega) (by omega) (by omega) (by omega)]; exact t5 i k hi hk
    · intro i k hi hk
      rw [eb] at hi
      rw [eh i k (by omega), wo 65 _ (by omega) (by omega) (by omega) (by omega) (by omega)]; exact t6 i k hi hk
    · rw [w66 10 (by omega), w15]; exact z3
    · intro i hi
      rw [eb] at hi
      rw [w66 i (by omega), e7 i hi]
    · rw [e60 _ (by omega), e11]; exact x1
    · rw [e11]; exact x2
    · intro p hp
      rw [e11] at hp
      rw [wo 61 _ (by omega) (by omega) (by omega) (by omega) (by omega), wo 2 _ (by omega) (by omega) (by omega) (by omega) (by omega)]; exact x3 p hp
    · intro i; rw [wo 4 _ (by omega) (by omega) (by omega) (by omega) (by omega)]; exact x4 i
    · intro i; rw [wo 68 _ (by omega) (by omega) (by omega) (by omega) (by omega)]; exact x5 i
    · rw [w17, w51]
    · rw [w51]; omega
    · intro c hc
      rw [w51] at hc
      have hce := hch c (by omega)
      have ee : ∀ k, hE w c k = hE M c k := fun k => by
        show w.1 (w.2 6 c) k = M.1 (M.2 6 c) k
        rw [w2]; exact wo _ k (by omega) (by omega) (by omega) (by omega) (by omega)
      obtain ⟨r1, r2, r3, r4, r5⟩ := y3 c (by omega)
      unfold rHc
      simp only [ee, e67, eb, w51]
      refine ⟨r1, r2, r3, r4, fun j hj => ⟨?_, fun hne => ?_⟩⟩
      · rw [ew j 4 (by omega) (by omega)]; exact (r5 j hj).1
      · rw [(r5 j hj).2 hne, if_neg (show ¬ c + 1 = M.1 5 1 by omega)]
        by_cases hc2 : c + 1 = M.1 5 1 - 1
        · rw [if_pos hc2, w66 j (by omega), hc2]
        · rw [if_neg hc2]
end pr3
