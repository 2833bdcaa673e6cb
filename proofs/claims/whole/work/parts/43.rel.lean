/-! what ties the two: rel -/
def rTold (M : gMem) (b : Nat) : Prop := M.1 60 11 = M.1 b 1 ∧ M.1 60 12 = M.1 b 3 ∧ M.1 60 13 = M.1 b 4 ∧ M.1 60 14 = M.1 b 5 ∧ (∀ i w, i < M.1 b 1 → w < 7 → M.1 64 (7 * i + w) = M.1 (b + 3 + i) w) ∧ ∀ h w, h < M.1 b 3 → w < 3 → M.1 65 (3 * h + w) = M.1 (b + 13 + h) w
def rNow (M : gMem) (b : Nat) : Prop := M.1 66 10 = M.1 1 5 ∧ ∀ i, i < M.1 b 1 → M.1 66 i = M.1 (b + 3 + i) 7
def rText (M : gMem) : Prop := M.1 60 1 = M.1 1 1 ∧ M.1 1 1 ≤ 200 ∧ (∀ p, p < M.1 1 1 → M.1 61 p = M.1 2 p ∧ M.1 2 p ≤ 126) ∧ (∀ i, M.1 4 i < 100) ∧ ∀ i, M.1 68 i < 100
def rHc (M : gMem) (b c : Nat) : Prop := hE M c 0 < 1024 ∧ hE M c 1 < M.1 b 1 ∧ M.1 67 (11 * c + 10) = hE M c 0 ∧ M.1 67 (11 * c + hE M c 1) = hE M c 2 ∧ ∀ j, j < M.1 b 1 → M.1 (b + 3 + j) 4 + M.1 67 (11 * c + j) ≤ 51 ∧ (j ≠ hE M c 1 → M.1 67 (11 * c + j) = if c + 1 = M.1 5 1 then M.1 66 j else M.1 67 (11 * (c + 1) + j))
def rHist (M : gMem) (b : Nat) : Prop := M.1 60 17 = M.1 5 1 ∧ M.1 5 1 ≤ 6 ∧ ∀ c, c < M.1 5 1 → rHc M b c
def rel (E : gEnv) (M : gMem) (b b' : Nat) : Prop := cS E M b b' ∧ mR E M ∧ cO M b ∧ 0 < M.1 b 1 ∧ M.1 1 5 < 1024 ∧ rTold M b ∧ rNow M b ∧ rText M ∧ rHist M b
theorem rel_v {E : gEnv} {M : gMem} {b b' : Nat} (h : rel E M b b') : vE (M.1 b 1) (cV M b) (mV M) := by
  obtain ⟨-, -, -, -, -, ⟨-, -, -, -, h5, -⟩, ⟨-, h7⟩, -⟩ := h
  intro i hi w hw
  have e := fun w hw => h5 i w hi hw
  rcases (show w = 0 ∨ w = 1 ∨ w = 2 ∨ w = 3 ∨ w = 4 ∨ w = 5 ∨ w = 6 by omega) with rfl | rfl | rfl | rfl | rfl | rfl | rfl
  · exact (e 0 (by decide)).symm
  · exact (e 1 (by decide)).symm
  · exact (e 2 (by decide)).symm
  · show M.1 (b + 3 + i) 3 + M.1 (b + 3 + i) 7 = M.1 64 (7 * i + 3) + M.1 66 i
    rw [e 3 (by decide), h7 i hi]
  · show M.1 (b + 3 + i) 4 + M.1 (b + 3 + i) 7 = M.1 64 (7 * i + 4) + M.1 66 i
    rw [e 4 (by decide), h7 i hi]
  · exact (e 5 (by decide)).symm
  · exact (e 6 (by decide)).symm
theorem rel_h {E : gEnv} {M : gMem} {b b' : Nat} (h : rel E M b b') : hEq (M.1 b 3) (cH M b) (mH M) := by
  obtain ⟨-, -, -, -, -, ⟨-, -, -, -, -, h6⟩, -⟩ := h
  intro z hz w hw
  exact (h6 z w hz hw).symm
theorem vOk_E {n k fr to : Nat} {V W H K : Nat → Nat → Nat} (hv : vE n V W) (hh : hEq k H K) (h : vOk n V k H fr to) : vOk n W k K fr to := by
  obtain ⟨h1, h2, h3, h4, h5, h6⟩ := h
  refine ⟨h1, h2, h3, h4, fun i hi => uOk_E (hv i hi) (h5 i hi), fun z hz => ?_⟩
  rw [← hh z hz 0 (by decide), ← hh z hz 1 (by decide), ← hh z hz 2 (by decide)]
  exact h6 z hz
theorem rel_mO {E : gEnv} {M : gMem} {b b' : Nat} (h : rel E M b b') : mO M := by
  have hv := rel_v h
  have hh := rel_h h
  obtain ⟨-, -, hO, -, -, ⟨h1, h2, h3, h4, -⟩, -⟩ := h
  unfold mO
  rw [h1, h2, h3, h4]
  exact vOk_E hv hh hO
/-- cells and places that rel does not look at -/
def irr (b' a k : Nat) : Prop := a = 62 ∨ a = 63 ∨ a = 4 ∨ a = 68 ∨ (a = 60 ∧ (k = 2 ∨ (5 ≤ k ∧ k ≤ 8) ∨ (19 ≤ k ∧ k ≤ 21))) ∨ (b' ≤ a ∧ a < b' + 17)
theorem cO_ag {M u : gMem} {b : Nat} (h : cO M b) (e0 : ∀ k, u.1 b k = M.1 b k) (e1 : ∀ i k, i < 10 → u.1 (b + 3 + i) k = M.1 (b + 3 + i) k) (e2 : ∀ i k, i < 4 → u.1 (b + 13 + i) k = M.1 (b + 13 + i) k) : cO u b := by
  obtain ⟨h1, h2, h3, h4, h5, h6⟩ := h
  unfold cO
  rw [e0, e0, e0, e0]
  refine ⟨h1, h2, h3, h4, fun i hi => ?_, fun z hz => ?_⟩
  · have ev : cV u b i = cV M b i := by
      funext w
      have := fun k => e1 i k (by omega)
      simp only [cV, oV, this]
    rw [ev]; exact h5 i hi
  · show u.1 (b + 13 + z) 0 < 4 ∧ u.1 (b + 13 + z) 1 < 4 ∧ 1 ≤ u.1 (b + 13 + z) 2 ∧ u.1 (b + 13 + z) 2 ≤ 51
    rw [e2 z 0 (by omega), e2 z 1 (by omega), e2 z 2 (by omega)]
    exact h6 z hz
theorem rel_ag {E : gEnv} {M u : gMem} {b b' : Nat} (h : rel E M b b') (h2 : u.2 = M.2) (e : ∀ a k, ¬ irr b' a k → u.1 a k = M.1 a k) (e4 : ∀ i, u.1 4 i < 100) (e8 : ∀ i, u.1 68 i < 100) : rel E u b b' := by
  obtain ⟨hS, hR, hO, hn, hsg, ⟨t1, t2, t3, t4, t5, t6⟩, ⟨n1, n2⟩, ⟨x1, x2, x3, -, -⟩, ⟨y1, y2, y3⟩⟩ := h
  have hbb := hS.2.2.2.2.1
  have hch := hS.2.2.2.2.2.1
  have hb : ∀ a, b ≤ a → a < b + 17 → ∀ k, u.1 a k = M.1 a k := fun a h1 h2 k => e a k (by unfold irr; omega)
  have hlo : ∀ a, a < 20 → a ≠ 4 → ∀ k, u.1 a k = M.1 a k := fun a h1 h2 k => e a k (by unfold irr; omega)
  have hhi : ∀ a, 61 ≤ a → a ≠ 62 → a ≠ 63 → a ≠ 68 → ∀ k, u.1 a k = M.1 a k := fun a h1 h2 h3 h4 k => e a k (by unfold irr; omega)
  have h60 : ∀ k, k = 1 ∨ (11 ≤ k ∧ k ≤ 14) ∨ k = 17 → u.1 60 k = M.1 60 k := fun k hk => e 60 k (by unfold irr; omega)
  have hn10 : M.1 b 1 ≤ 10 := hO.1
  have hk4 : M.1 b 3 ≤ 4 := hO.2.1
  refine ⟨cS_2 hS h2, mR_2 hR h2, cO_ag hO (hb b (by omega) (by omega)) (fun i k hi => hb _ (by omega) (by omega) k) (fun i k hi => hb _ (by omega) (by omega) k), ?_, ?_, ⟨?_, ?_, ?_, ?_, ?_, ?_⟩, ⟨?_, ?_⟩, ⟨?_, ?_, ?_, e4, e8⟩, ⟨?_, ?_, ?_⟩⟩
  · rw [hb b (by omega) (by omega)]; exact hn
  · rw [hlo 1 (by omega) (by omega)]; exact hsg
  · rw [h60 _ (by omega), hb b (by omega) (by omega)]; exact t1
  · rw [h60 _ (by omega), hb b (by omega) (by omega)]; exact t2
  · rw [h60 _ (by omega), hb b (by omega) (by omega)]; exact t3
  · rw [h60 _ (by omega), hb b (by omega) (by omega)]; exact t4
  · intro i w hi hw
    rw [hb b (by omega) (by omega)] at hi
    rw [hhi 64 (by omega) (by omega) (by omega) (by omega), hb _ (by omega) (by omega)]; exact t5 i w hi hw
  · intro i w hi hw
    rw [hb b (by omega) (by omega)] at hi
    rw [hhi 65 (by omega) (by omega) (by omega) (by omega), hb _ (by omega) (by omega)]; exact t6 i w hi hw
  · rw [hhi 66 (by omega) (by omega) (by omega) (by omega), hlo 1 (by omega) (by omega)]; exact n1
  · intro i hi
    rw [hb b (by omega) (by omega)] at hi
    rw [hhi 66 (by omega) (by omega) (by omega) (by omega), hb _ (by omega) (by omega)]; exact n2 i hi
  · rw [h60 _ (by omega), hlo 1 (by omega) (by omega)]; exact x1
  · rw [hlo 1 (by omega) (by omega)]; exact x2
  · intro p hp
    rw [hlo 1 (by omega) (by omega)] at hp
    rw [hhi 61 (by omega) (by omega) (by omega) (by omega), hlo 2 (by omega) (by omega)]; exact x3 p hp
  · rw [h60 _ (by omega), hlo 5 (by omega) (by omega)]; exact y1
  · rw [hlo 5 (by omega) (by omega)]; exact y2
  · intro c hc
    rw [hlo 5 (by omega) (by omega)] at hc
    have hce := hch c (by omega)
    have eh : ∀ w, hE u c w = hE M c w := fun w => by
      show u.1 (u.2 6 c) w = M.1 (M.2 6 c) w
      rw [h2]; exact hlo _ (by omega) (by omega) w
    obtain ⟨z1, z2, z3, z4, z5⟩ := y3 c hc
    have e67 := hhi 67 (by omega) (by omega) (by omega) (by omega)
    have e66 := hhi 66 (by omega) (by omega) (by omega) (by omega)
    unfold rHc
    simp only [eh, e67, e66, hb b (by omega) (by omega), hlo 5 (by omega) (by omega)]
    refine ⟨z1, z2, z3, z4, fun j hj => ?_⟩
    rw [hb (b + 3 + j) (by omega) (by omega)]
    exact z5 j hj
theorem rel_push {E : gEnv} {M u0 w : gMem} {b b' j s' d : Nat} (h : rel E M b b') (hj : j < M.1 b 1) (hA : hAdd M u0 (M.1 1 5) j (M.1 (b + 3 + j) 7)) (hs : s' < 1024) (hd : M.1 (b + 3 + j) 4 + d ≤ 51)
    (g1 : ∀ a k, a ≠ 5 → ¬ (10 ≤ a ∧ a < 16) → a ≠ 67 → ¬ (a = 60 ∧ (k = 17 ∨ k = 21)) → ¬ (a = 1 ∧ k = 5) → ¬ (a = b + 3 + j ∧ k = 7) → ¬ (a = 66 ∧ (k = 10 ∨ k = j)) → w.1 a k = M.1 a k)
    (g2 : w.1 1 5 = s' ∧ w.1 66 10 = s' ∧ w.1 (b + 3 + j) 7 = d ∧ w.1 66 j = d)
    (g3 : w.2 = u0.2 ∧ (∀ a k, 10 ≤ a → a < 16 → w.1 a k = u0.1 a k) ∧ w.1 5 1 = u0.1 5 1)
    (g4 : M.1 5 1 < 6 → w.1 60 17 = M.1 5 1 + 1 ∧ ∀ i, w.1 67 i = if 11 * M.1 5 1 ≤ i ∧ i < 11 * M.1 5 1 + 11 then M.1 66 (i - 11 * M.1 5 1) else M.1 67 i)
    (g5 : M.1 5 1 = 6 → w.1 60 17 = 6 ∧ ∀ i, w.1 67 i = if 55 ≤ i ∧ i < 66 then M.1 66 (i - 55) else if i < 55 then M.1 67 (i + 11) else M.1 67 i) : rel E w b b' := by
  have hcS := hAdd_cS h.1 hA
  obtain ⟨hS, hR, hO, hn, hsg, ⟨t1, t2, t3, t4, t5, t6⟩, ⟨n1, n2⟩, ⟨x1, x2, x3, x4, x5⟩, ⟨y1, y2, y3⟩⟩ := h
  obtain ⟨q1, q2, q3, q4, q5, q6⟩ := hA
  obtain ⟨p1, p2, p3, p4⟩ := g2
  obtain ⟨f1, f2, f3⟩ := g3
  have hbb := hS.2.2.2.2.1
  have hn10 : M.1 b 1 ≤ 10 := hO.1
  have hk4 : M.1 b 3 ≤ 4 := hO.2.1
  have eb : ∀ k, w.1 b k = M.1 b k := fun k => g1 b k (by omega) (by omega) (by omega) (by omega) (by omega) (by omega) (by omega)
  have ew : ∀ i k, i < 10 → k ≠ 7 → w.1 (b + 3 + i) k = M.1 (b + 3 + i) k := fun i k hi hk => g1 _ k (by omega) (by omega) (by omega) (by omega) (by omega) (by omega) (by omega)
  have e7 : ∀ i, i < 10 → i ≠ j → w.1 (b + 3 + i) 7 = M.1 (b + 3 + i) 7 := fun i hi hk => g1 _ 7 (by omega) (by omega) (by omega) (by omega) (by omega) (by omega) (by omega)
  have eh : ∀ i k, i < 4 → w.1 (b + 13 + i) k = M.1 (b + 13 + i) k := fun i k hi => g1 _ k (by omega) (by omega) (by omega) (by omega) (by omega) (by omega) (by omega)
  have e66 : ∀ i, i < 10 → i ≠ j → w.1 66 i = M.1 66 i := fun i hi hk => g1 _ i (by omega) (by omega) (by omega) (by omega) (by omega) (by omega) (by omega)
  have ehE : ∀ c k, c < 6 → hE w c k = hE u0 c k := fun c k hc => by
    show w.1 (w.2 6 c) k = u0.1 (u0.2 6 c) k
    rw [f1]; exact f2 _ k (q3 c hc).1 (q3 c hc).2
  have o4 : ∀ i, i < M.1 b 1 → M.1 (b + 3 + i) 4 + M.1 (b + 3 + i) 7 ≤ 51 := fun i hi => (hO.2.2.2.2.1 i hi).2.2.2.2.1
  refine ⟨cS_2 hcS f1, ?_, ?_, ?_, ?_, ⟨?_, ?_, ?_, ?_, ?_, ?_⟩, ⟨?_, ?_⟩, ⟨?_, ?_, ?_, ?_, ?_⟩, ?_⟩
  · have er : ∀ a k, a ≠ 6 → w.2 a k = M.2 a k := fun a k ha => by rw [f1]; exact q2 a k ha
    obtain ⟨r0, r1⟩ := hR
    refine ⟨r0, ?_⟩
    rw [er _ _ (by decide), er _ _ (by decide), er _ _ (by decide), er _ _ (by decide), er _ _ (by decide), er _ _ (by decide), er _ _ (by decide), er _ _ (by decide)]
    exact r1
  · obtain ⟨v1, v2, v3, v4, v5, v6⟩ := hO
    unfold cO
    rw [eb, eb, eb, eb]
    refine ⟨v1, v2, v3, v4, fun i hi => ?_, fun z hz => ?_⟩
    · obtain ⟨a0, a1, a2, a3, a4, a5, a6, a7⟩ := v5 i hi
      simp only [cV, oV] at a0 a1 a2 a3 a4 a5 a6 a7
      by_cases hij : i = j
      · subst hij
        refine ⟨?_, ?_, ?_, ?_, ?_, ?_, ?_, ?_⟩ <;> simp only [cV, oV] <;> (try rw [p3]) <;> (repeat rw [ew _ _ (by omega) (by decide)]) <;> omega
      · refine ⟨?_, ?_, ?_, ?_, ?_, ?_, ?_, ?_⟩ <;> simp only [cV, oV] <;> (try rw [e7 i (by omega) hij]) <;> (repeat rw [ew _ _ (by omega) (by decide)]) <;> omega
    · show w.1 (b + 13 + z) 0 < 4 ∧ w.1 (b + 13 + z) 1 < 4 ∧ 1 ≤ w.1 (b + 13 + z) 2 ∧ w.1 (b + 13 + z) 2 ≤ 51
      rw [eh z 0 (by omega), eh z 1 (by omega), eh z 2 (by omega)]
      exact v6 z hz
  · rw [eb]; exact hn
  · rw [p1]; exact hs
  · rw [eb, g1 60 11 (by omega) (by omega) (by omega) (by omega) (by omega) (by omega) (by omega)]; exact t1
  · rw [eb, g1 60 12 (by omega) (by omega) (by omega) (by omega) (by omega) (by omega) (by omega)]; exact t2
  · rw [eb, g1 60 13 (by omega) (by omega) (by omega) (by omega) (by omega) (by omega) (by omega)]; exact t3
  · rw [eb, g1 60 14 (by omega) (by omega) (by omega) (by omega) (by omega) (by omega) (by omega)]; exact t4
  · intro i k hi hk
    rw [eb] at hi
    rw [ew i k (by omega) (by omega), g1 64 _ (by omega) (by omega) (by omega) (by omega) (by omega) (by omega) (by omega)]; exact t5 i k hi hk
  · intro i k hi hk
    rw [eb] at hi
    rw [eh i k (by omega), g1 65 _ (by omega) (by omega) (by omega) (by omega) (by omega) (by omega) (by omega)]; exact t6 i k hi hk
  · rw [p1, p2]
  · intro i hi
    rw [eb] at hi
    by_cases hij : i = j
    · subst hij; rw [p3, p4]
    · rw [e66 i (by omega) hij, e7 i (by omega) hij]; exact n2 i hi
  · rw [g1 60 1 (by omega) (by omega) (by omega) (by omega) (by omega) (by omega) (by omega), g1 1 1 (by omega) (by omega) (by omega) (by omega) (by omega) (by omega) (by omega)]; exact x1
  · rw [g1 1 1 (by omega) (by omega) (by omega) (by omega) (by omega) (by omega) (by omega)]; exact x2
  · intro p hp
    rw [g1 1 1 (by omega) (by omega) (by omega) (by omega) (by omega) (by omega) (by omega)] at hp
    rw [g1 61 _ (by omega) (by omega) (by omega) (by omega) (by omega) (by omega) (by omega), g1 2 _ (by omega) (by omega) (by omega) (by omega) (by omega) (by omega) (by omega)]; exact x3 p hp
  · intro i; rw [g1 4 _ (by omega) (by omega) (by omega) (by omega) (by omega) (by omega) (by omega)]; exact x4 i
  · intro i; rw [g1 68 _ (by omega) (by omega) (by omega) (by omega) (by omega) (by omega) (by omega)]; exact x5 i
  · rcases Nat.lt_or_ge (M.1 5 1) 6 with hz | hz
    · obtain ⟨k1, k2⟩ := g4 hz
      obtain ⟨l1, l2, l3, l4, l5⟩ := q5 hz
      refine ⟨by rw [k1, f3, l1], by rw [f3, l1]; omega, fun c hc => ?_⟩
      rw [f3, l1] at hc
      unfold rHc
      rw [f3, l1, eb]
      rcases Nat.lt_or_ge c (M.1 5 1) with hc2 | hc2
      · have ee : ∀ k, hE w c k = hE M c k := fun k => by rw [ehE c k (by omega)]; exact l2 c k hc2
        obtain ⟨z1, z2, z3, z4, z5⟩ := y3 c hc2
        have kk : ∀ i, i < 11 → w.1 67 (11 * c + i) = M.1 67 (11 * c + i) := fun i hi => by rw [k2, if_neg (by omega)]
        rw [ee, ee, ee]
        refine ⟨z1, z2, by rw [kk _ (by omega)]; exact z3, by rw [kk _ (by omega)]; exact z4, fun i hi => ⟨?_, fun hne => ?_⟩⟩
        · rw [kk _ (by omega), ew i 4 (by omega) (by omega)]; exact (z5 i hi).1
        · rw [kk _ (by omega), (z5 i hi).2 hne, if_neg (show ¬ c + 1 = M.1 5 1 + 1 by omega)]
          by_cases hc3 : c + 1 = M.1 5 1
          · rw [if_pos hc3, hc3, k2, if_pos (by omega)]
            exact congrArg (M.1 66) (by omega)
          · rw [if_neg hc3, k2, if_neg (by omega)]
      · have hc3 : c = M.1 5 1 := by omega
        have kk : ∀ i, i < 11 → w.1 67 (11 * c + i) = M.1 66 i := fun i hi => by rw [k2, if_pos (by omega)]; exact congrArg (M.1 66) (by omega)
        rw [ehE c 0 (by omega), ehE c 1 (by omega), ehE c 2 (by omega), hc3, l3, l4, l5, ← hc3]
        refine ⟨hsg, hj, by rw [kk _ (by omega)]; exact n1, by rw [kk _ (by omega)]; exact n2 j hj, fun i hi => ⟨?_, fun hne => ?_⟩⟩
        · rw [kk _ (by omega), ew i 4 (by omega) (by omega), n2 i hi]; exact o4 i hi
        · rw [kk _ (by omega), if_pos (by omega), e66 i (by omega) hne]
    · have hz6 : M.1 5 1 = 6 := by omega
      obtain ⟨k1, k2⟩ := g5 hz6
      obtain ⟨l1, l2, l3, l4, l5⟩ := q6 hz6
      refine ⟨by rw [k1, f3, l1], by rw [f3, l1]; omega, fun c hc => ?_⟩
      rw [f3, l1] at hc
      unfold rHc
      rw [f3, l1, eb]
      rcases Nat.lt_or_ge c 5 with hc2 | hc2
      · have ee : ∀ k, hE w c k = hE M (c + 1) k := fun k => by rw [ehE c k (by omega)]; exact l2 c k hc2
        obtain ⟨z1, z2, z3, z4, z5⟩ := y3 (c + 1) (by omega)
        have kk : ∀ i, i < 11 → w.1 67 (11 * c + i) = M.1 67 (11 * (c + 1) + i) := fun i hi => by rw [k2, if_neg (by omega), if_pos (by omega)]; exact congrArg (M.1 67) (by omega)
        rw [ee, ee, ee]
        refine ⟨z1, z2, by rw [kk _ (by omega)]; exact z3, by rw [kk _ (by omega)]; exact z4, fun i hi => ⟨?_, fun hne => ?_⟩⟩
        · rw [kk _ (by omega), ew i 4 (by omega) (by omega)]; exact (z5 i hi).1
        · rw [kk _ (by omega), (z5 i hi).2 hne, if_neg (show ¬ c + 1 = 6 by omega)]
          by_cases hc3 : c + 1 + 1 = M.1 5 1
          · rw [if_pos hc3, k2, if_pos (by omega)]
            exact congrArg (M.1 66) (by omega)
          · rw [if_neg hc3, k2, if_neg (by omega), if_pos (by omega)]
            exact congrArg (M.1 67) (by omega)
      · have hc3 : c = 5 := by omega
        subst hc3
        have kk : ∀ i, i < 11 → w.1 67 (11 * 5 + i) = M.1 66 i := fun i hi => by rw [k2, if_pos (by omega)]; exact congrArg (M.1 66) (by omega)
        rw [ehE 5 0 (by omega), ehE 5 1 (by omega), ehE 5 2 (by omega), l3, l4, l5]
        refine ⟨hsg, hj, by rw [kk _ (by omega)]; exact n1, by rw [kk _ (by omega)]; exact n2 j hj, fun i hi => ⟨?_, fun hne => ?_⟩⟩
        · rw [kk _ (by omega), ew i 4 (by omega) (by omega), n2 i hi]; exact o4 i hi
        · rw [kk _ (by omega), if_pos (by omega), e66 i (by omega) hne]
