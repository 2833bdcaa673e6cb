/-! the text read by the class and by the reference: the same -/
theorem aN_lo {t : Nat → Nat} : ∀ k p fd nf fig val, (aN t k p fd nf fig val).1 = 0 ∨ fd + 1 ≤ (aN t k p fd nf fig val).1 := by
  intro k
  induction k with
  | zero => intro p fd nf fig val; unfold aN; split <;> simp
  | succ k ih =>
    intro p fd nf fig val
    unfold aN
    split
    · exact ih _ _ _ _ _
    · split
      · rcases ih (p + 1) (fd + 1) (updN nf fd val) 0 0 with h | h
        · exact Or.inl h
        · exact Or.inr (by omega)
      · exact Or.inl rfl
theorem aN_keep {t : Nat → Nat} : ∀ k p fd nf fig val i, i < fd → (aN t k p fd nf fig val).2 i = nf i := by
  intro k
  induction k with
  | zero =>
    intro p fd nf fig val i hi
    unfold aN
    split
    · rfl
    · simp only [updN]; rw [if_neg (by omega)]
  | succ k ih =>
    intro p fd nf fig val i hi
    unfold aN
    split
    · exact ih _ _ _ _ _ i hi
    · split
      · rw [ih _ _ _ _ _ i (by omega)]; simp only [updN]; rw [if_neg (by omega)]
      · rfl
theorem mN_keep {t : Nat → Nat} {L : Nat} : ∀ r k a nf i, i < k → (mN t L r k a nf).2.2 i = nf i := by
  intro r
  induction r with
  | zero => intro k a nf i hi; rfl
  | succ r ih =>
    intro k a nf i hi
    have e : updN nf k (mNv t L a) i = nf i := if_neg (by omega)
    unfold mN
    split
    · by_cases h : mNa t L a ≠ L ∧ t (mNa t L a) = (if r = 0 then 59 else 44)
      · rw [if_pos h, ih _ _ _ _ (by omega)]; exact e
      · rw [if_neg h]; exact e
    · rfl
theorem mN_59 {t : Nat → Nat} {L : Nat} : ∀ r k a nf, 0 < r → (mN t L r k a nf).1 = true → ∃ q, a ≤ q ∧ q < L ∧ t q = 59 := by
  intro r
  induction r with
  | zero => intro k a nf h; omega
  | succ r ih =>
    intro k a nf _ h
    unfold mN at h
    split at h
    · rename_i hd
      have hd := of_decide_eq_true hd
      have ha : a < mNa t L a ∧ mNa t L a ≤ L := by
        unfold mNa
        split
        · rename_i h2; have h2 := of_decide_eq_true h2; omega
        · omega
      by_cases h3 : mNa t L a ≠ L ∧ t (mNa t L a) = (if r = 0 then 59 else 44)
      · by_cases hr : r = 0
        · refine ⟨mNa t L a, by omega, by omega, ?_⟩
          rw [h3.2, if_pos hr]
        · rw [if_pos h3] at h
          obtain ⟨q, h4, h5, h6⟩ := ih _ _ _ (by omega) h
          exact ⟨q, by omega, h5, h6⟩
      · rw [if_neg h3] at h; cases h
    · cases h
/-- the numbers of an item, to its ; at e -/
theorem aN_mN {t : Nat → Nat} {L e : Nat} (he : e < L) (hte : t e = 59) : ∀ r fd p nf nf', p ≤ e → (∀ m, p ≤ m → m < e → t m ≠ 59) → 0 < r → fd + r ≤ 7 →
    ((aN t (e - p) p fd nf 0 0).1 = fd + r ↔ (mN t L r fd p nf').1 = true) ∧ ((mN t L r fd p nf').1 = true → (mN t L r fd p nf').2.1 = e + 1 ∧ ∀ i, fd ≤ i → i < fd + r → (aN t (e - p) p fd nf 0 0).2 i = (mN t L r fd p nf').2.2 i) := by
  intro r
  induction r with
  | zero => intro fd p nf nf' _ _ h; omega
  | succ r ih =>
    intro fd p nf nf' hp hno _ hr
    -- the field's end q, its number v
    have fin : ∀ q fig v, p < q → q ≤ e → fig = 1 ∨ fig = 2 → (¬ (48 ≤ t q ∧ t q ≤ 57 ∧ fig < 2)) → aN t (e - p) p fd nf 0 0 = aN t (e - q) q fd nf fig v → mNa t L p = q → mNv t L p = v → dgt t L p = true →
        ((aN t (e - p) p fd nf 0 0).1 = fd + (r + 1) ↔ (mN t L (r + 1) fd p nf').1 = true) ∧ ((mN t L (r + 1) fd p nf').1 = true → (mN t L (r + 1) fd p nf').2.1 = e + 1 ∧ ∀ i, fd ≤ i → i < fd + (r + 1) → (aN t (e - p) p fd nf 0 0).2 i = (mN t L (r + 1) fd p nf').2.2 i) := by
      intro q fig v h1 h2 hfig hnd hA hNa hNv hd
      have hM : mN t L (r + 1) fd p nf' = if q ≠ L ∧ t q = (if r = 0 then 59 else 44) then mN t L r (fd + 1) (q + 1) (updN nf' fd v) else (false, q, updN nf' fd v) := by
        show (if dgt t L p then _ else _) = _
        rw [hd, if_pos rfl, hNa, hNv]
      rw [hA, hM]
      rcases Nat.eq_or_lt_of_le h2 with g | g
      · subst g
        rw [aN_e (Nat.le_refl _), if_neg (by omega)]
        by_cases hr0 : r = 0
        · subst hr0
          rw [if_pos ⟨by omega, by rw [hte]; rfl⟩]
          refine ⟨⟨fun _ => rfl, fun _ => rfl⟩, fun _ => ⟨rfl, fun i a b => ?_⟩⟩
          have : i = fd := by omega
          subst this
          show updN nf i v i = updN nf' i v i
          simp [updN]
        · rw [if_neg (by rw [if_neg hr0, hte]; omega)]
          refine ⟨⟨fun h => ?_, fun h => by cases h⟩, fun h => by cases h⟩
          have h : fd + 1 = fd + (r + 1) := h
          omega
      · have hq59 := hno q (by omega) g
        by_cases hc : t q = 44
        · by_cases hr0 : r = 0
          · subst hr0
            rw [if_neg (by rw [if_pos rfl, hc]; omega)]
            refine ⟨⟨fun h => ?_, fun h => by cases h⟩, fun h => by cases h⟩
            by_cases h6 : fd < 6
            · rw [aN_c g hc (by omega) h6] at h
              rcases aN_lo (t := t) (e - (q + 1)) (q + 1) (fd + 1) (updN nf fd v) 0 0 with h7 | h7 <;> omega
            · rw [aN_x g hnd (by omega)] at h
              have h : 0 = fd + (0 + 1) := h
              omega
          · rw [if_pos ⟨by omega, by rw [if_neg hr0]; exact hc⟩, aN_c g hc (by omega) (by omega)]
            obtain ⟨i1, i2⟩ := ih (fd + 1) (q + 1) (updN nf fd v) (updN nf' fd v) (by omega) (fun m a b => hno m (by omega) b) (by omega) (by omega)
            refine ⟨by rw [show fd + (r + 1) = fd + 1 + r by omega]; exact i1, fun h => ⟨(i2 h).1, fun i a b => ?_⟩⟩
            rcases Nat.eq_or_lt_of_le a with z | z
            · subst z
              rw [aN_keep _ _ _ _ _ _ _ (by omega), mN_keep _ _ _ _ _ (by omega)]
              simp [updN]
            · exact (i2 h).2 i (by omega) (by omega)
        · have hne : ¬ (q ≠ L ∧ t q = (if r = 0 then 59 else 44)) := by
            rintro ⟨_, h⟩
            split at h
            · exact hq59 h
            · exact hc h
          rw [if_neg hne, aN_x g hnd (fun h => hc h.1)]
          refine ⟨⟨fun h => ?_, fun h => by cases h⟩, fun h => by cases h⟩
          have h : 0 = fd + (r + 1) := h
          omega
    have bad : aN t (e - p) p fd nf 0 0 = (0, nf) → dgt t L p = false → ((aN t (e - p) p fd nf 0 0).1 = fd + (r + 1) ↔ (mN t L (r + 1) fd p nf').1 = true) ∧ ((mN t L (r + 1) fd p nf').1 = true → (mN t L (r + 1) fd p nf').2.1 = e + 1 ∧ ∀ i, fd ≤ i → i < fd + (r + 1) → (aN t (e - p) p fd nf 0 0).2 i = (mN t L (r + 1) fd p nf').2.2 i) := by
      intro hA hd
      have hM : mN t L (r + 1) fd p nf' = (false, p, nf') := by
        show (if dgt t L p then _ else _) = _
        rw [hd]; rfl
      rw [hA, hM]
      refine ⟨⟨fun h => ?_, fun h => by cases h⟩, fun h => by cases h⟩
      have h : 0 = fd + (r + 1) := h
      omega
    rcases Nat.eq_or_lt_of_le hp with g | g
    · subst g
      refine bad (by rw [aN_e (Nat.le_refl _)]; rfl) (decide_eq_false (by rw [hte]; omega))
    · by_cases hd : 48 ≤ t p ∧ t p ≤ 57
      · have hdg : dgt t L p = true := decide_eq_true ⟨by omega, hd.1, hd.2⟩
        have a1 := aN_d (t := t) (e := e) (p := p) (fd := fd) (nf := nf) (fig := 0) (val := 0) g hd.1 hd.2 (by omega)
        by_cases hd2 : p + 1 < e ∧ 48 ≤ t (p + 1) ∧ t (p + 1) ≤ 57
        · have hdg2 : dgt t L (p + 1) = true := decide_eq_true ⟨by omega, hd2.2.1, hd2.2.2⟩
          have a2 := aN_d (t := t) (e := e) (p := p + 1) (fd := fd) (nf := nf) (fig := 0 + 1) (val := 0 * 10 + (t p - 48)) hd2.1 hd2.2.1 hd2.2.2 (by omega)
          refine fin (p + 2) 2 (10 * (t p - 48) + (t (p + 1) - 48)) (by omega) (by omega) (Or.inr rfl) (by omega) ?_ (by unfold mNa; rw [hdg2]; rfl) (by unfold mNv; rw [hdg2]; rfl) hdg
          rw [a1, a2]
          congr 1
          omega
        · have hdg2 : dgt t L (p + 1) = false := by
            refine decide_eq_false (fun h => ?_)
            by_cases h7 : p + 1 < e
            · exact hd2 ⟨h7, h.2⟩
            · have : p + 1 = e := by omega
              rw [this, hte] at h; omega
          refine fin (p + 1) 1 (t p - 48) (by omega) (by omega) (Or.inl rfl) (fun h => ?_) ?_ (by unfold mNa; rw [hdg2]; rfl) (by unfold mNv; rw [hdg2]; rfl) hdg
          · by_cases h7 : p + 1 < e
            · exact hd2 ⟨h7, h.1, h.2.1⟩
            · have : p + 1 = e := by omega
              rw [this, hte] at h; omega
          · rw [a1]
            congr 1
            omega
      · refine bad (aN_x g (by omega) (by omega)) (decide_eq_false (by omega))
/-- the same books read -/
def aE (s s' : aB) : Prop := s.1.1 = s'.1.1 ∧ (∀ i, i < s.1.1 → ∀ w, w < 7 → s.1.2 i w = s'.1.2 i w) ∧ s.2.1.1 = s'.2.1.1 ∧ (∀ h, h < s.2.1.1 → ∀ w, w < 3 → s.2.1.2 h w = s'.2.1.2 h w) ∧ s.2.2 = s'.2.2
theorem aE_rf (s : aB) : aE s s := ⟨rfl, fun _ _ _ _ => rfl, rfl, fun _ _ _ _ => rfl, rfl⟩
theorem oOk_E {f g : Nat → Nat} (h : ∀ i, i < 7 → f i = g i) : oOk f = oOk g := by
  unfold oOk
  rw [h 0 (by decide), h 1 (by decide), h 2 (by decide), h 3 (by decide), h 4 (by decide), h 5 (by decide), h 6 (by decide)]
theorem hTold_E {f g : Nat → Nat} (h : ∀ i, i < 3 → f i = g i) : hTold f = hTold g := by
  unfold hTold
  rw [h 0 (by decide), h 1 (by decide), h 2 (by decide)]
def iE (e : Nat) : Option aB → Option (Nat × (Nat → Nat) × aB) → Prop
  | none, none => True
  | some s, some q => q.1 = e + 1 ∧ aE s q.2.2
  | _, _ => False
theorem rI_rIm {t : Nat → Nat} {L e a kind : Nat} (he : e < L) (hte : t e = 59) (hno : ∀ m, a + 1 ≤ m → m < e → t m ≠ 59) (hae : a + 1 ≤ e) (nf nf' : Nat → Nat) {s s' : aB} (hs : aE s s') :
    iE e (rI kind (aN t (e - (a + 1)) (a + 1) 0 nf 0 0).1 (aN t (e - (a + 1)) (a + 1) 0 nf 0 0).2 s) (rIm kind t L (a + 1) nf' s') := by
  have key := fun r (h0 : 0 < r) (h7 : 0 + r ≤ 7) => aN_mN he hte r 0 (a + 1) nf nf' hae hno h0 h7
  obtain ⟨s1, s2, s3, s4, s5⟩ := hs
  generalize aN t (e - (a + 1)) (a + 1) 0 nf 0 0 = A at key
  unfold rI rIm
  by_cases k1 : kind = 116
  · rw [if_pos k1, if_pos k1]
    obtain ⟨q1, q2⟩ := key 2 (by omega) (by omega)
    generalize mN t L 2 0 (a + 1) nf' = B at q1 q2
    by_cases hb : B.1 = true
    · obtain ⟨q3, q4⟩ := q2 hb
      have hA : A.1 = 2 := by have := q1.mpr hb; omega
      rw [q4 0 (by omega) (by omega), q4 1 (by omega) (by omega)]
      by_cases hc : B.2.2 0 ≤ B.2.2 1 ∧ B.2.2 1 ≤ 51
      · rw [if_pos ⟨hA, hc⟩, if_pos ⟨hb, hc⟩]
        exact ⟨q3, s1, s2, s3, s4, rfl⟩
      · rw [if_neg (fun h => hc h.2), if_neg (fun h => hc h.2)]; trivial
    · have hA : ¬ A.1 = 2 := fun h => hb (q1.mp (by omega))
      rw [if_neg (fun h => hA h.1), if_neg (fun h => hb h.1)]; trivial
  · rw [if_neg k1, if_neg k1]
    by_cases k2 : kind = 111
    · rw [if_pos k2, if_pos k2]
      obtain ⟨q1, q2⟩ := key 7 (by omega) (by omega)
      generalize mN t L 7 0 (a + 1) nf' = B at q1 q2
      by_cases hb : B.1 = true
      · obtain ⟨q3, q4⟩ := q2 hb
        have hA : A.1 = 7 := by have := q1.mpr hb; omega
        have q4 : ∀ i, i < 7 → A.2 i = B.2.2 i := fun i hi => q4 i (by omega) (by omega)
        rw [oOk_E q4, s1]
        by_cases hc : s'.1.1 < 10 ∧ oOk B.2.2 = true
        · rw [if_pos ⟨hA, hc.1, hc.2⟩, if_pos ⟨hc.1, hb, hc.2⟩]
          refine ⟨q3, by show s'.1.1 + 1 = s'.1.1 + 1; rfl, fun i hi w hw => ?_, s3, s4, s5⟩
          have hi : i < s'.1.1 + 1 := hi
          show updR s.1.2 s'.1.1 A.2 i w = updR s'.1.2 s'.1.1 B.2.2 i w
          simp only [updR]
          by_cases z : i = s'.1.1
          · rw [if_pos z, if_pos z]; exact q4 w hw
          · rw [if_neg z, if_neg z]; exact s2 i (by omega) w hw
        · rw [if_neg (fun h => hc ⟨h.2.1, h.2.2⟩), if_neg (fun h => hc ⟨h.1, h.2.2⟩)]; trivial
      · have hA : ¬ A.1 = 7 := fun h => hb (q1.mp (by omega))
        rw [if_neg (fun h => hA h.1), if_neg (fun h => hb h.2.1)]; trivial
    · rw [if_neg k2, if_neg k2]
      by_cases k3 : kind = 104
      · rw [if_pos k3, if_pos k3]
        obtain ⟨q1, q2⟩ := key 3 (by omega) (by omega)
        generalize mN t L 3 0 (a + 1) nf' = B at q1 q2
        by_cases hb : B.1 = true
        · obtain ⟨q3, q4⟩ := q2 hb
          have hA : A.1 = 3 := by have := q1.mpr hb; omega
          have q4 : ∀ i, i < 3 → A.2 i = B.2.2 i := fun i hi => q4 i (by omega) (by omega)
          rw [hTold_E q4, s3]
          by_cases hc : s'.2.1.1 < 4 ∧ hTold B.2.2 = true
          · rw [if_pos ⟨hA, hc.1, hc.2⟩, if_pos ⟨hc.1, hb, hc.2⟩]
            refine ⟨q3, s1, s2, by show s'.2.1.1 + 1 = s'.2.1.1 + 1; rfl, fun i hi w hw => ?_, s5⟩
            have hi : i < s'.2.1.1 + 1 := hi
            show updR s.2.1.2 s'.2.1.1 A.2 i w = updR s'.2.1.2 s'.2.1.1 B.2.2 i w
            simp only [updR]
            by_cases z : i = s'.2.1.1
            · rw [if_pos z, if_pos z]; exact q4 w hw
            · rw [if_neg z, if_neg z]; exact s4 i (by omega) w hw
          · rw [if_neg (fun h => hc ⟨h.2.1, h.2.2⟩), if_neg (fun h => hc ⟨h.1, h.2.2⟩)]; trivial
        · have hA : ¬ A.1 = 3 := fun h => hb (q1.mp (by omega))
          rw [if_neg (fun h => hA h.1), if_neg (fun h => hb h.2.1)]; trivial
      · rw [if_neg k3, if_neg k3]; trivial
theorem rIm_no {t : Nat → Nat} {L a kind : Nat} (hno : ∀ m, a + 1 ≤ m → m < L → t m ≠ 59) (nf : Nat → Nat) (s : aB) : rIm kind t L (a + 1) nf s = none := by
  have key : ∀ r, 0 < r → ¬ (mN t L r 0 (a + 1) nf).1 = true := fun r h0 h => by
    obtain ⟨q, h1, h2, h3⟩ := mN_59 r 0 (a + 1) nf h0 h
    exact hno q h1 h2 h3
  unfold rIm
  split
  · exact if_neg (fun h => key 2 (by omega) h.1)
  · split
    · exact if_neg (fun h => key 7 (by omega) h.2.1)
    · split
      · exact if_neg (fun h => key 3 (by omega) h.2.1)
      · rfl
theorem rIm_59 {t : Nat → Nat} {L a : Nat} (nf : Nat → Nat) (s : aB) : rIm 59 t L a nf s = none := by
  unfold rIm; rw [if_neg (by decide), if_neg (by decide), if_neg (by decide)]
theorem rI_59 {c : Nat} (nf : Nat → Nat) (s : aB) : rI 59 c nf s = none := by
  unfold rI; rw [if_neg (by decide), if_neg (by decide), if_neg (by decide)]
/-- the class's reading from p on, its ; at e -/
theorem rP_at {t : Nat → Nat} {L e : Nat} (he : e < L) (hte : t e = 59) (start : Nat) (nf : Nat → Nat) (s : aB) : ∀ d p, e - p = d → p ≤ e → (∀ m, p ≤ m → m < e → t m ≠ 59) → rP t L (L - p) p start nf s = (match rI (t start) (aN t (e - (start + 1)) (start + 1) 0 nf 0 0).1 (aN t (e - (start + 1)) (start + 1) 0 nf 0 0).2 s with
      | none => (some start, s)
      | some s' => rP t L (L - (e + 1)) (e + 1) (e + 1) (aN t (e - (start + 1)) (start + 1) 0 nf 0 0).2 s') := by
  intro d
  induction d with
  | zero =>
    intro p h1 h2 _
    have : p = e := by omega
    subst this
    rw [show L - p = (L - (p + 1)) + 1 by omega]
    simp only [rP]
    rw [if_pos hte]
    rfl
  | succ d ih =>
    intro p h1 h2 h3
    rw [show L - p = (L - (p + 1)) + 1 by omega]
    simp only [rP]
    rw [if_neg (h3 p (by omega) (by omega))]
    exact ih (p + 1) (by omega) (by omega) (fun m a b => h3 m (by omega) b)
theorem rP_no {t : Nat → Nat} {L : Nat} (start : Nat) (nf : Nat → Nat) (s : aB) : ∀ d p, L - p = d → (∀ m, p ≤ m → m < L → t m ≠ 59) → rP t L d p start nf s = (if start < L then some start else none, s) := by
  intro d
  induction d with
  | zero => intro p _ _; rfl
  | succ d ih =>
    intro p h1 h2
    simp only [rP]
    rw [if_neg (h2 p (by omega) (by omega))]
    exact ih (p + 1) (by omega) (fun m a b => h2 m (by omega) b)
theorem first59 (t : Nat → Nat) (L : Nat) : ∀ d a, L - a = d → (∃ e, a ≤ e ∧ e < L ∧ t e = 59 ∧ ∀ m, a ≤ m → m < e → t m ≠ 59) ∨ ∀ m, a ≤ m → m < L → t m ≠ 59 := by
  intro d
  induction d with
  | zero => intro a h; exact Or.inr (fun m h1 h2 => by omega)
  | succ d ih =>
    intro a h
    by_cases h0 : t a = 59
    · exact Or.inl ⟨a, by omega, by omega, h0, fun m a b => by omega⟩
    · rcases ih (a + 1) (by omega) with ⟨e, h1, h2, h3, h4⟩ | h4
      · refine Or.inl ⟨e, by omega, h2, h3, fun m a b => ?_⟩
        rcases Nat.eq_or_lt_of_le a with z | z
        · subst z; exact h0
        · exact h4 m z b
      · refine Or.inr (fun m a b => ?_)
        rcases Nat.eq_or_lt_of_le a with z | z
        · subst z; exact h0
        · exact h4 m z b
theorem read_eq {t : Nat → Nat} {L : Nat} : ∀ d a nf nf' s s', L - a < d → aE s s' → (rP t L (L - a) a a nf s).1 = (rMt t L d a nf' s').1 ∧ aE (rP t L (L - a) a a nf s).2 (rMt t L d a nf' s').2 := by
  intro d
  induction d with
  | zero => intro a nf nf' s s' h; omega
  | succ d ih =>
    intro a nf nf' s s' h hs
    by_cases haL : a < L
    · have hM : rMt t L (d + 1) a nf' s' = (match rIm (t a) t L (a + 1) nf' s' with
        | none => (some a, s')
        | some q => rMt t L d q.1 q.2.1 q.2.2) := by
        show (if a < L then _ else _) = _
        rw [if_pos haL]
        rfl
      rw [hM]
      rcases first59 t L _ a rfl with ⟨e, h1, h2, h3, h4⟩ | h4
      · rw [rP_at h2 h3 a nf s _ a rfl h1 h4]
        rcases Nat.eq_or_lt_of_le h1 with z | z
        · subst z
          rw [h3, rI_59, rIm_59]
          exact ⟨rfl, hs⟩
        · have hi := rI_rIm (kind := t a) h2 h3 (fun m p q => h4 m (by omega) q) z nf nf' hs
          cases hA : rI (t a) (aN t (e - (a + 1)) (a + 1) 0 nf 0 0).1 (aN t (e - (a + 1)) (a + 1) 0 nf 0 0).2 s with
          | none =>
            cases hB : rIm (t a) t L (a + 1) nf' s' with
            | none => exact ⟨rfl, hs⟩
            | some q => rw [hA, hB] at hi; exact absurd hi id
          | some w =>
            cases hB : rIm (t a) t L (a + 1) nf' s' with
            | none => rw [hA, hB] at hi; exact absurd hi id
            | some q =>
              rw [hA, hB] at hi
              obtain ⟨i1, i2⟩ := hi
              have := ih (e + 1) (aN t (e - (a + 1)) (a + 1) 0 nf 0 0).2 q.2.1 w q.2.2 (by omega) i2
              show (rP t L (L - (e + 1)) (e + 1) (e + 1) _ w).1 = (rMt t L d q.1 q.2.1 q.2.2).1 ∧ aE (rP t L (L - (e + 1)) (e + 1) (e + 1) _ w).2 (rMt t L d q.1 q.2.1 q.2.2).2
              rw [i1]
              exact this
      · rw [rP_no a nf s _ a rfl h4, rIm_no (fun m p q => h4 m (by omega) q), if_pos haL]
        exact ⟨rfl, hs⟩
    · have hM : rMt t L (d + 1) a nf' s' = (none, s') := by
        show (if a < L then _ else _) = _
        rw [if_neg haL]
      rw [hM, show L - a = 0 by omega]
      show (if a < L then some a else none) = none ∧ aE s s'
      rw [if_neg haL]
      exact ⟨rfl, hs⟩
section txt
variable {t u : Nat → Nat} {L : Nat}
theorem dgt_E (h : ∀ p, p < L → t p = u p) (p : Nat) : dgt t L p = dgt u L p := by
  unfold dgt
  by_cases hp : p < L
  · rw [h p hp]
  · rw [decide_eq_false (fun z => hp z.1), decide_eq_false (fun z => hp z.1)]
theorem mNa_E (h : ∀ p, p < L → t p = u p) (p : Nat) : mNa t L p = mNa u L p := by
  unfold mNa; rw [dgt_E h]
theorem mNv_E (h : ∀ p, p < L → t p = u p) {p : Nat} (hd : dgt t L p = true) : mNv t L p = mNv u L p := by
  unfold mNv
  have hp := (of_decide_eq_true hd).1
  rw [h p hp]
  by_cases h2 : dgt t L (p + 1) = true
  · rw [← dgt_E h, h2, h (p + 1) (of_decide_eq_true h2).1]
  · rw [← dgt_E h, Bool.eq_false_iff.mpr h2]; rfl
theorem mN_E (h : ∀ p, p < L → t p = u p) : ∀ r k a nf, mN t L r k a nf = mN u L r k a nf := by
  intro r
  induction r with
  | zero => intro k a nf; rfl
  | succ r ih =>
    intro k a nf
    show (if dgt t L a then _ else _) = (if dgt u L a then _ else _)
    by_cases hd : dgt t L a = true
    · have hd' := hd
      rw [dgt_E h] at hd'
      rw [hd, hd', if_pos rfl, if_pos rfl, ← mNa_E h, ← mNv_E h hd]
      have ha : mNa t L a ≤ L := by
        have := (of_decide_eq_true hd).1
        unfold mNa
        split
        · rename_i h2; have h2 := of_decide_eq_true h2; omega
        · omega
      by_cases hz : mNa t L a = L
      · rw [if_neg (fun q => q.1 hz), if_neg (fun q => q.1 hz)]
      · rw [← h (mNa t L a) (by omega), ih]
    · have hd' := hd
      rw [dgt_E h] at hd'
      rw [if_neg hd, if_neg hd']
theorem rIm_E (h : ∀ p, p < L → t p = u p) (kind a : Nat) (nf : Nat → Nat) (s : aB) : rIm kind t L a nf s = rIm kind u L a nf s := by
  unfold rIm
  rw [mN_E h, mN_E h, mN_E h]
theorem rMt_E (h : ∀ p, p < L → t p = u p) : ∀ d a nf s, rMt t L d a nf s = rMt u L d a nf s := by
  intro d
  induction d with
  | zero => intro a nf s; rfl
  | succ d ih =>
    intro a nf s
    simp only [rMt]
    by_cases ha : a < L
    · rw [if_pos ha, if_pos ha, h a ha, rIm_E h]
      cases rIm (u a) u L (a + 1) nf s with
      | none => rfl
      | some q => exact ih _ _ _
    · rw [if_neg ha, if_neg ha]
/-- both texts read from their start -/
theorem read_same (hL : L ≤ 200) (ht : ∀ p, p < L → t p = u p) (nf nf' : Nat → Nat) : (rP t L L 0 0 nf s00).1 = (rMt u L 201 0 nf' s00).1 ∧ aE (rP t L L 0 0 nf s00).2 (rMt u L 201 0 nf' s00).2 := by
  rw [← rMt_E ht]
  exact read_eq 201 0 nf nf' s00 s00 (by omega) (aE_rf _)
end txt
