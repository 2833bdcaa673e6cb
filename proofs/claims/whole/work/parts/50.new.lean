/-! new cells: the env grows by a cell r at the address a, its row is zero -/
def gX (E : gEnv) (r a kd ln : Nat) : gEnv := (fun c => if c = r then a else gAd E c, fun c => if c = r then kd else gSh E c, fun c => if c = r then ln else gLn E c, gBs E, gD E, gC E)
def gZr (M : gMem) (r : Nat) : gMem := (fun c k => if c = r then 0 else M.1 c k, fun c k => if c = r then 0 else M.2 c k)
section gnew
variable {E : gEnv} {M : gMem} {r a kd ln : Nat}
theorem gX_ar : gAd (gX E r a kd ln) r = a := if_pos rfl
theorem gX_ao {c : Nat} (h : c ≠ r) : gAd (gX E r a kd ln) c = gAd E c := if_neg h
theorem gX_sr : gSh (gX E r a kd ln) r = kd := if_pos rfl
theorem gX_so {c : Nat} (h : c ≠ r) : gSh (gX E r a kd ln) c = gSh E c := if_neg h
theorem gX_lr : gLn (gX E r a kd ln) r = ln := if_pos rfl
theorem gX_lo {c : Nat} (h : c ≠ r) : gLn (gX E r a kd ln) c = gLn E c := if_neg h
theorem gX_O {c k : Nat} (hc : c ≠ r) (hcl : M.2 c k ≠ r) : gO (gX E r a kd ln) ((gZr M r).2 c k) = gO E (M.2 c k) := by
  have e : (gZr M r).2 c k = M.2 c k := if_neg hc
  rw [e]
  unfold gO
  rw [gX_ao hcl]
theorem gX_ent {c : Nat} (hc : c ≠ r) (hcl : ∀ c k, M.2 c k ≠ r) : gEnt (gX E r a kd ln) (gZr M r) c = gEnt E M c := by
  have e1 : ∀ k, (gZr M r).1 c k = M.1 c k := fun k => if_neg hc
  have e2 : ∀ k, gVl (gX E r a kd ln) (gZr M r) c k = gVl E M c k := fun k => by
    unfold gVl
    rw [gX_so hc, gX_O hc (hcl c k), e1]
  have e3 : gFs (gX E r a kd ln) (gZr M r) c = gFs E M c := by
    unfold gFs
    exact congrArg (fun f => (List.range 22).map f) (funext e2)
  unfold gEnt
  rw [gX_so hc, gX_lo hc, e3, show (fun j => nI ((gZr M r).1 c j)) = (fun j => nI (M.1 c j)) from funext fun j => by rw [e1], show (fun j => gO (gX E r a kd ln) ((gZr M r).2 c j)) = (fun j => gO E (M.2 c j)) from funext fun j => gX_O hc (hcl c j)]
  rfl
theorem gX_desc {H H' : Heap} (hD : gDesc E M H) (hr : gSh E r = 0) (hcl : ∀ c k, M.2 c k ≠ r) (ha : H.size = a) (ho : ∀ q, q < a → H'[q]? = H[q]?) (hA : gBs E ≤ a) (hb : va_at (gD E) vwCl (a, gEnt (gX E r a kd ln) (gZr M r) r) H') : gDesc (gX E r a kd ln) (gZr M r) H' := by
  obtain ⟨h1, h2, h3⟩ := hD
  have hlt : ∀ c, gSh E c ≠ 0 → gAd E c < a := fun c hc => by rw [← ha]; exact (h3 c hc).lt
  have hne : ∀ c, c ≠ r → gSh (gX E r a kd ln) c ≠ 0 → gSh E c ≠ 0 := fun c hc h => by rw [gX_so hc] at h; exact h
  refine ⟨fun c d hc hd h => ?_, fun c hc => ?_, fun c hc => ?_⟩
  · by_cases hcr : c = r
    · by_cases hdr : d = r
      · rw [hcr, hdr]
      · rw [hcr, gX_ar, gX_ao hdr] at h
        have := hlt d (hne d hdr hd); omega
    · by_cases hdr : d = r
      · rw [hdr, gX_ar, gX_ao hcr] at h
        have := hlt c (hne c hcr hc); omega
      · rw [gX_ao hcr, gX_ao hdr] at h
        exact h1 c d (hne c hcr hc) (hne d hdr hd) h
  · by_cases hcr : c = r
    · rw [hcr, gX_ar]; exact hA
    · rw [gX_ao hcr]; exact h2 c (hne c hcr hc)
  · by_cases hcr : c = r
    · rw [hcr, gX_ar]; exact hb
    · rw [gX_ao hcr, gX_ent hcr hcl]
      have hc2 := hne c hcr hc
      have hP : va_P (gD E) vwCl [(gAd E c, gEnt E M c)] H := fun k q hk => by
        have hz : k < 1 := (List.getElem?_eq_some_iff.mp hk).1
        rw [show k = 0 by omega] at hk
        cases hk
        exact h3 c hc2
      exact (hP.kept (fun k x hx => by
        have hz : k < 1 := (List.getElem?_eq_some_iff.mp hx).1
        rw [show k = 0 by omega] at hx
        cases hx
        exact ho _ (hlt c hc2))) 0 _ rfl
end gnew
