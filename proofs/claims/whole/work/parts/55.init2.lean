/-! Reader's constructor -/
theorem kX5_init (l : Launch) (E : gEnv) (M : gMem) (h3 : gSh E 3 = 6) (h4 : gSh E 4 = 0) (hm : ∀ c k, M.2 c k ≠ 4) : gMx l E mX5_init 1 1 7 [.ref (gAd E 3)] M (fun E1 u => ∃ a, E1 = gX E 4 a 9 7 ∧ u = gUr (gZr M 4) 3 0 4) := by
  refine gMx_of (mm := mX5_init) [(0, .ref (gAd E 3))] (by decide) (Nat.le_of_ble_eq_true rfl) rfl ?_
  refine g_aload_n (pc := 0) 0 rfl rfl dX5_init_0 ?_
  refine g_oinit (pc := 1) (rest := []) lX5_3 oI_i oI_c ⟨Nat.le_of_ble_eq_true rfl, Nat.le_of_ble_eq_true rfl⟩ (Nat.zero_le _) dX5_init_1 ?_
  refine g_aload_n (pc := 4) 0 rfl rfl dX5_init_4 ?_
  refine g_bipush (pc := 5) (nI 7) (by decide) dX5_init_5 ?_
  refine g_newaI (pc := 7) (n := 7) 4 aC_i (by decide) h4 hm ⟨Nat.le_of_ble_eq_true rfl, Nat.le_of_ble_eq_true rfl⟩ dX5_init_7 (fun a => ?_)
  refine g_st (pc := 9) (st' := [.ref (gAd (gX E 4 a 9 7) 4), .ref (gAd (gX E 4 a 9 7) 3)]) rfl ?_
  refine uX5_9 (pc := 9) (a := 3) (x := 4) rfl rfl (by rw [gX_so (by decide)]; exact h3) (by decide) dX5_init_9 ?_
  exact g_vretX (pc := 12) rfl dX5_init_12 ⟨a, rfl, rfl⟩ rfl rfl rfl
