/-! the constructors that make nothing -/
theorem oI_i : Cond.instanceMethod objectInit ∈ gT := gT_in 63 (by decide +kernel) (by decide +kernel)
theorem oI_c : Cond.code objectInit ⟨#[0xb1]⟩ 1 none ∈ gT := gT_in 64 (by decide +kernel) (by decide +kernel)
theorem aC_c : Cond.arrayClass .char ∈ gT := gT_in 75 (by decide +kernel) (by decide +kernel)
theorem aC_i : Cond.arrayClass .int ∈ gT := gT_in 76 (by decide +kernel) (by decide +kernel)
theorem aO_4 : Cond.arrayOver (.object RX4) ∈ gT := gT_in 84 (by decide +kernel) (by decide +kernel)
theorem aO_3 : Cond.arrayOver (.object RX3) ∈ gT := gT_in 86 (by decide +kernel) (by decide +kernel)
theorem aO_1 : Cond.arrayOver (.object RX1) ∈ gT := gT_in 177 (by decide +kernel) (by decide +kernel)
theorem kX4_init (l : Launch) (E : gEnv) (M : gMem) (b : Nat) : gMx l E mX4_init 1 0 0 [.ref b] M (fun E1 u => E1 = E ∧ u = M) := by
  refine gMx_of (mm := mX4_init) [(0, .ref b)] (by decide) (Nat.le_of_ble_eq_true rfl) rfl ?_
  refine g_aload_n (pc := 0) 0 rfl rfl dX4_init_0 ?_
  refine g_oinit (pc := 1) (rest := []) lX4_3 oI_i oI_c ⟨Nat.le_of_ble_eq_true rfl, Nat.le_of_ble_eq_true rfl⟩ (Nat.zero_le _) dX4_init_1 ?_
  exact g_vretX (pc := 4) rfl dX4_init_4 ⟨rfl, rfl⟩ rfl rfl rfl
theorem kX3_init (l : Launch) (E : gEnv) (M : gMem) (b : Nat) : gMx l E mX3_init 1 0 0 [.ref b] M (fun E1 u => E1 = E ∧ u = M) := by
  refine gMx_of (mm := mX3_init) [(0, .ref b)] (by decide) (Nat.le_of_ble_eq_true rfl) rfl ?_
  refine g_aload_n (pc := 0) 0 rfl rfl dX3_init_0 ?_
  refine g_oinit (pc := 1) (rest := []) lX3_1 oI_i oI_c ⟨Nat.le_of_ble_eq_true rfl, Nat.le_of_ble_eq_true rfl⟩ (Nat.zero_le _) dX3_init_1 ?_
  exact g_vretX (pc := 4) rfl dX3_init_4 ⟨rfl, rfl⟩ rfl rfl rfl
theorem kX1_init (l : Launch) (E : gEnv) (M : gMem) (b : Nat) : gMx l E mX1_init 1 0 0 [.ref b] M (fun E1 u => E1 = E ∧ u = M) := by
  refine gMx_of (mm := mX1_init) [(0, .ref b)] (by decide) (Nat.le_of_ble_eq_true rfl) rfl ?_
  refine g_aload_n (pc := 0) 0 rfl rfl dX1_init_0 ?_
  refine g_oinit (pc := 1) (rest := []) lX1_1 oI_i oI_c ⟨Nat.le_of_ble_eq_true rfl, Nat.le_of_ble_eq_true rfl⟩ (Nat.zero_le _) dX1_init_1 ?_
  exact g_vretX (pc := 4) rfl dX1_init_4 ⟨rfl, rfl⟩ rfl rfl rfl
