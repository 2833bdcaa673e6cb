set_option maxRecDepth 100000 in
set_option maxHeartbeats 4000000 in
theorem kX6_has (l : Launch) (E : gEnv) (M : gMem) (s i : Nat) (hs : s < 2147483648) (hi : i < 32) : gMetI l E mX6_has 0 [.int (nI s), .int (nI i)] M (gb (s.testBit i)) := by
  refine gMet_of (mm := mX6_has) (h := 0) (M := M) [(0, .int (nI s)), (1, .int (nI i))] (by decide) (Nat.le_of_ble_eq_true rfl) rfl ?_
  refine g_iload_n (pc := 0) 0 rfl rfl dX6_has_0 ?_
  refine g_iload_n (pc := 1) 1 rfl rfl dX6_has_1 ?_
  refine g_ishrN (pc := 2) (by omega) (by omega) dX6_has_2 ?_
  refine g_iconst (pc := 3) (nI 1) (by decide) dX6_has_3 ?_
  refine g_iand1 (pc := 4) dX6_has_4 ?_
  refine g_ifN_eq (pc := 5) 12 dX6_has_5 (by decide) (by omega) (fun h5 => ?_) (fun h5 => ?_)
  · refine g_iconst (pc := 12) (nI 0) (by decide) dX6_has_12 ?_
    refine g_topi (pc := 13) (x' := gb false) (by decide) ?_
    exact g_zret (pc := 13) rfl dX6_has_13 ⟨congrArg (fun z => some (Value.int (gb z))) (by rw [nx_tb]; simp; omega), rfl⟩
  · refine g_iconst (pc := 8) (nI 1) (by decide) dX6_has_8 ?_
    refine g_goto (pc := 9) 13 dX6_has_9 (by decide) ?_
    refine g_topi (pc := 13) (x' := gb true) (by decide) ?_
    exact g_zret (pc := 13) rfl dX6_has_13 ⟨congrArg (fun z => some (Value.int (gb z))) (by rw [nx_tb]; simp; omega), rfl⟩
