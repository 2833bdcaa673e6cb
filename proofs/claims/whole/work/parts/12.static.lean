set_option maxRecDepth 100000 in
set_option maxHeartbeats 4000000 in
theorem kJ6_bitCount (l : Launch) (E : gEnv) (M : gMem) (n : Nat) (hn : n < 1024) : gMetI l E mJ6_bitCount_0f7a4 0 [.int (nI n)] M (nI (sOnes n)) := by
  refine gMet_of (mm := mJ6_bitCount_0f7a4) (h := 0) (M := M) [(0, .int (nI n))] (by decide) (Nat.le_of_ble_eq_true rfl) rfl ?_
  refine g_iload_n (pc := 0) 0 rfl rfl dJ6_bitCount_0f7a4_0 ?_
  refine g_iload_n (pc := 1) 0 rfl rfl dJ6_bitCount_0f7a4_1 ?_
  refine g_iconst (pc := 2) (nI 1) (by decide) dJ6_bitCount_0f7a4_2 ?_
  refine g_iushr (pc := 3) (us32 (nI n) (nI 1)) rfl dJ6_bitCount_0f7a4_3 ?_
  refine g_ldcw (pc := 4) (1431655765) cJ6_265 dJ6_bitCount_0f7a4_4 ?_
  refine g_iand (pc := 7) dJ6_bitCount_0f7a4_7 ?_
  refine g_isub (pc := 8) dJ6_bitCount_0f7a4_8 ?_
  refine g_nmi (pc := 9) (fun x1 ex1 => ?_)
  refine g_istore_n (pc := 9) rfl [(0, .int x1)] dJ6_bitCount_0f7a4_9 (by decide) rfl rfl ?_
  refine g_iload_n (pc := 10) 0 rfl rfl dJ6_bitCount_0f7a4_10 ?_
  refine g_ldcw (pc := 11) (858993459) cJ6_266 dJ6_bitCount_0f7a4_11 ?_
  refine g_iand (pc := 14) dJ6_bitCount_0f7a4_14 ?_
  refine g_iload_n (pc := 15) 0 rfl rfl dJ6_bitCount_0f7a4_15 ?_
  refine g_iconst (pc := 16) (nI 2) (by decide) dJ6_bitCount_0f7a4_16 ?_
  refine g_iushr (pc := 17) (us32 x1 (nI 2)) rfl dJ6_bitCount_0f7a4_17 ?_
  refine g_ldcw (pc := 18) (858993459) cJ6_266 dJ6_bitCount_0f7a4_18 ?_
  refine g_iand (pc := 21) dJ6_bitCount_0f7a4_21 ?_
  refine g_iadd (pc := 22) dJ6_bitCount_0f7a4_22 ?_
  refine g_nmi (pc := 23) (fun x2 ex2 => ?_)
  refine g_istore_n (pc := 23) rfl [(0, .int x2)] dJ6_bitCount_0f7a4_23 (by decide) rfl rfl ?_
  refine g_iload_n (pc := 24) 0 rfl rfl dJ6_bitCount_0f7a4_24 ?_
  refine g_iload_n (pc := 25) 0 rfl rfl dJ6_bitCount_0f7a4_25 ?_
  refine g_iconst (pc := 26) (nI 4) (by decide) dJ6_bitCount_0f7a4_26 ?_
  refine g_iushr (pc := 27) (us32 x2 (nI 4)) rfl dJ6_bitCount_0f7a4_27 ?_
  refine g_iadd (pc := 28) dJ6_bitCount_0f7a4_28 ?_
  refine g_ldcw (pc := 29) (252645135) cJ6_267 dJ6_bitCount_0f7a4_29 ?_
  refine g_iand (pc := 32) dJ6_bitCount_0f7a4_32 ?_
  refine g_nmi (pc := 33) (fun x3 ex3 => ?_)
  refine g_istore_n (pc := 33) rfl [(0, .int x3)] dJ6_bitCount_0f7a4_33 (by decide) rfl rfl ?_
  refine g_iload_n (pc := 34) 0 rfl rfl dJ6_bitCount_0f7a4_34 ?_
  refine g_iload_n (pc := 35) 0 rfl rfl dJ6_bitCount_0f7a4_35 ?_
  refine g_bipush (pc := 36) (nI 8) (by decide) dJ6_bitCount_0f7a4_36 ?_
  refine g_iushr (pc := 38) (us32 x3 (nI 8)) rfl dJ6_bitCount_0f7a4_38 ?_
  refine g_iadd (pc := 39) dJ6_bitCount_0f7a4_39 ?_
  refine g_nmi (pc := 40) (fun x4 ex4 => ?_)
  refine g_istore_n (pc := 40) rfl [(0, .int x4)] dJ6_bitCount_0f7a4_40 (by decide) rfl rfl ?_
  refine g_iload_n (pc := 41) 0 rfl rfl dJ6_bitCount_0f7a4_41 ?_
  refine g_iload_n (pc := 42) 0 rfl rfl dJ6_bitCount_0f7a4_42 ?_
  refine g_bipush (pc := 43) (nI 16) (by decide) dJ6_bitCount_0f7a4_43 ?_
  refine g_iushr (pc := 45) (us32 x4 (nI 16)) rfl dJ6_bitCount_0f7a4_45 ?_
  refine g_iadd (pc := 46) dJ6_bitCount_0f7a4_46 ?_
  refine g_nmi (pc := 47) (fun x5 ex5 => ?_)
  refine g_istore_n (pc := 47) rfl [(0, .int x5)] dJ6_bitCount_0f7a4_47 (by decide) rfl rfl ?_
  refine g_iload_n (pc := 48) 0 rfl rfl dJ6_bitCount_0f7a4_48 ?_
  refine g_bipush (pc := 49) (nI 63) (by decide) dJ6_bitCount_0f7a4_49 ?_
  refine g_iand (pc := 51) dJ6_bitCount_0f7a4_51 ?_
  exact g_iret (pc := 52) rfl dJ6_bitCount_0f7a4_52 ⟨congrArg (fun z => some (Value.int z)) (by rw [← bc32 n hn, ex5, ex4, ex3, ex2, ex1]; rfl), rfl⟩
set_option maxRecDepth 100000 in
set_option maxHeartbeats 4000000 in
theorem kJ13_bitCount (l : Launch) (E : gEnv) (M : gMem) (n : Nat) (hn : n < 4503599627370496) : gMetI l E mJ13_bitCount_95d88 0 [.long (lN n)] M (nI (sPop n)) := by
  refine gMet_of (mm := mJ13_bitCount_95d88) (h := 0) (M := M) [(0, .long (lN n))] (by decide) (Nat.le_of_ble_eq_true rfl) rfl ?_
  refine g_lload_n (pc := 0) 0 rfl rfl dJ13_bitCount_95d88_0 ?_
  refine g_lload_n (pc := 1) 0 rfl rfl dJ13_bitCount_95d88_1 ?_
  refine g_iconst (pc := 2) (nI 1) (by decide) dJ13_bitCount_95d88_2 ?_
  refine g_lushr (pc := 3) (us64 ((lN n)) (nI 1)) rfl dJ13_bitCount_95d88_3 ?_
  refine g_ldc2 (pc := 4) (6148914691236517205) cJ13_314 dJ13_bitCount_95d88_4 ?_
  refine g_land (pc := 7) dJ13_bitCount_95d88_7 ?_
  refine g_lsub (pc := 8) dJ13_bitCount_95d88_8 ?_
  refine g_nml (pc := 9) (fun x1 ex1 => ?_)
  refine g_lstore_n (pc := 9) rfl [(0, .long x1)] dJ13_bitCount_95d88_9 (by decide) rfl rfl ?_
  refine g_lload_n (pc := 10) 0 rfl rfl dJ13_bitCount_95d88_10 ?_
  refine g_ldc2 (pc := 11) (3689348814741910323) cJ13_316 dJ13_bitCount_95d88_11 ?_
  refine g_land (pc := 14) dJ13_bitCount_95d88_14 ?_
  refine g_lload_n (pc := 15) 0 rfl rfl dJ13_bitCount_95d88_15 ?_
  refine g_iconst (pc := 16) (nI 2) (by decide) dJ13_bitCount_95d88_16 ?_
  refine g_lushr (pc := 17) (us64 x1 (nI 2)) rfl dJ13_bitCount_95d88_17 ?_
  refine g_ldc2 (pc := 18) (3689348814741910323) cJ13_316 dJ13_bitCount_95d88_18 ?_
  refine g_land (pc := 21) dJ13_bitCount_95d88_21 ?_
  refine g_ladd (pc := 22) dJ13_bitCount_95d88_22 ?_
  refine g_nml (pc := 23) (fun x2 ex2 => ?_)
  refine g_lstore_n (pc := 23) rfl [(0, .long x2)] dJ13_bitCount_95d88_23 (by decide) rfl rfl ?_
  refine g_lload_n (pc := 24) 0 rfl rfl dJ13_bitCount_95d88_24 ?_
  refine g_lload_n (pc := 25) 0 rfl rfl dJ13_bitCount_95d88_25 ?_
  refine g_iconst (pc := 26) (nI 4) (by decide) dJ13_bitCount_95d88_26 ?_
  refine g_lushr (pc := 27) (us64 x2 (nI 4)) rfl dJ13_bitCount_95d88_27 ?_
  refine g_ladd (pc := 28) dJ13_bitCount_95d88_28 ?_
  refine g_ldc2 (pc := 29) (1085102592571150095) cJ13_318 dJ13_bitCount_95d88_29 ?_
  refine g_land (pc := 32) dJ13_bitCount_95d88_32 ?_
  refine g_nml (pc := 33) (fun x3 ex3 => ?_)
  refine g_lstore_n (pc := 33) rfl [(0, .long x3)] dJ13_bitCount_95d88_33 (by decide) rfl rfl ?_
  refine g_lload_n (pc := 34) 0 rfl rfl dJ13_bitCount_95d88_34 ?_
  refine g_lload_n (pc := 35) 0 rfl rfl dJ13_bitCount_95d88_35 ?_
  refine g_bipush (pc := 36) (nI 8) (by decide) dJ13_bitCount_95d88_36 ?_
  refine g_lushr (pc := 38) (us64 x3 (nI 8)) rfl dJ13_bitCount_95d88_38 ?_
  refine g_ladd (pc := 39) dJ13_bitCount_95d88_39 ?_
  refine g_nml (pc := 40) (fun x4 ex4 => ?_)
  refine g_lstore_n (pc := 40) rfl [(0, .long x4)] dJ13_bitCount_95d88_40 (by decide) rfl rfl ?_
  refine g_lload_n (pc := 41) 0 rfl rfl dJ13_bitCount_95d88_41 ?_
  refine g_lload_n (pc := 42) 0 rfl rfl dJ13_bitCount_95d88_42 ?_
  refine g_bipush (pc := 43) (nI 16) (by decide) dJ13_bitCount_95d88_43 ?_
  refine g_lushr (pc := 45) (us64 x4 (nI 16)) rfl dJ13_bitCount_95d88_45 ?_
  refine g_ladd (pc := 46) dJ13_bitCount_95d88_46 ?_
  refine g_nml (pc := 47) (fun x5 ex5 => ?_)
  refine g_lstore_n (pc := 47) rfl [(0, .long x5)] dJ13_bitCount_95d88_47 (by decide) rfl rfl ?_
  refine g_lload_n (pc := 48) 0 rfl rfl dJ13_bitCount_95d88_48 ?_
  refine g_lload_n (pc := 49) 0 rfl rfl dJ13_bitCount_95d88_49 ?_
  refine g_bipush (pc := 50) (nI 32) (by decide) dJ13_bitCount_95d88_50 ?_
  refine g_lushr (pc := 52) (us64 x5 (nI 32)) rfl dJ13_bitCount_95d88_52 ?_
  refine g_ladd (pc := 53) dJ13_bitCount_95d88_53 ?_
  refine g_nml (pc := 54) (fun x6 ex6 => ?_)
  refine g_lstore_n (pc := 54) rfl [(0, .long x6)] dJ13_bitCount_95d88_54 (by decide) rfl rfl ?_
  refine g_lload_n (pc := 55) 0 rfl rfl dJ13_bitCount_95d88_55 ?_
  refine g_l2i (pc := 56) (x6.toInt32) rfl dJ13_bitCount_95d88_56 ?_
  refine g_bipush (pc := 57) (nI 127) (by decide) dJ13_bitCount_95d88_57 ?_
  refine g_iand (pc := 59) dJ13_bitCount_95d88_59 ?_
  exact g_iret (pc := 60) rfl dJ13_bitCount_95d88_60 ⟨congrArg (fun z => some (Value.int z)) (by rw [← bc64 n hn, ex6, ex5, ex4, ex3, ex2, ex1]; rfl), rfl⟩
theorem i32_nn {x : Int32} (h : ¬ x < 0) : 0 ≤ x.toInt := by
  have q := mt Int32.lt_iff_toInt_lt.mpr h
  rw [show (0 : Int32).toInt = 0 from rfl] at q
  omega
theorem i32_lt {x : Int32} {n : Nat} (hn : n < 2147483648) (h : ¬ nI n ≤ x) : x.toInt < n := by
  have q := mt Int32.le_iff_toInt_le.mpr h
  rw [nI_toInt (by omega)] at q
  omega
theorem h1n {x : Int32} (h : x < 0) (h2 : 0 ≤ x.toInt) : False := by
  have q := Int32.lt_iff_toInt_lt.mp h
  rw [show (0 : Int32).toInt = 0 from rfl] at q
  omega
theorem h6n {x : Int32} {n : Nat} (hn : n < 2147483648) (h : nI n ≤ x) (h2 : x.toInt < n) : False := by
  have q := Int32.le_iff_toInt_le.mp h
  rw [nI_toInt (by omega)] at q
  omega
def inR (x : Int32) (n : Nat) : Bool := decide (0 ≤ x.toInt ∧ x.toInt < n)
theorem inR_of {x : Int32} {n : Nat} (h : inR x n = true) : ∃ j, j < n ∧ x = nI j := by
  have h := of_decide_eq_true h
  refine ⟨x.toInt.toNat, by omega, ?_⟩
  apply Int32.toInt_inj.mp
  have := x.toInt_lt
  rw [nI_toInt (by omega)]
  omega
theorem inR_nI {j n : Nat} (hj : j < 2147483648) : inR (nI j) n = decide (j < n) := by
  unfold inR
  rw [nI_toInt (by omega)]
  simp
set_option maxRecDepth 100000 in
set_option maxHeartbeats 4000000 in
theorem kX6_isBelow (l : Launch) (E : gEnv) (M : gMem) (x : Int32) (n : Nat) (hn : n < 2147483648) : gMetI l E mX6_isBelow 0 [.int x, .int (nI n)] M (gb (inR x n)) := by
  refine gMet_of (mm := mX6_isBelow) (h := 0) (M := M) [(0, .int x), (1, .int (nI n))] (by decide) (Nat.le_of_ble_eq_true rfl) rfl ?_
  refine g_iload_n (pc := 0) 0 rfl rfl dX6_isBelow_0 ?_
  refine g_if_lt (pc := 1) 13 dX6_isBelow_1 (by decide) (fun h1 => ?_) (fun h1 => ?_)
  · refine g_iconst (pc := 13) (nI 0) (by decide) dX6_isBelow_13 ?_
    refine g_topi (pc := 14) (x' := gb false) (by decide) ?_
    exact g_zret (pc := 14) rfl dX6_isBelow_14 ⟨congrArg (fun z => some (Value.int (gb z))) (bf_of (by intro hh; have hh := of_decide_eq_true hh; exact h1n h1 hh.1)), rfl⟩
  · refine g_iload_n (pc := 4) 0 rfl rfl dX6_isBelow_4 ?_
    refine g_iload_n (pc := 5) 1 rfl rfl dX6_isBelow_5 ?_
    refine g_icmp_ge (pc := 6) 13 dX6_isBelow_6 (by decide) (fun h6 => ?_) (fun h6 => ?_)
    · refine g_iconst (pc := 13) (nI 0) (by decide) dX6_isBelow_13 ?_
      refine g_topi (pc := 14) (x' := gb false) (by decide) ?_
      exact g_zret (pc := 14) rfl dX6_isBelow_14 ⟨congrArg (fun z => some (Value.int (gb z))) (bf_of (by intro hh; have hh := of_decide_eq_true hh; exact h6n (by omega) h6 hh.2)), rfl⟩
    · refine g_iconst (pc := 9) (nI 1) (by decide) dX6_isBelow_9 ?_
      refine g_goto (pc := 10) 14 dX6_isBelow_10 (by decide) ?_
      refine g_topi (pc := 14) (x' := gb true) (by decide) ?_
      exact g_zret (pc := 14) rfl dX6_isBelow_14 ⟨congrArg (fun z => some (Value.int (gb z))) (bt_of (by exact decide_eq_true ⟨i32_nn h1, i32_lt (by omega) h6⟩)), rfl⟩
set_option maxRecDepth 100000 in
set_option maxHeartbeats 4000000 in
theorem kX6_isCell (l : Launch) (E : gEnv) (M : gMem) (x y z : Int32) : gMetI l E mX6_isCell 1 [.int x, .int y, .int z] M (gb (inR x 6 && inR y 4 && inR z 4)) := by
  refine gMet_of (mm := mX6_isCell) (h := 1) (M := M) [(0, .int x), (1, .int y), (2, .int z)] (by decide) (Nat.le_of_ble_eq_true rfl) rfl ?_
  refine g_iload_n (pc := 0) 0 rfl rfl dX6_isCell_0 ?_
  refine g_bipush (pc := 1) (nI 6) (by decide) dX6_isCell_1 ?_
  refine g_callS (pc := 3) (mc := mX6_isBelow) (rest := []) lX6_159 iX6_isBelow (kX6_isBelow l E M (x) 6 (by omega)) ⟨Nat.le_of_ble_eq_true rfl, Nat.le_of_ble_eq_true rfl⟩ rfl rfl (Nat.le_of_ble_eq_true rfl) ⟨Nat.zero_le _, Nat.zero_le _⟩ dX6_isCell_3 (g_rI ?_)
  refine g_ifB_eq (pc := 6) 29 dX6_isCell_6 (by decide) (fun h6 => ?_) (fun h6 => ?_)
  · refine g_iconst (pc := 29) (nI 0) (by decide) dX6_isCell_29 ?_
    refine g_topi (pc := 30) (x' := gb false) (by decide) ?_
    exact g_zret (pc := 30) rfl dX6_isCell_30 ⟨congrArg (fun z => some (Value.int (gb z))) (by rw [h6]; simp), rfl⟩
  · refine g_iload_n (pc := 9) 1 rfl rfl dX6_isCell_9 ?_
    refine g_iconst (pc := 10) (nI 4) (by decide) dX6_isCell_10 ?_
    refine g_callS (pc := 11) (mc := mX6_isBelow) (rest := []) lX6_159 iX6_isBelow (kX6_isBelow l E M (y) 4 (by omega)) ⟨Nat.le_of_ble_eq_true rfl, Nat.le_of_ble_eq_true rfl⟩ rfl rfl (Nat.le_of_ble_eq_true rfl) ⟨Nat.zero_le _, Nat.zero_le _⟩ dX6_isCell_11 (g_rI ?_)
    refine g_ifB_eq (pc := 14) 29 dX6_isCell_14 (by decide) (fun h14 => ?_) (fun h14 => ?_)
    · refine g_iconst (pc := 29) (nI 0) (by decide) dX6_isCell_29 ?_
      refine g_topi (pc := 30) (x' := gb false) (by decide) ?_
      exact g_zret (pc := 30) rfl dX6_isCell_30 ⟨congrArg (fun z => some (Value.int (gb z))) (by rw [h6, h14]; simp), rfl⟩
    · refine g_iload_n (pc := 17) 2 rfl rfl dX6_isCell_17 ?_
      refine g_iconst (pc := 18) (nI 4) (by decide) dX6_isCell_18 ?_
      refine g_callS (pc := 19) (mc := mX6_isBelow) (rest := []) lX6_159 iX6_isBelow (kX6_isBelow l E M (z) 4 (by omega)) ⟨Nat.le_of_ble_eq_true rfl, Nat.le_of_ble_eq_true rfl⟩ rfl rfl (Nat.le_of_ble_eq_true rfl) ⟨Nat.zero_le _, Nat.zero_le _⟩ dX6_isCell_19 (g_rI ?_)
      refine g_ifB_eq (pc := 22) 29 dX6_isCell_22 (by decide) (fun h22 => ?_) (fun h22 => ?_)
      · refine g_iconst (pc := 29) (nI 0) (by decide) dX6_isCell_29 ?_
        refine g_topi (pc := 30) (x' := gb false) (by decide) ?_
        exact g_zret (pc := 30) rfl dX6_isCell_30 ⟨congrArg (fun z => some (Value.int (gb z))) (by rw [h6, h14, h22]; simp), rfl⟩
      · refine g_iconst (pc := 25) (nI 1) (by decide) dX6_isCell_25 ?_
        refine g_goto (pc := 26) 30 dX6_isCell_26 (by decide) ?_
        refine g_topi (pc := 30) (x' := gb true) (by decide) ?_
        exact g_zret (pc := 30) rfl dX6_isCell_30 ⟨congrArg (fun z => some (Value.int (gb z))) (by rw [h6, h14, h22]; simp), rfl⟩
set_option maxRecDepth 100000 in
set_option maxHeartbeats 4000000 in
theorem kX6_cellOf (l : Launch) (E : gEnv) (M : gMem) (x y z : Nat) : gMetI l E mX6_cellOf 0 [.int (nI x), .int (nI y), .int (nI z)] M (nI (16 * x + 4 * y + z)) := by
  refine gMet_of (mm := mX6_cellOf) (h := 0) (M := M) [(0, .int (nI x)), (1, .int (nI y)), (2, .int (nI z))] (by decide) (Nat.le_of_ble_eq_true rfl) rfl ?_
  refine g_iload_n (pc := 0) 0 rfl rfl dX6_cellOf_0 ?_
  refine g_iconst (pc := 1) (nI 4) (by decide) dX6_cellOf_1 ?_
  refine g_imulN (pc := 2) dX6_cellOf_2 ?_
  refine g_iload_n (pc := 3) 1 rfl rfl dX6_cellOf_3 ?_
  refine g_iaddN (pc := 4) dX6_cellOf_4 ?_
  refine g_iconst (pc := 5) (nI 4) (by decide) dX6_cellOf_5 ?_
  refine g_imulN (pc := 6) dX6_cellOf_6 ?_
  refine g_iload_n (pc := 7) 2 rfl rfl dX6_cellOf_7 ?_
  refine g_iaddN (pc := 8) dX6_cellOf_8 ?_
  exact g_iret (pc := 9) rfl dX6_cellOf_9 ⟨congrArg (fun z => some (Value.int z)) (by congr 1; omega), rfl⟩
set_option maxRecDepth 100000 in
set_option maxHeartbeats 4000000 in
theorem kX6_landOf (l : Launch) (E : gEnv) (M : gMem) (x : Nat) (hx : x < 2147483648) : gMetI l E mX6_landOf 0 [.int (nI x)] M (nI (x / 16)) := by
  refine gMet_of (mm := mX6_landOf) (h := 0) (M := M) [(0, .int (nI x))] (by decide) (Nat.le_of_ble_eq_true rfl) rfl ?_
  refine g_iload_n (pc := 0) 0 rfl rfl dX6_landOf_0 ?_
  refine g_bipush (pc := 1) (nI 16) (by decide) dX6_landOf_1 ?_
  refine g_idivN (pc := 3) (by omega) (by omega) (by omega) dX6_landOf_3 ?_
  exact g_iret (pc := 4) rfl dX6_landOf_4 ⟨rfl, rfl⟩
set_option maxRecDepth 100000 in
set_option maxHeartbeats 4000000 in
theorem kX6_tongueOf (l : Launch) (E : gEnv) (M : gMem) (x : Nat) (hx : x < 2147483648) : gMetI l E mX6_tongueOf 0 [.int (nI x)] M (nI (x / 4 % 4)) := by
  refine gMet_of (mm := mX6_tongueOf) (h := 0) (M := M) [(0, .int (nI x))] (by decide) (Nat.le_of_ble_eq_true rfl) rfl ?_
  refine g_iload_n (pc := 0) 0 rfl rfl dX6_tongueOf_0 ?_
  refine g_iconst (pc := 1) (nI 4) (by decide) dX6_tongueOf_1 ?_
  refine g_idivN (pc := 2) (by omega) (by omega) (by omega) dX6_tongueOf_2 ?_
  refine g_iconst (pc := 3) (nI 4) (by decide) dX6_tongueOf_3 ?_
  refine g_iremN (pc := 4) (by omega) (by omega) (by omega) dX6_tongueOf_4 ?_
  exact g_iret (pc := 5) rfl dX6_tongueOf_5 ⟨rfl, rfl⟩
set_option maxRecDepth 100000 in
set_option maxHeartbeats 4000000 in
theorem kX6_meansOf (l : Launch) (E : gEnv) (M : gMem) (x : Nat) (hx : x < 2147483648) : gMetI l E mX6_meansOf 0 [.int (nI x)] M (nI (x % 4)) := by
  refine gMet_of (mm := mX6_meansOf) (h := 0) (M := M) [(0, .int (nI x))] (by decide) (Nat.le_of_ble_eq_true rfl) rfl ?_
  refine g_iload_n (pc := 0) 0 rfl rfl dX6_meansOf_0 ?_
  refine g_iconst (pc := 1) (nI 4) (by decide) dX6_meansOf_1 ?_
  refine g_iremN (pc := 2) (by omega) (by omega) (by omega) dX6_meansOf_2 ?_
  exact g_iret (pc := 3) rfl dX6_meansOf_3 ⟨rfl, rfl⟩
set_option maxRecDepth 100000 in
set_option maxHeartbeats 4000000 in
theorem kX6_isSetBelow (l : Launch) (E : gEnv) (M : gMem) (x n : Nat) (hx : x < 2147483648) (hn : n < 31) : gMetI l E mX6_isSetBelow 0 [.int (nI x), .int (nI n)] M (gb (decide (1 ≤ x ∧ x < 2 ^ n))) := by
  refine gMet_of (mm := mX6_isSetBelow) (h := 0) (M := M) [(0, .int (nI x)), (1, .int (nI n))] (by decide) (Nat.le_of_ble_eq_true rfl) rfl ?_
  refine g_iload_n (pc := 0) 0 rfl rfl dX6_isSetBelow_0 ?_
  refine g_iconst (pc := 1) (nI 1) (by decide) dX6_isSetBelow_1 ?_
  refine g_icmpN_lt (pc := 2) 16 dX6_isSetBelow_2 (by decide) (by omega) (by omega) (fun h2 => ?_) (fun h2 => ?_)
  · refine g_iconst (pc := 16) (nI 0) (by decide) dX6_isSetBelow_16 ?_
    refine g_topi (pc := 17) (x' := gb false) (by decide) ?_
    exact g_zret (pc := 17) rfl dX6_isSetBelow_17 ⟨congrArg (fun z => some (Value.int (gb z))) (bf_of (by intro hh; have hh := of_decide_eq_true hh; omega)), rfl⟩
  · refine g_iload_n (pc := 5) 0 rfl rfl dX6_isSetBelow_5 ?_
    refine g_iconst (pc := 6) (nI 1) (by decide) dX6_isSetBelow_6 ?_
    refine g_iload_n (pc := 7) 1 rfl rfl dX6_isSetBelow_7 ?_
    refine g_ishl1 (pc := 8) (by omega) dX6_isSetBelow_8 ?_
    refine g_icmpN_ge (pc := 9) 16 dX6_isSetBelow_9 (by decide) (by omega) (by have := Nat.pow_lt_pow_right (a := 2) (by decide) hn; omega) (fun h9 => ?_) (fun h9 => ?_)
    · refine g_iconst (pc := 16) (nI 0) (by decide) dX6_isSetBelow_16 ?_
      refine g_topi (pc := 17) (x' := gb false) (by decide) ?_
      exact g_zret (pc := 17) rfl dX6_isSetBelow_17 ⟨congrArg (fun z => some (Value.int (gb z))) (bf_of (by intro hh; have hh := of_decide_eq_true hh; omega)), rfl⟩
    · refine g_iconst (pc := 12) (nI 1) (by decide) dX6_isSetBelow_12 ?_
      refine g_goto (pc := 13) 17 dX6_isSetBelow_13 (by decide) ?_
      refine g_topi (pc := 17) (x' := gb true) (by decide) ?_
      exact g_zret (pc := 17) rfl dX6_isSetBelow_17 ⟨congrArg (fun z => some (Value.int (gb z))) (bt_of (by exact decide_eq_true ⟨by omega, h9⟩)), rfl⟩
set_option maxRecDepth 100000 in
set_option maxHeartbeats 4000000 in
theorem kX6_hasWeek (l : Launch) (E : gEnv) (M : gMem) (x i : Nat) (hx : x < 4611686018427387904) (hi : i < 64) : gMetI l E mX6_hasWeek 0 [.long (lN x), .int (nI i)] M (gb (x.testBit i)) := by
  refine gMet_of (mm := mX6_hasWeek) (h := 0) (M := M) [(0, .long (lN x)), (2, .int (nI i))] (by decide) (Nat.le_of_ble_eq_true rfl) rfl ?_
  refine g_lload_n (pc := 0) 0 rfl rfl dX6_hasWeek_0 ?_
  refine g_iload_n (pc := 1) 1 rfl rfl dX6_hasWeek_1 ?_
  refine g_lshr (pc := 2) (lN (x / 2 ^ i)) (wl_shr hx (by omega)) dX6_hasWeek_2 ?_
  refine g_lconst (pc := 3) (lN 1) (by decide) dX6_hasWeek_3 ?_
  refine g_land (pc := 4) dX6_hasWeek_4 ?_
  refine g_topl (pc := 5) (x' := lN (x / 2 ^ i % 2)) (wb_a1 (Nat.lt_of_le_of_lt (Nat.div_le_self _ _) (by omega))) ?_
  refine g_lconst (pc := 5) (lN 0) (by decide) dX6_hasWeek_5 ?_
  refine g_lcmp (pc := 6) dX6_hasWeek_6 ?_
  refine g_topi (pc := 7) (x' := nI (x / 2 ^ i % 2)) (lg_cmp_b (by omega)) ?_
  refine g_ifN_eq (pc := 7) 14 dX6_hasWeek_7 (by decide) (by omega) (fun h7 => ?_) (fun h7 => ?_)
  · refine g_iconst (pc := 14) (nI 0) (by decide) dX6_hasWeek_14 ?_
    refine g_topi (pc := 15) (x' := gb false) (by decide) ?_
    exact g_zret (pc := 15) rfl dX6_hasWeek_15 ⟨congrArg (fun z => some (Value.int (gb z))) (by rw [nx_tb]; simp; omega), rfl⟩
  · refine g_iconst (pc := 10) (nI 1) (by decide) dX6_hasWeek_10 ?_
    refine g_goto (pc := 11) 15 dX6_hasWeek_11 (by decide) ?_
    refine g_topi (pc := 15) (x' := gb true) (by decide) ?_
    exact g_zret (pc := 15) rfl dX6_hasWeek_15 ⟨congrArg (fun z => some (Value.int (gb z))) (by rw [nx_tb]; simp; omega), rfl⟩
set_option maxRecDepth 100000 in
set_option maxHeartbeats 4000000 in
theorem kX6_weeksFromTo (l : Launch) (E : gEnv) (M : gMem) (f t : Nat) (hf : f ≤ t) (ht : t ≤ 51) : gMetL l E mX6_weeksFromTo 0 [.int (nI f), .int (nI t)] M (lN (sMask f t)) := by
  refine gMet_of (mm := mX6_weeksFromTo) (h := 0) (M := M) [(0, .int (nI f)), (1, .int (nI t))] (by decide) (Nat.le_of_ble_eq_true rfl) rfl ?_
  refine g_lconst (pc := 0) (lN 1) (by decide) dX6_weeksFromTo_0 ?_
  refine g_iload_n (pc := 1) 1 rfl rfl dX6_weeksFromTo_1 ?_
  refine g_iconst (pc := 2) (nI 1) (by decide) dX6_weeksFromTo_2 ?_
  refine g_iaddN (pc := 3) dX6_weeksFromTo_3 ?_
  refine g_lshl (pc := 4) (lN (1 * 2 ^ (t + 1))) (wb_shl 1 (by omega)) dX6_weeksFromTo_4 ?_
  refine g_lconst (pc := 5) (lN 1) (by decide) dX6_weeksFromTo_5 ?_
  refine g_iload_n (pc := 6) 0 rfl rfl dX6_weeksFromTo_6 ?_
  refine g_lshl (pc := 7) (lN (1 * 2 ^ f)) (wb_shl 1 (by omega)) dX6_weeksFromTo_7 ?_
  refine g_lsub (pc := 8) dX6_weeksFromTo_8 ?_
  exact g_lret (pc := 9) rfl dX6_weeksFromTo_9 ⟨congrArg (fun z => some (Value.long z)) (by rw [Nat.one_mul, Nat.one_mul, lN_sub (Nat.pow_le_pow_right (by decide) (by omega))]; rfl), rfl⟩
set_option maxRecDepth 100000 in
set_option maxHeartbeats 4000000 in
theorem kX6_windowStarts (l : Launch) (E : gEnv) (M : gMem) (x : Nat) (hx : x < 4503599627370496) : gMetL l E mX6_windowStarts 0 [.long (lN x)] M (lN (sWs x)) := by
  refine gMet_of (mm := mX6_windowStarts) (h := 0) (M := M) [(0, .long (lN x))] (by decide) (Nat.le_of_ble_eq_true rfl) rfl ?_
  refine g_lload_n (pc := 0) 0 rfl rfl dX6_windowStarts_0 ?_
  refine g_lload_n (pc := 1) 0 rfl rfl dX6_windowStarts_1 ?_
  refine g_iconst (pc := 2) (nI 1) (by decide) dX6_windowStarts_2 ?_
  refine g_lshl (pc := 3) (lN (x * 2 ^ 1)) (wb_shl x (by omega)) dX6_windowStarts_3 ?_
  refine g_ldc2 (pc := 4) (-1) cX6_239 dX6_windowStarts_4 ?_
  refine g_lxor (pc := 7) dX6_windowStarts_7 ?_
  refine g_topl (pc := 8) (x' := lN (18446744073709551616 - (x * 2 ^ 1 + 1))) (wl_not (by omega)) ?_
  refine g_land (pc := 8) dX6_windowStarts_8 ?_
  exact g_lret (pc := 9) rfl dX6_windowStarts_9 ⟨congrArg (fun z => some (Value.long z)) (by rw [wb_and (by omega) (by omega)]; rfl), rfl⟩
set_option maxRecDepth 100000 in
set_option maxHeartbeats 4000000 in
theorem kX6_kthWeek (l : Launch) (E : gEnv) (M : gMem) (x k : Nat) (hx : x < 4611686018427387904) (hk : k < 2147483648) : gMetI l E mX6_kthWeek 1 [.long (lN x), .int (nI k)] M (oN (sKth x k)) := by
  refine gMet_of (mm := mX6_kthWeek) (h := 1) (M := M) [(0, .long (lN x)), (2, .int (nI k))] (by decide) (Nat.le_of_ble_eq_true rfl) rfl ?_
  refine g_iconst (pc := 0) (nI 0) (by decide) dX6_kthWeek_0 ?_
  refine g_istore_n (pc := 1) rfl [(0, .long (lN x)), (2, .int (nI k)), (3, .int (nI 0))] dX6_kthWeek_1 (by decide) rfl rfl ?_
  refine g_iconst (pc := 2) (nI 0) (by decide) dX6_kthWeek_2 ?_
  refine g_istore (pc := 3) [(0, .long (lN x)), (2, .int (nI k)), (3, .int (nI 0)), (4, .int (nI 0))] dX6_kthWeek_3 (by decide) rfl rfl ?_
  have lp5 : ∀ w, w ≤ 52 → (sFr (fun w => x.testBit w && sCnt x w == k) 0 52 = sFr (fun w => x.testBit w && sCnt x w == k) w (52 - w)) → gG l (gV0 1 E (fun v u => v = some (.int (oN (sKth x k))) ∧ u = M)) mX6_kthWeek E (0, 0) M 5 [(0, .long (lN x)), (2, .int (nI k)), (3, .int (nI (sCnt x w))), (4, .int (nI w))] [] := by
    refine gloop (fun w hiw ihw => ?_)
    intro he
    refine g_iload (pc := 5) 3 rfl dX6_kthWeek_5 ?_
    refine g_bipush (pc := 7) (nI 51) (by decide) dX6_kthWeek_7 ?_
    refine g_icmpN_gt (pc := 9) 38 dX6_kthWeek_9 (by decide) (by omega) (by omega) (fun h9 => ?_) (fun h9 => ?_)
    · refine g_bipush (pc := 38) ((-4)) (by decide) dX6_kthWeek_38 ?_
      exact g_iret (pc := 40) rfl dX6_kthWeek_40 ⟨congrArg (fun z => some (Value.int z)) (by rw [sKth, he, show 52 - w = 0 by omega]; rfl), rfl⟩
    · have hcl := sCnt_le x w
      refine g_lload_n (pc := 12) 0 rfl rfl dX6_kthWeek_12 ?_
      refine g_iload (pc := 13) 3 rfl dX6_kthWeek_13 ?_
      refine g_callS (pc := 15) (mc := mX6_hasWeek) (rest := []) lX6_197 iX6_hasWeek (kX6_hasWeek l E M x w (by omega) (by omega)) ⟨Nat.le_of_ble_eq_true rfl, Nat.le_of_ble_eq_true rfl⟩ rfl rfl (Nat.le_of_ble_eq_true rfl) ⟨Nat.zero_le _, Nat.zero_le _⟩ dX6_kthWeek_15 (g_rI ?_)
      refine g_ifB_eq (pc := 18) 32 dX6_kthWeek_18 (by decide) (fun h18 => ?_) (fun h18 => ?_)
      · refine g_iincN (pc := 32) 1 3 [(0, .long (lN x)), (2, .int (nI k)), (3, .int (nI (sCnt x w))), (4, .int (nI (w + 1)))] rfl dX6_kthWeek_32 (by decide) rfl rfl ?_
        refine g_goto (pc := 35) 5 dX6_kthWeek_35 (by decide) ?_
        refine g_lv (pc := 5) (lv' := [(0, .long (lN x)), (2, .int (nI k)), (3, .int (nI (sCnt x (w + 1)))), (4, .int (nI (w + 1)))]) (by rw [show sCnt x (w + 1) = sCnt x w + (if x.testBit w then 1 else 0) from rfl, h18]; rfl) ?_
        exact ihw (by omega) (by rw [he, sFr_step (by omega), if_neg]; simp [h18])
      · refine g_iload_n (pc := 21) 2 rfl rfl dX6_kthWeek_21 ?_
        refine g_iload_n (pc := 22) 1 rfl rfl dX6_kthWeek_22 ?_
        refine g_icmpN_ne (pc := 23) 29 dX6_kthWeek_23 (by decide) (by omega) (by omega) (fun h23 => ?_) (fun h23 => ?_)
        · refine g_iincN (pc := 29) 1 2 [(0, .long (lN x)), (2, .int (nI k)), (3, .int (nI (sCnt x w + 1))), (4, .int (nI w))] rfl dX6_kthWeek_29 (by decide) rfl rfl ?_
          refine g_iincN (pc := 32) 1 3 [(0, .long (lN x)), (2, .int (nI k)), (3, .int (nI (sCnt x w + 1))), (4, .int (nI (w + 1)))] rfl dX6_kthWeek_32 (by decide) rfl rfl ?_
          refine g_goto (pc := 35) 5 dX6_kthWeek_35 (by decide) ?_
          refine g_lv (pc := 5) (lv' := [(0, .long (lN x)), (2, .int (nI k)), (3, .int (nI (sCnt x (w + 1)))), (4, .int (nI (w + 1)))]) (by rw [show sCnt x (w + 1) = sCnt x w + (if x.testBit w then 1 else 0) from rfl, h18]; rfl) ?_
          exact ihw (by omega) (by rw [he, sFr_step (by omega), if_neg]; simp [h23])
        · refine g_iload (pc := 26) 3 rfl dX6_kthWeek_26 ?_
          exact g_iret (pc := 28) rfl dX6_kthWeek_28 ⟨congrArg (fun z => some (Value.int z)) (by rw [sKth, he, sFr_step (by omega), if_pos (by simp [h18, h23])]; rfl), rfl⟩
  refine g_lv (pc := 5) (lv' := [(0, .long (lN x)), (2, .int (nI k)), (3, .int (nI (sCnt x 0))), (4, .int (nI 0))]) rfl ?_
  exact lp5 0 (by omega) rfl
set_option maxRecDepth 100000 in
set_option maxHeartbeats 4000000 in
theorem kX6_windowLength (l : Launch) (E : gEnv) (M : gMem) (x f : Nat) (hx : x < 4611686018427387904) (hf0 : f ≤ 52) : gMetI l E mX6_windowLength 1 [.long (lN x), .int (nI f)] M (nI (sRn x f (52 - f))) := by
  refine gMet_of (mm := mX6_windowLength) (h := 1) (M := M) [(0, .long (lN x)), (2, .int (nI f))] (by decide) (Nat.le_of_ble_eq_true rfl) rfl ?_
  refine g_iload_n (pc := 0) 1 rfl rfl dX6_windowLength_0 ?_
  refine g_istore_n (pc := 1) rfl [(0, .long (lN x)), (2, .int (nI f)), (3, .int (nI f))] dX6_windowLength_1 (by decide) rfl rfl ?_
  have lp2 : ∀ w, w ≤ 52 → (f ≤ w) → (sRn x f (52 - f) = (w - f) + sRn x w (52 - w)) → gG l (gV0 1 E (fun v u => v = some (.int (nI (sRn x f (52 - f)))) ∧ u = M)) mX6_windowLength E (0, 0) M 2 [(0, .long (lN x)), (2, .int (nI f)), (3, .int (nI w))] [] := by
    refine gloop (fun w hiw ihw => ?_)
    intro hf
    intro he
    refine g_iload_n (pc := 2) 2 rfl rfl dX6_windowLength_2 ?_
    refine g_bipush (pc := 3) (nI 51) (by decide) dX6_windowLength_3 ?_
    refine g_icmpN_gt (pc := 5) 22 dX6_windowLength_5 (by decide) (by omega) (by omega) (fun h5 => ?_) (fun h5 => ?_)
    · refine g_iload_n (pc := 22) 2 rfl rfl dX6_windowLength_22 ?_
      refine g_iload_n (pc := 23) 1 rfl rfl dX6_windowLength_23 ?_
      refine g_isubN (pc := 24) (by omega) dX6_windowLength_24 ?_
      exact g_iret (pc := 25) rfl dX6_windowLength_25 ⟨congrArg (fun z => some (Value.int z)) (by rw [he]; congr 1; rw [show 52 - w = 0 by omega, show sRn x w 0 = 0 from rfl]; omega), rfl⟩
    · refine g_lload_n (pc := 8) 0 rfl rfl dX6_windowLength_8 ?_
      refine g_iload_n (pc := 9) 2 rfl rfl dX6_windowLength_9 ?_
      refine g_callS (pc := 10) (mc := mX6_hasWeek) (rest := []) lX6_197 iX6_hasWeek (kX6_hasWeek l E M x w (by omega) (by omega)) ⟨Nat.le_of_ble_eq_true rfl, Nat.le_of_ble_eq_true rfl⟩ rfl rfl (Nat.le_of_ble_eq_true rfl) ⟨Nat.zero_le _, Nat.zero_le _⟩ dX6_windowLength_10 (g_rI ?_)
      refine g_ifB_eq (pc := 13) 22 dX6_windowLength_13 (by decide) (fun h13 => ?_) (fun h13 => ?_)
      · refine g_iload_n (pc := 22) 2 rfl rfl dX6_windowLength_22 ?_
        refine g_iload_n (pc := 23) 1 rfl rfl dX6_windowLength_23 ?_
        refine g_isubN (pc := 24) (by omega) dX6_windowLength_24 ?_
        exact g_iret (pc := 25) rfl dX6_windowLength_25 ⟨congrArg (fun z => some (Value.int z)) (by rw [he]; congr 1; rw [sRn_step (by omega), if_neg (by rw [h13]; decide)]; omega), rfl⟩
      · refine g_iincN (pc := 16) 1 2 [(0, .long (lN x)), (2, .int (nI f)), (3, .int (nI (w + 1)))] rfl dX6_windowLength_16 (by decide) rfl rfl ?_
        refine g_goto (pc := 19) 2 dX6_windowLength_19 (by decide) ?_
        exact ihw (by omega) (by omega) (by rw [he, sRn_step (by omega), if_pos h13]; omega)
  exact lp2 f (by omega) (Nat.le_refl _) (by omega)
theorem nI_sa {a b : Nat} (h : b ≤ a + 1) : nI a - nI b + nI 1 = nI (a + 1 - b) := by
  rw [← pk_sub h, ← nI_add]
  grind
theorem sLs_tp {x w : Nat} (h : x.testBit w = true) (h2 : (sLs x w).1 < (sLs x w).2.2 + 1) : sLs x (w + 1) = ((sLs x w).2.2 + 1, w + 1 - ((sLs x w).2.2 + 1), (sLs x w).2.2 + 1) := by
  simp only [sLs, h, if_true]; exact if_pos h2
theorem sLs_tn {x w : Nat} (h : x.testBit w = true) (h2 : (sLs x w).2.2 + 1 ≤ (sLs x w).1) : sLs x (w + 1) = ((sLs x w).1, (sLs x w).2.1, (sLs x w).2.2 + 1) := by
  simp only [sLs, h, if_true]; exact if_neg (by omega)
theorem sLs_fn {x w : Nat} (h : x.testBit w = false) (h2 : 0 ≤ (sLs x w).1) : sLs x (w + 1) = ((sLs x w).1, (sLs x w).2.1, 0) := by
  simp only [sLs, h]; exact if_neg (by simp)
set_option maxRecDepth 100000 in
set_option maxHeartbeats 4000000 in
theorem kX6_longestStart (l : Launch) (E : gEnv) (M : gMem) (x : Nat) (hx : x < 4611686018427387904) : gMetI l E mX6_longestStart 1 [.long (lN x)] M (nI (sLs x 52).2.1) := by
  refine gMet_of (mm := mX6_longestStart) (h := 1) (M := M) [(0, .long (lN x))] (by decide) (Nat.le_of_ble_eq_true rfl) rfl ?_
  refine g_iconst (pc := 0) (nI 0) (by decide) dX6_longestStart_0 ?_
  refine g_istore_n (pc := 1) rfl [(0, .long (lN x)), (2, .int (nI 0))] dX6_longestStart_1 (by decide) rfl rfl ?_
  refine g_iconst (pc := 2) (nI 0) (by decide) dX6_longestStart_2 ?_
  refine g_istore_n (pc := 3) rfl [(0, .long (lN x)), (2, .int (nI 0)), (3, .int (nI 0))] dX6_longestStart_3 (by decide) rfl rfl ?_
  refine g_iconst (pc := 4) (nI 0) (by decide) dX6_longestStart_4 ?_
  refine g_istore (pc := 5) [(0, .long (lN x)), (2, .int (nI 0)), (3, .int (nI 0)), (4, .int (nI 0))] dX6_longestStart_5 (by decide) rfl rfl ?_
  refine g_iconst (pc := 7) (nI 0) (by decide) dX6_longestStart_7 ?_
  refine g_istore (pc := 8) [(0, .long (lN x)), (2, .int (nI 0)), (3, .int (nI 0)), (4, .int (nI 0)), (5, .int (nI 0))] dX6_longestStart_8 (by decide) rfl rfl ?_
  have lp10 : ∀ w, w ≤ 52 → gG l (gV0 1 E (fun v u => v = some (.int (nI (sLs x 52).2.1)) ∧ u = M)) mX6_longestStart E (0, 0) M 10 [(0, .long (lN x)), (2, .int (nI ((sLs x w).1))), (3, .int (nI ((sLs x w).2.1))), (4, .int (nI ((sLs x w).2.2))), (5, .int (nI w))] [] := by
    refine gloop (fun w hiw ihw => ?_)
    refine g_iload (pc := 10) 4 rfl dX6_longestStart_10 ?_
    refine g_bipush (pc := 12) (nI 51) (by decide) dX6_longestStart_12 ?_
    refine g_icmpN_gt (pc := 14) 59 dX6_longestStart_14 (by decide) (by omega) (by omega) (fun h14 => ?_) (fun h14 => ?_)
    · refine g_iload_n (pc := 59) 2 rfl rfl dX6_longestStart_59 ?_
      exact g_iret (pc := 60) rfl dX6_longestStart_60 ⟨congrArg (fun z => some (Value.int z)) (by rw [show w = 52 by omega]), rfl⟩
    · have hls := sLs_le x w
      refine g_lload_n (pc := 17) 0 rfl rfl dX6_longestStart_17 ?_
      refine g_iload (pc := 18) 4 rfl dX6_longestStart_18 ?_
      refine g_callS (pc := 20) (mc := mX6_hasWeek) (rest := []) lX6_197 iX6_hasWeek (kX6_hasWeek l E M x w (by omega) (by omega)) ⟨Nat.le_of_ble_eq_true rfl, Nat.le_of_ble_eq_true rfl⟩ rfl rfl (Nat.le_of_ble_eq_true rfl) ⟨Nat.zero_le _, Nat.zero_le _⟩ dX6_longestStart_20 (g_rI ?_)
      refine g_ifB_eq (pc := 23) 33 dX6_longestStart_23 (by decide) (fun h23 => ?_) (fun h23 => ?_)
      · refine g_iconst (pc := 33) (nI 0) (by decide) dX6_longestStart_33 ?_
        refine g_istore (pc := 34) [(0, .long (lN x)), (2, .int (nI ((sLs x w).1))), (3, .int (nI ((sLs x w).2.1))), (4, .int (nI 0)), (5, .int (nI w))] dX6_longestStart_34 (by decide) rfl rfl ?_
        refine g_iload (pc := 36) 3 rfl dX6_longestStart_36 ?_
        refine g_iload_n (pc := 38) 1 rfl rfl dX6_longestStart_38 ?_
        refine g_icmpN_le (pc := 39) 53 dX6_longestStart_39 (by decide) (by omega) (by omega) (fun h39 => ?_) (fun h39 => absurd h39 (by omega))
        refine g_iincN (pc := 53) 1 4 [(0, .long (lN x)), (2, .int (nI ((sLs x w).1))), (3, .int (nI ((sLs x w).2.1))), (4, .int (nI 0)), (5, .int (nI (w + 1)))] rfl dX6_longestStart_53 (by decide) rfl rfl ?_
        refine g_goto (pc := 56) 10 dX6_longestStart_56 (by decide) ?_
        refine g_lv (pc := 10) (lv' := [(0, .long (lN x)), (2, .int (nI ((sLs x (w + 1)).1))), (3, .int (nI ((sLs x (w + 1)).2.1))), (4, .int (nI ((sLs x (w + 1)).2.2))), (5, .int (nI (w + 1)))]) (by rw [show sLs x (w + 1) = _ from sLs_fn h23 (by omega)]) ?_
        exact ihw (by omega)
      · refine g_iload (pc := 26) 3 rfl dX6_longestStart_26 ?_
        refine g_iconst (pc := 28) (nI 1) (by decide) dX6_longestStart_28 ?_
        refine g_iaddN (pc := 29) dX6_longestStart_29 ?_
        refine g_goto (pc := 30) 34 dX6_longestStart_30 (by decide) ?_
        refine g_istore (pc := 34) [(0, .long (lN x)), (2, .int (nI ((sLs x w).1))), (3, .int (nI ((sLs x w).2.1))), (4, .int (nI (((sLs x w).2.2) + 1))), (5, .int (nI w))] dX6_longestStart_34 (by decide) rfl rfl ?_
        refine g_iload (pc := 36) 3 rfl dX6_longestStart_36 ?_
        refine g_iload_n (pc := 38) 1 rfl rfl dX6_longestStart_38 ?_
        refine g_icmpN_le (pc := 39) 53 dX6_longestStart_39 (by decide) (by omega) (by omega) (fun h39 => ?_) (fun h39 => ?_)
        · refine g_iincN (pc := 53) 1 4 [(0, .long (lN x)), (2, .int (nI ((sLs x w).1))), (3, .int (nI ((sLs x w).2.1))), (4, .int (nI (((sLs x w).2.2) + 1))), (5, .int (nI (w + 1)))] rfl dX6_longestStart_53 (by decide) rfl rfl ?_
          refine g_goto (pc := 56) 10 dX6_longestStart_56 (by decide) ?_
          refine g_lv (pc := 10) (lv' := [(0, .long (lN x)), (2, .int (nI ((sLs x (w + 1)).1))), (3, .int (nI ((sLs x (w + 1)).2.1))), (4, .int (nI ((sLs x (w + 1)).2.2))), (5, .int (nI (w + 1)))]) (by rw [show sLs x (w + 1) = _ from sLs_tn h23 (by omega)]) ?_
          exact ihw (by omega)
        · refine g_iload (pc := 42) 3 rfl dX6_longestStart_42 ?_
          refine g_istore_n (pc := 44) rfl [(0, .long (lN x)), (2, .int (nI (((sLs x w).2.2) + 1))), (3, .int (nI ((sLs x w).2.1))), (4, .int (nI (((sLs x w).2.2) + 1))), (5, .int (nI w))] dX6_longestStart_44 (by decide) rfl rfl ?_
          refine g_iload (pc := 45) 4 rfl dX6_longestStart_45 ?_
          refine g_iload (pc := 47) 3 rfl dX6_longestStart_47 ?_
          refine g_isub (pc := 49) dX6_longestStart_49 ?_
          refine g_iconst (pc := 50) (nI 1) (by decide) dX6_longestStart_50 ?_
          refine g_iadd (pc := 51) dX6_longestStart_51 ?_
          refine g_topi (pc := 52) (x' := nI (w + 1 - ((sLs x w).2.2 + 1))) (nI_sa (by omega)) ?_
          refine g_istore_n (pc := 52) rfl [(0, .long (lN x)), (2, .int (nI (((sLs x w).2.2) + 1))), (3, .int (nI (w + 1 - ((sLs x w).2.2 + 1)))), (4, .int (nI (((sLs x w).2.2) + 1))), (5, .int (nI w))] dX6_longestStart_52 (by decide) rfl rfl ?_
          refine g_iincN (pc := 53) 1 4 [(0, .long (lN x)), (2, .int (nI (((sLs x w).2.2) + 1))), (3, .int (nI (w + 1 - ((sLs x w).2.2 + 1)))), (4, .int (nI (((sLs x w).2.2) + 1))), (5, .int (nI (w + 1)))] rfl dX6_longestStart_53 (by decide) rfl rfl ?_
          refine g_goto (pc := 56) 10 dX6_longestStart_56 (by decide) ?_
          refine g_lv (pc := 10) (lv' := [(0, .long (lN x)), (2, .int (nI ((sLs x (w + 1)).1))), (3, .int (nI ((sLs x (w + 1)).2.1))), (4, .int (nI ((sLs x (w + 1)).2.2))), (5, .int (nI (w + 1)))]) (by rw [show sLs x (w + 1) = _ from sLs_tp h23 (by omega)]) ?_
          exact ihw (by omega)
  refine g_lv (pc := 10) (lv' := [(0, .long (lN x)), (2, .int (nI ((sLs x 0).1))), (3, .int (nI ((sLs x 0).2.1))), (4, .int (nI ((sLs x 0).2.2))), (5, .int (nI 0))]) rfl ?_
  exact lp10 0 (by omega)
