set_option maxRecDepth 100000 in
set_option maxHeartbeats 4000000 in
theorem kX5_readNumbers (l : Launch) (E : gEnv) (M : gMem) (b b' : Nat) (hS : cS E M b b') (s e : Nat) (hs : s ≤ 201) (hee : e ≤ 200) (hT : ∀ p, p < e → M.1 2 p ≤ 126) : gMet l E mX5_readNumbers 0 [.ref (gAd E 3), .ref (gAd E 2), .int (nI s), .int (nI e)] M (fun v u => v = some (.int (nI (aN (M.1 2) (e - s) s 0 (M.1 4) 0 0).1)) ∧ u = gRow M 4 (aN (M.1 2) (e - s) s 0 (M.1 4) 0 0).2) := by
  refine gMet_of (mm := mX5_readNumbers) (h := 0) (M := M) [(0, .ref (gAd E 3)), (1, .ref (gAd E 2)), (2, .int (nI s)), (3, .int (nI e))] (by decide) (Nat.le_of_ble_eq_true rfl) rfl ?_
  refine g_iconst (pc := 0) (nI 0) (by decide) dX5_readNumbers_0 ?_
  refine g_istore (pc := 1) [(0, .ref (gAd E 3)), (1, .ref (gAd E 2)), (2, .int (nI s)), (3, .int (nI e)), (4, .int (nI 0))] dX5_readNumbers_1 (by decide) rfl rfl ?_
  refine g_iconst (pc := 3) (nI 0) (by decide) dX5_readNumbers_3 ?_
  refine g_istore (pc := 4) [(0, .ref (gAd E 3)), (1, .ref (gAd E 2)), (2, .int (nI s)), (3, .int (nI e)), (4, .int (nI 0)), (5, .int (nI 0))] dX5_readNumbers_4 (by decide) rfl rfl ?_
  refine g_iconst (pc := 6) (nI 0) (by decide) dX5_readNumbers_6 ?_
  refine g_istore (pc := 7) [(0, .ref (gAd E 3)), (1, .ref (gAd E 2)), (2, .int (nI s)), (3, .int (nI e)), (4, .int (nI 0)), (5, .int (nI 0)), (6, .int (nI 0))] dX5_readNumbers_7 (by decide) rfl rfl ?_
  refine g_iload_n (pc := 9) 2 rfl rfl dX5_readNumbers_9 ?_
  refine g_istore (pc := 10) [(0, .ref (gAd E 3)), (1, .ref (gAd E 2)), (2, .int (nI s)), (3, .int (nI e)), (4, .int (nI 0)), (5, .int (nI 0)), (6, .int (nI 0)), (7, .int (nI s))] dX5_readNumbers_10 (by decide) rfl rfl ?_
  have lp12 : ∀ p, p ≤ 201 → ∀ (fd : Nat) (nf : Nat → Nat) (fig val : Nat), (fd ≤ 6) → (fig ≤ 2) → (aN (M.1 2) (e - s) s 0 (M.1 4) 0 0 = aN (M.1 2) (e - p) p fd nf fig val) → gG l (gV0 0 E (fun v u => v = some (.int (nI (aN (M.1 2) (e - s) s 0 (M.1 4) 0 0).1)) ∧ u = gRow M 4 (aN (M.1 2) (e - s) s 0 (M.1 4) 0 0).2)) mX5_readNumbers E (0, 0) (gRow M 4 nf) 12 [(0, .ref (gAd E 3)), (1, .ref (gAd E 2)), (2, .int (nI s)), (3, .int (nI e)), (4, .int (nI fd)), (5, .int (nI fig)), (6, .int (nI val)), (7, .int (nI p))] [] := by
    refine gloop (fun p hip ihp => ?_)
    intro fd nf fig val
    intro hfd
    intro hfg
    intro he
    refine g_iload (pc := 12) 7 rfl dX5_readNumbers_12 ?_
    refine g_iload_n (pc := 14) 3 rfl rfl dX5_readNumbers_14 ?_
    refine g_icmpN_ge (pc := 15) 111 dX5_readNumbers_15 (by decide) (by omega) (by omega) (fun h15 => ?_) (fun h15 => ?_)
    · refine g_iload (pc := 111) 5 rfl dX5_readNumbers_111 ?_
      refine g_ifN_ne (pc := 113) 118 dX5_readNumbers_113 (by decide) (by omega) (fun h113 => ?_) (fun h113 => ?_)
      · refine g_aload_n (pc := 118) 0 rfl rfl dX5_readNumbers_118 ?_
        refine fX5_9 (pc := 119) 4 rfl hS.s3 hS.rn (by decide) dX5_readNumbers_119 ?_
        refine g_iload (pc := 122) 4 rfl dX5_readNumbers_122 ?_
        refine g_iload (pc := 124) 6 rfl dX5_readNumbers_124 ?_
        refine g_iastore (pc := 126) hS.s4 (by rw [hS.l4]; omega) (by rw [hS.l4]; omega) dX5_readNumbers_126 ?_
        refine g_iload (pc := 127) 4 rfl dX5_readNumbers_127 ?_
        refine g_iconst (pc := 129) (nI 1) (by decide) dX5_readNumbers_129 ?_
        refine g_iaddN (pc := 130) dX5_readNumbers_130 ?_
        exact g_iret (pc := 131) rfl dX5_readNumbers_131 ⟨congrArg (fun z => some (Value.int z)) (by rw [he, aN_e (by omega), if_neg (by omega)]), by rw [he, aN_e (by omega), if_neg (by omega)]; exact gRow_U M 4 nf fd val⟩
      · refine g_iconst (pc := 116) (nI 0) (by decide) dX5_readNumbers_116 ?_
        exact g_iret (pc := 117) rfl dX5_readNumbers_117 ⟨congrArg (fun z => some (Value.int z)) (by rw [he, aN_e (by omega), if_pos h113]), by rw [he, aN_e (by omega), if_pos h113]⟩
    · have hc := hT p h15
      refine g_aload_n (pc := 18) 1 rfl rfl dX5_readNumbers_18 ?_
      refine g_iload (pc := 19) 7 rfl dX5_readNumbers_19 ?_
      refine g_caload (pc := 21) hS.s2 (by rw [hS.l2]; omega) (by rw [hS.l2]; omega) dX5_readNumbers_21 ?_
      refine g_topi (pc := 22) (x' := nI (M.1 2 p)) (by simp [gRow]) ?_
      refine g_istore (pc := 22) [(0, .ref (gAd E 3)), (1, .ref (gAd E 2)), (2, .int (nI s)), (3, .int (nI e)), (4, .int (nI fd)), (5, .int (nI fig)), (6, .int (nI val)), (7, .int (nI p)), (8, .int (nI (M.1 2 p)))] dX5_readNumbers_22 (by decide) rfl rfl ?_
      refine g_iload (pc := 24) 8 rfl dX5_readNumbers_24 ?_
      refine g_bipush (pc := 26) (nI 48) (by decide) dX5_readNumbers_26 ?_
      refine g_icmpN_lt (pc := 28) 63 dX5_readNumbers_28 (by decide) (by omega) (by omega) (fun h28 => ?_) (fun h28 => ?_)
      · refine g_iload (pc := 63) 8 rfl dX5_readNumbers_63 ?_
        refine g_bipush (pc := 65) (nI 44) (by decide) dX5_readNumbers_65 ?_
        refine g_icmpN_ne (pc := 67) 103 dX5_readNumbers_67 (by decide) (by omega) (by omega) (fun h67 => ?_) (fun h67 => ?_)
        · refine g_iconst (pc := 103) (nI 0) (by decide) dX5_readNumbers_103 ?_
          exact g_iret (pc := 104) rfl dX5_readNumbers_104 ⟨congrArg (fun z => some (Value.int z)) (by rw [he, aN_x h15 (by omega) (by omega)]), by rw [he, aN_x h15 (by omega) (by omega)]⟩
        · refine g_iload (pc := 70) 5 rfl dX5_readNumbers_70 ?_
          refine g_ifN_le (pc := 72) 103 dX5_readNumbers_72 (by decide) (by omega) (fun h72 => ?_) (fun h72 => ?_)
          · refine g_iconst (pc := 103) (nI 0) (by decide) dX5_readNumbers_103 ?_
            exact g_iret (pc := 104) rfl dX5_readNumbers_104 ⟨congrArg (fun z => some (Value.int z)) (by rw [he, aN_x h15 (by omega) (by omega)]), by rw [he, aN_x h15 (by omega) (by omega)]⟩
          · refine g_iload (pc := 75) 4 rfl dX5_readNumbers_75 ?_
            refine g_bipush (pc := 77) (nI 6) (by decide) dX5_readNumbers_77 ?_
            refine g_icmpN_ge (pc := 79) 103 dX5_readNumbers_79 (by decide) (by omega) (by omega) (fun h79 => ?_) (fun h79 => ?_)
            · refine g_iconst (pc := 103) (nI 0) (by decide) dX5_readNumbers_103 ?_
              exact g_iret (pc := 104) rfl dX5_readNumbers_104 ⟨congrArg (fun z => some (Value.int z)) (by rw [he, aN_x h15 (by omega) (by omega)]), by rw [he, aN_x h15 (by omega) (by omega)]⟩
            · refine g_aload_n (pc := 82) 0 rfl rfl dX5_readNumbers_82 ?_
              refine fX5_9 (pc := 83) 4 rfl hS.s3 hS.rn (by decide) dX5_readNumbers_83 ?_
              refine g_iload (pc := 86) 4 rfl dX5_readNumbers_86 ?_
              refine g_iload (pc := 88) 6 rfl dX5_readNumbers_88 ?_
              refine g_iastore (pc := 90) hS.s4 (by rw [hS.l4]; omega) (by rw [hS.l4]; omega) dX5_readNumbers_90 ?_
              refine g_iincN (pc := 91) 1 4 [(0, .ref (gAd E 3)), (1, .ref (gAd E 2)), (2, .int (nI s)), (3, .int (nI e)), (4, .int (nI (fd + 1))), (5, .int (nI fig)), (6, .int (nI val)), (7, .int (nI p)), (8, .int (nI (M.1 2 p)))] rfl dX5_readNumbers_91 (by decide) rfl rfl ?_
              refine g_iconst (pc := 94) (nI 0) (by decide) dX5_readNumbers_94 ?_
              refine g_istore (pc := 95) [(0, .ref (gAd E 3)), (1, .ref (gAd E 2)), (2, .int (nI s)), (3, .int (nI e)), (4, .int (nI (fd + 1))), (5, .int (nI 0)), (6, .int (nI val)), (7, .int (nI p)), (8, .int (nI (M.1 2 p)))] dX5_readNumbers_95 (by decide) rfl rfl ?_
              refine g_iconst (pc := 97) (nI 0) (by decide) dX5_readNumbers_97 ?_
              refine g_istore (pc := 98) [(0, .ref (gAd E 3)), (1, .ref (gAd E 2)), (2, .int (nI s)), (3, .int (nI e)), (4, .int (nI (fd + 1))), (5, .int (nI 0)), (6, .int (nI 0)), (7, .int (nI p)), (8, .int (nI (M.1 2 p)))] dX5_readNumbers_98 (by decide) rfl rfl ?_
              refine g_goto (pc := 100) 105 dX5_readNumbers_100 (by decide) ?_
              refine g_iincN (pc := 105) 1 7 [(0, .ref (gAd E 3)), (1, .ref (gAd E 2)), (2, .int (nI s)), (3, .int (nI e)), (4, .int (nI (fd + 1))), (5, .int (nI 0)), (6, .int (nI 0)), (7, .int (nI (p + 1))), (8, .int (nI (M.1 2 p)))] rfl dX5_readNumbers_105 (by decide) rfl rfl ?_
              refine g_goto (pc := 108) 12 dX5_readNumbers_108 (by decide) ?_
              refine g_mm (pc := 12) (M' := gRow M 4 (updN nf fd val)) (gRow_U M 4 nf fd val) ?_
              refine g_pick (pc := 12) [0, 1, 2, 3, 4, 5, 6, 7] [(0, .ref (gAd E 3)), (1, .ref (gAd E 2)), (2, .int (nI s)), (3, .int (nI e)), (4, .int (nI (fd + 1))), (5, .int (nI 0)), (6, .int (nI 0)), (7, .int (nI (p + 1)))] rfl ?_
              exact ihp (by omega) (fd + 1) (updN nf fd val) 0 0 (by omega) (by omega) (by rw [he, aN_c h15 h67 (by omega) (by omega)])
      · refine g_iload (pc := 31) 8 rfl dX5_readNumbers_31 ?_
        refine g_bipush (pc := 33) (nI 57) (by decide) dX5_readNumbers_33 ?_
        refine g_icmpN_gt (pc := 35) 63 dX5_readNumbers_35 (by decide) (by omega) (by omega) (fun h35 => ?_) (fun h35 => ?_)
        · refine g_iload (pc := 63) 8 rfl dX5_readNumbers_63 ?_
          refine g_bipush (pc := 65) (nI 44) (by decide) dX5_readNumbers_65 ?_
          refine g_icmpN_ne (pc := 67) 103 dX5_readNumbers_67 (by decide) (by omega) (by omega) (fun h67 => ?_) (fun h67 => ?_)
          · refine g_iconst (pc := 103) (nI 0) (by decide) dX5_readNumbers_103 ?_
            exact g_iret (pc := 104) rfl dX5_readNumbers_104 ⟨congrArg (fun z => some (Value.int z)) (by rw [he, aN_x h15 (by omega) (by omega)]), by rw [he, aN_x h15 (by omega) (by omega)]⟩
          · refine g_iload (pc := 70) 5 rfl dX5_readNumbers_70 ?_
            refine g_ifN_le (pc := 72) 103 dX5_readNumbers_72 (by decide) (by omega) (fun h72 => ?_) (fun h72 => ?_)
            · refine g_iconst (pc := 103) (nI 0) (by decide) dX5_readNumbers_103 ?_
              exact g_iret (pc := 104) rfl dX5_readNumbers_104 ⟨congrArg (fun z => some (Value.int z)) (by rw [he, aN_x h15 (by omega) (by omega)]), by rw [he, aN_x h15 (by omega) (by omega)]⟩
            · refine g_iload (pc := 75) 4 rfl dX5_readNumbers_75 ?_
              refine g_bipush (pc := 77) (nI 6) (by decide) dX5_readNumbers_77 ?_
              refine g_icmpN_ge (pc := 79) 103 dX5_readNumbers_79 (by decide) (by omega) (by omega) (fun h79 => ?_) (fun h79 => ?_)
              · refine g_iconst (pc := 103) (nI 0) (by decide) dX5_readNumbers_103 ?_
                exact g_iret (pc := 104) rfl dX5_readNumbers_104 ⟨congrArg (fun z => some (Value.int z)) (by rw [he, aN_x h15 (by omega) (by omega)]), by rw [he, aN_x h15 (by omega) (by omega)]⟩
              · refine g_aload_n (pc := 82) 0 rfl rfl dX5_readNumbers_82 ?_
                refine fX5_9 (pc := 83) 4 rfl hS.s3 hS.rn (by decide) dX5_readNumbers_83 ?_
                refine g_iload (pc := 86) 4 rfl dX5_readNumbers_86 ?_
                refine g_iload (pc := 88) 6 rfl dX5_readNumbers_88 ?_
                refine g_iastore (pc := 90) hS.s4 (by rw [hS.l4]; omega) (by rw [hS.l4]; omega) dX5_readNumbers_90 ?_
                refine g_iincN (pc := 91) 1 4 [(0, .ref (gAd E 3)), (1, .ref (gAd E 2)), (2, .int (nI s)), (3, .int (nI e)), (4, .int (nI (fd + 1))), (5, .int (nI fig)), (6, .int (nI val)), (7, .int (nI p)), (8, .int (nI (M.1 2 p)))] rfl dX5_readNumbers_91 (by decide) rfl rfl ?_
                refine g_iconst (pc := 94) (nI 0) (by decide) dX5_readNumbers_94 ?_
                refine g_istore (pc := 95) [(0, .ref (gAd E 3)), (1, .ref (gAd E 2)), (2, .int (nI s)), (3, .int (nI e)), (4, .int (nI (fd + 1))), (5, .int (nI 0)), (6, .int (nI val)), (7, .int (nI p)), (8, .int (nI (M.1 2 p)))] dX5_readNumbers_95 (by decide) rfl rfl ?_
                refine g_iconst (pc := 97) (nI 0) (by decide) dX5_readNumbers_97 ?_
                refine g_istore (pc := 98) [(0, .ref (gAd E 3)), (1, .ref (gAd E 2)), (2, .int (nI s)), (3, .int (nI e)), (4, .int (nI (fd + 1))), (5, .int (nI 0)), (6, .int (nI 0)), (7, .int (nI p)), (8, .int (nI (M.1 2 p)))] dX5_readNumbers_98 (by decide) rfl rfl ?_
                refine g_goto (pc := 100) 105 dX5_readNumbers_100 (by decide) ?_
                refine g_iincN (pc := 105) 1 7 [(0, .ref (gAd E 3)), (1, .ref (gAd E 2)), (2, .int (nI s)), (3, .int (nI e)), (4, .int (nI (fd + 1))), (5, .int (nI 0)), (6, .int (nI 0)), (7, .int (nI (p + 1))), (8, .int (nI (M.1 2 p)))] rfl dX5_readNumbers_105 (by decide) rfl rfl ?_
                refine g_goto (pc := 108) 12 dX5_readNumbers_108 (by decide) ?_
                refine g_mm (pc := 12) (M' := gRow M 4 (updN nf fd val)) (gRow_U M 4 nf fd val) ?_
                refine g_pick (pc := 12) [0, 1, 2, 3, 4, 5, 6, 7] [(0, .ref (gAd E 3)), (1, .ref (gAd E 2)), (2, .int (nI s)), (3, .int (nI e)), (4, .int (nI (fd + 1))), (5, .int (nI 0)), (6, .int (nI 0)), (7, .int (nI (p + 1)))] rfl ?_
                exact ihp (by omega) (fd + 1) (updN nf fd val) 0 0 (by omega) (by omega) (by rw [he, aN_c h15 h67 (by omega) (by omega)])
        · refine g_iload (pc := 38) 5 rfl dX5_readNumbers_38 ?_
          refine g_iconst (pc := 40) (nI 2) (by decide) dX5_readNumbers_40 ?_
          refine g_icmpN_ge (pc := 41) 63 dX5_readNumbers_41 (by decide) (by omega) (by omega) (fun h41 => ?_) (fun h41 => ?_)
          · refine g_iload (pc := 63) 8 rfl dX5_readNumbers_63 ?_
            refine g_bipush (pc := 65) (nI 44) (by decide) dX5_readNumbers_65 ?_
            refine g_icmpN_ne (pc := 67) 103 dX5_readNumbers_67 (by decide) (by omega) (by omega) (fun h67 => ?_) (fun h67 => ?_)
            · refine g_iconst (pc := 103) (nI 0) (by decide) dX5_readNumbers_103 ?_
              exact g_iret (pc := 104) rfl dX5_readNumbers_104 ⟨congrArg (fun z => some (Value.int z)) (by rw [he, aN_x h15 (by omega) (by omega)]), by rw [he, aN_x h15 (by omega) (by omega)]⟩
            · refine g_iload (pc := 70) 5 rfl dX5_readNumbers_70 ?_
              refine g_ifN_le (pc := 72) 103 dX5_readNumbers_72 (by decide) (by omega) (fun h72 => ?_) (fun h72 => ?_)
              · refine g_iconst (pc := 103) (nI 0) (by decide) dX5_readNumbers_103 ?_
                exact g_iret (pc := 104) rfl dX5_readNumbers_104 ⟨congrArg (fun z => some (Value.int z)) (by rw [he, aN_x h15 (by omega) (by omega)]), by rw [he, aN_x h15 (by omega) (by omega)]⟩
              · refine g_iload (pc := 75) 4 rfl dX5_readNumbers_75 ?_
                refine g_bipush (pc := 77) (nI 6) (by decide) dX5_readNumbers_77 ?_
                refine g_icmpN_ge (pc := 79) 103 dX5_readNumbers_79 (by decide) (by omega) (by omega) (fun h79 => ?_) (fun h79 => ?_)
                · refine g_iconst (pc := 103) (nI 0) (by decide) dX5_readNumbers_103 ?_
                  exact g_iret (pc := 104) rfl dX5_readNumbers_104 ⟨congrArg (fun z => some (Value.int z)) (by rw [he, aN_x h15 (by omega) (by omega)]), by rw [he, aN_x h15 (by omega) (by omega)]⟩
                · refine g_aload_n (pc := 82) 0 rfl rfl dX5_readNumbers_82 ?_
                  refine fX5_9 (pc := 83) 4 rfl hS.s3 hS.rn (by decide) dX5_readNumbers_83 ?_
                  refine g_iload (pc := 86) 4 rfl dX5_readNumbers_86 ?_
                  refine g_iload (pc := 88) 6 rfl dX5_readNumbers_88 ?_
                  refine g_iastore (pc := 90) hS.s4 (by rw [hS.l4]; omega) (by rw [hS.l4]; omega) dX5_readNumbers_90 ?_
                  refine g_iincN (pc := 91) 1 4 [(0, .ref (gAd E 3)), (1, .ref (gAd E 2)), (2, .int (nI s)), (3, .int (nI e)), (4, .int (nI (fd + 1))), (5, .int (nI fig)), (6, .int (nI val)), (7, .int (nI p)), (8, .int (nI (M.1 2 p)))] rfl dX5_readNumbers_91 (by decide) rfl rfl ?_
                  refine g_iconst (pc := 94) (nI 0) (by decide) dX5_readNumbers_94 ?_
                  refine g_istore (pc := 95) [(0, .ref (gAd E 3)), (1, .ref (gAd E 2)), (2, .int (nI s)), (3, .int (nI e)), (4, .int (nI (fd + 1))), (5, .int (nI 0)), (6, .int (nI val)), (7, .int (nI p)), (8, .int (nI (M.1 2 p)))] dX5_readNumbers_95 (by decide) rfl rfl ?_
                  refine g_iconst (pc := 97) (nI 0) (by decide) dX5_readNumbers_97 ?_
                  refine g_istore (pc := 98) [(0, .ref (gAd E 3)), (1, .ref (gAd E 2)), (2, .int (nI s)), (3, .int (nI e)), (4, .int (nI (fd + 1))), (5, .int (nI 0)), (6, .int (nI 0)), (7, .int (nI p)), (8, .int (nI (M.1 2 p)))] dX5_readNumbers_98 (by decide) rfl rfl ?_
                  refine g_goto (pc := 100) 105 dX5_readNumbers_100 (by decide) ?_
                  refine g_iincN (pc := 105) 1 7 [(0, .ref (gAd E 3)), (1, .ref (gAd E 2)), (2, .int (nI s)), (3, .int (nI e)), (4, .int (nI (fd + 1))), (5, .int (nI 0)), (6, .int (nI 0)), (7, .int (nI (p + 1))), (8, .int (nI (M.1 2 p)))] rfl dX5_readNumbers_105 (by decide) rfl rfl ?_
                  refine g_goto (pc := 108) 12 dX5_readNumbers_108 (by decide) ?_
                  refine g_mm (pc := 12) (M' := gRow M 4 (updN nf fd val)) (gRow_U M 4 nf fd val) ?_
                  refine g_pick (pc := 12) [0, 1, 2, 3, 4, 5, 6, 7] [(0, .ref (gAd E 3)), (1, .ref (gAd E 2)), (2, .int (nI s)), (3, .int (nI e)), (4, .int (nI (fd + 1))), (5, .int (nI 0)), (6, .int (nI 0)), (7, .int (nI (p + 1)))] rfl ?_
                  exact ihp (by omega) (fd + 1) (updN nf fd val) 0 0 (by omega) (by omega) (by rw [he, aN_c h15 h67 (by omega) (by omega)])
          · refine g_iload (pc := 44) 6 rfl dX5_readNumbers_44 ?_
            refine g_bipush (pc := 46) (nI 10) (by decide) dX5_readNumbers_46 ?_
            refine g_imulN (pc := 48) dX5_readNumbers_48 ?_
            refine g_iload (pc := 49) 8 rfl dX5_readNumbers_49 ?_
            refine g_bipush (pc := 51) (nI 48) (by decide) dX5_readNumbers_51 ?_
            refine g_isubN (pc := 53) (by omega) dX5_readNumbers_53 ?_
            refine g_iaddN (pc := 54) dX5_readNumbers_54 ?_
            refine g_istore (pc := 55) [(0, .ref (gAd E 3)), (1, .ref (gAd E 2)), (2, .int (nI s)), (3, .int (nI e)), (4, .int (nI fd)), (5, .int (nI fig)), (6, .int (nI ((val * 10) + ((M.1 2 p) - 48)))), (7, .int (nI p)), (8, .int (nI (M.1 2 p)))] dX5_readNumbers_55 (by decide) rfl rfl ?_
            refine g_iincN (pc := 57) 1 5 [(0, .ref (gAd E 3)), (1, .ref (gAd E 2)), (2, .int (nI s)), (3, .int (nI e)), (4, .int (nI fd)), (5, .int (nI (fig + 1))), (6, .int (nI ((val * 10) + ((M.1 2 p) - 48)))), (7, .int (nI p)), (8, .int (nI (M.1 2 p)))] rfl dX5_readNumbers_57 (by decide) rfl rfl ?_
            refine g_goto (pc := 60) 105 dX5_readNumbers_60 (by decide) ?_
            refine g_iincN (pc := 105) 1 7 [(0, .ref (gAd E 3)), (1, .ref (gAd E 2)), (2, .int (nI s)), (3, .int (nI e)), (4, .int (nI fd)), (5, .int (nI (fig + 1))), (6, .int (nI ((val * 10) + ((M.1 2 p) - 48)))), (7, .int (nI (p + 1))), (8, .int (nI (M.1 2 p)))] rfl dX5_readNumbers_105 (by decide) rfl rfl ?_
            refine g_goto (pc := 108) 12 dX5_readNumbers_108 (by decide) ?_
            refine g_pick (pc := 12) [0, 1, 2, 3, 4, 5, 6, 7] [(0, .ref (gAd E 3)), (1, .ref (gAd E 2)), (2, .int (nI s)), (3, .int (nI e)), (4, .int (nI fd)), (5, .int (nI (fig + 1))), (6, .int (nI ((val * 10) + ((M.1 2 p) - 48)))), (7, .int (nI (p + 1)))] rfl ?_
            refine g_lv (pc := 12) (lv' := [(0, .ref (gAd E 3)), (1, .ref (gAd E 2)), (2, .int (nI s)), (3, .int (nI e)), (4, .int (nI fd)), (5, .int (nI (fig + 1))), (6, .int (nI (val * 10 + (M.1 2 p - 48)))), (7, .int (nI (p + 1)))]) rfl ?_
            exact ihp (by omega) fd nf (fig + 1) (val * 10 + (M.1 2 p - 48)) hfd (by omega) (by rw [he, aN_d h15 (by omega) (by omega) (by omega)])
  refine g_mm (pc := 12) (M' := gRow M 4 (M.1 4)) (gRow_me M 4).symm ?_
  exact lp12 s (by omega) 0 (M.1 4) 0 0 (by omega) (by omega) rfl
set_option maxRecDepth 100000 in
set_option maxHeartbeats 4000000 in
theorem kX0_isSpan (l : Launch) (E : gEnv) (M : gMem) (f t : Nat) (hf : f < 100) (ht : t < 100) : gMetI l E mX0_isSpan 0 [.int (nI f), .int (nI t)] M (gb (decide (f ≤ t ∧ t ≤ 51))) := by
  refine gMet_of (mm := mX0_isSpan) (h := 0) (M := M) [(0, .int (nI f)), (1, .int (nI t))] (by decide) (Nat.le_of_ble_eq_true rfl) rfl ?_
  refine g_iload_n (pc := 0) 0 rfl rfl dX0_isSpan_0 ?_
  refine g_ifN_lt (pc := 1) 19 dX0_isSpan_1 (by decide) (by omega) ?_
  refine g_iload_n (pc := 4) 0 rfl rfl dX0_isSpan_4 ?_
  refine g_iload_n (pc := 5) 1 rfl rfl dX0_isSpan_5 ?_
  refine g_icmpN_gt (pc := 6) 19 dX0_isSpan_6 (by decide) (by omega) (by omega) (fun h6 => ?_) (fun h6 => ?_)
  · refine g_iconst (pc := 19) (nI 0) (by decide) dX0_isSpan_19 ?_
    refine g_topi (pc := 20) (x' := gb false) (by decide) ?_
    exact g_zret (pc := 20) rfl dX0_isSpan_20 ⟨congrArg (fun z => some (Value.int (gb z))) (bf_of (by intro hh; have hh := of_decide_eq_true hh; omega)), rfl⟩
  · refine g_iload_n (pc := 9) 1 rfl rfl dX0_isSpan_9 ?_
    refine g_bipush (pc := 10) (nI 51) (by decide) dX0_isSpan_10 ?_
    refine g_icmpN_gt (pc := 12) 19 dX0_isSpan_12 (by decide) (by omega) (by omega) (fun h12 => ?_) (fun h12 => ?_)
    · refine g_iconst (pc := 19) (nI 0) (by decide) dX0_isSpan_19 ?_
      refine g_topi (pc := 20) (x' := gb false) (by decide) ?_
      exact g_zret (pc := 20) rfl dX0_isSpan_20 ⟨congrArg (fun z => some (Value.int (gb z))) (bf_of (by intro hh; have hh := of_decide_eq_true hh; omega)), rfl⟩
    · refine g_iconst (pc := 15) (nI 1) (by decide) dX0_isSpan_15 ?_
      refine g_goto (pc := 16) 20 dX0_isSpan_16 (by decide) ?_
      refine g_topi (pc := 20) (x' := gb true) (by decide) ?_
      exact g_zret (pc := 20) rfl dX0_isSpan_20 ⟨congrArg (fun z => some (Value.int (gb z))) (bt_of (by exact decide_eq_true ⟨by omega, by omega⟩)), rfl⟩
set_option maxRecDepth 100000 in
set_option maxHeartbeats 4000000 in
theorem kX0_setTerm_t (l : Launch) (E : gEnv) (M : gMem) (b f t : Nat) (hB : cBr E M b) (hf : f < 100) (ht : t < 100) (hc : (f ≤ t ∧ t ≤ 51)) : gMet l E mX0_setTerm 1 [.ref (gAd E b), .int (nI f), .int (nI t)] M (fun v u => v = some (.int (gb true)) ∧ u = gU (gU M b 4 f) b 5 t) := by
  refine gMet_of (mm := mX0_setTerm) (h := 1) (M := M) [(0, .ref (gAd E b)), (1, .int (nI f)), (2, .int (nI t))] (by decide) (Nat.le_of_ble_eq_true rfl) rfl ?_
  refine g_iload_n (pc := 0) 1 rfl rfl dX0_setTerm_0 ?_
  refine g_iload_n (pc := 1) 2 rfl rfl dX0_setTerm_1 ?_
  refine g_callS (pc := 2) (mc := mX0_isSpan) (rest := []) lX0_38 iX0_isSpan (kX0_isSpan l E M f t (by omega) (by omega)) ⟨Nat.le_of_ble_eq_true rfl, Nat.le_of_ble_eq_true rfl⟩ rfl rfl (Nat.le_of_ble_eq_true rfl) ⟨Nat.zero_le _, Nat.zero_le _⟩ dX0_setTerm_2 (g_rI ?_)
  refine g_ifB_ne (pc := 5) 10 dX0_setTerm_5 (by decide) (fun h5 => ?_) (fun h5 => absurd h5 (by rw [decide_eq_true hc]; decide))
  refine g_aload_n (pc := 10) 0 rfl rfl dX0_setTerm_10 ?_
  refine g_iload_n (pc := 11) 1 rfl rfl dX0_setTerm_11 ?_
  refine uX0_32 (pc := 12) rfl hB.1.1 dX0_setTerm_12 ?_
  refine g_aload_n (pc := 15) 0 rfl rfl dX0_setTerm_15 ?_
  refine g_iload_n (pc := 16) 2 rfl rfl dX0_setTerm_16 ?_
  refine uX0_35 (pc := 17) rfl hB.1.1 dX0_setTerm_17 ?_
  refine g_iconst (pc := 20) (nI 1) (by decide) dX0_setTerm_20 ?_
  refine g_topi (pc := 21) (x' := gb true) (by decide) ?_
  exact g_zret (pc := 21) rfl dX0_setTerm_21 ⟨rfl, rfl⟩
set_option maxRecDepth 100000 in
set_option maxHeartbeats 4000000 in
theorem kX0_setTerm_f (l : Launch) (E : gEnv) (M : gMem) (b f t : Nat) (hB : cBr E M b) (hf : f < 100) (ht : t < 100) (hc : ¬ (f ≤ t ∧ t ≤ 51)) : gMet l E mX0_setTerm 1 [.ref (gAd E b), .int (nI f), .int (nI t)] M (fun v u => v = some (.int (gb false)) ∧ u = M) := by
  refine gMet_of (mm := mX0_setTerm) (h := 1) (M := M) [(0, .ref (gAd E b)), (1, .int (nI f)), (2, .int (nI t))] (by decide) (Nat.le_of_ble_eq_true rfl) rfl ?_
  refine g_iload_n (pc := 0) 1 rfl rfl dX0_setTerm_0 ?_
  refine g_iload_n (pc := 1) 2 rfl rfl dX0_setTerm_1 ?_
  refine g_callS (pc := 2) (mc := mX0_isSpan) (rest := []) lX0_38 iX0_isSpan (kX0_isSpan l E M f t (by omega) (by omega)) ⟨Nat.le_of_ble_eq_true rfl, Nat.le_of_ble_eq_true rfl⟩ rfl rfl (Nat.le_of_ble_eq_true rfl) ⟨Nat.zero_le _, Nat.zero_le _⟩ dX0_setTerm_2 (g_rI ?_)
  refine g_ifB_ne (pc := 5) 10 dX0_setTerm_5 (by decide) (fun h5 => absurd h5 (by rw [decide_eq_false hc]; decide)) (fun h5 => ?_)
  refine g_iconst (pc := 8) (nI 0) (by decide) dX0_setTerm_8 ?_
  refine g_topi (pc := 9) (x' := gb false) (by decide) ?_
  exact g_zret (pc := 9) rfl dX0_setTerm_9 ⟨rfl, rfl⟩
set_option maxRecDepth 100000 in
set_option maxHeartbeats 4000000 in
theorem kX0_isOfferTold (l : Launch) (E : gEnv) (M : gMem) (hs4 : gSh E 4 = 9) (hl4 : gLn E 4 = 7) (hN : ∀ i, M.1 4 i < 100) : gMetI l E mX0_isOfferTold 1 [.ref (gAd E 4)] M (gb (oOk (M.1 4))) := by
  refine gMet_of (mm := mX0_isOfferTold) (h := 1) (M := M) [(0, .ref (gAd E 4))] (by decide) (Nat.le_of_ble_eq_true rfl) rfl ?_
  have n0 := hN 0
  have n1 := hN 1
  have n2 := hN 2
  have n3 := hN 3
  have n4 := hN 4
  have n5 := hN 5
  have n6 := hN 6
  refine g_aload_n (pc := 0) 0 rfl rfl dX0_isOfferTold_0 ?_
  refine g_iconst (pc := 1) (nI 0) (by decide) dX0_isOfferTold_1 ?_
  refine g_iaload (pc := 2) hs4 (by rw [hl4]; omega) (by rw [hl4]; omega) dX0_isOfferTold_2 ?_
  refine g_bipush (pc := 3) (nI 6) (by decide) dX0_isOfferTold_3 ?_
  refine g_callSN (pc := 5) (mc := mX6_isSetBelow) (rest := []) lX0_71 iX6_isSetBelow (kX6_isSetBelow l E M (M.1 4 0) 6 (by omega) (by omega)) ⟨Nat.le_of_ble_eq_true rfl, Nat.le_of_ble_eq_true rfl⟩ rfl rfl (Nat.le_of_ble_eq_true rfl) ⟨Nat.zero_le _, Nat.zero_le _⟩ dX0_isOfferTold_5 (g_rI ?_)
  refine g_ifB_eq (pc := 8) 74 dX0_isOfferTold_8 (by decide) (fun h8 => ?_) (fun h8 => ?_)
  · refine g_iconst (pc := 74) (nI 0) (by decide) dX0_isOfferTold_74 ?_
    refine g_topi (pc := 75) (x' := gb false) (by decide) ?_
    exact g_zret (pc := 75) rfl dX0_isOfferTold_75 ⟨congrArg (fun z => some (Value.int (gb z))) (bf_of (by intro hh; have hh := of_decide_eq_true hh; have q := of_decide_eq_false h8; simp only [show (2 : Nat) ^ 6 = 64 from rfl] at q; omega)), rfl⟩
  · refine g_aload_n (pc := 11) 0 rfl rfl dX0_isOfferTold_11 ?_
    refine g_iconst (pc := 12) (nI 1) (by decide) dX0_isOfferTold_12 ?_
    refine g_iaload (pc := 13) hs4 (by rw [hl4]; omega) (by rw [hl4]; omega) dX0_isOfferTold_13 ?_
    refine g_iconst (pc := 14) (nI 4) (by decide) dX0_isOfferTold_14 ?_
    refine g_callSN (pc := 15) (mc := mX6_isSetBelow) (rest := []) lX0_71 iX6_isSetBelow (kX6_isSetBelow l E M (M.1 4 1) 4 (by omega) (by omega)) ⟨Nat.le_of_ble_eq_true rfl, Nat.le_of_ble_eq_true rfl⟩ rfl rfl (Nat.le_of_ble_eq_true rfl) ⟨Nat.zero_le _, Nat.zero_le _⟩ dX0_isOfferTold_15 (g_rI ?_)
    refine g_ifB_eq (pc := 18) 74 dX0_isOfferTold_18 (by decide) (fun h18 => ?_) (fun h18 => ?_)
    · refine g_iconst (pc := 74) (nI 0) (by decide) dX0_isOfferTold_74 ?_
      refine g_topi (pc := 75) (x' := gb false) (by decide) ?_
      exact g_zret (pc := 75) rfl dX0_isOfferTold_75 ⟨congrArg (fun z => some (Value.int (gb z))) (bf_of (by intro hh; have hh := of_decide_eq_true hh; have q := of_decide_eq_false h18; simp only [show (2 : Nat) ^ 4 = 16 from rfl] at q; omega)), rfl⟩
    · refine g_aload_n (pc := 21) 0 rfl rfl dX0_isOfferTold_21 ?_
      refine g_iconst (pc := 22) (nI 2) (by decide) dX0_isOfferTold_22 ?_
      refine g_iaload (pc := 23) hs4 (by rw [hl4]; omega) (by rw [hl4]; omega) dX0_isOfferTold_23 ?_
      refine g_iconst (pc := 24) (nI 4) (by decide) dX0_isOfferTold_24 ?_
      refine g_callSN (pc := 25) (mc := mX6_isSetBelow) (rest := []) lX0_71 iX6_isSetBelow (kX6_isSetBelow l E M (M.1 4 2) 4 (by omega) (by omega)) ⟨Nat.le_of_ble_eq_true rfl, Nat.le_of_ble_eq_true rfl⟩ rfl rfl (Nat.le_of_ble_eq_true rfl) ⟨Nat.zero_le _, Nat.zero_le _⟩ dX0_isOfferTold_25 (g_rI ?_)
      refine g_ifB_eq (pc := 28) 74 dX0_isOfferTold_28 (by decide) (fun h28 => ?_) (fun h28 => ?_)
      · refine g_iconst (pc := 74) (nI 0) (by decide) dX0_isOfferTold_74 ?_
        refine g_topi (pc := 75) (x' := gb false) (by decide) ?_
        exact g_zret (pc := 75) rfl dX0_isOfferTold_75 ⟨congrArg (fun z => some (Value.int (gb z))) (bf_of (by intro hh; have hh := of_decide_eq_true hh; have q := of_decide_eq_false h28; simp only [show (2 : Nat) ^ 4 = 16 from rfl] at q; omega)), rfl⟩
      · refine g_aload_n (pc := 31) 0 rfl rfl dX0_isOfferTold_31 ?_
        refine g_iconst (pc := 32) (nI 3) (by decide) dX0_isOfferTold_32 ?_
        refine g_iaload (pc := 33) hs4 (by rw [hl4]; omega) (by rw [hl4]; omega) dX0_isOfferTold_33 ?_
        refine g_aload_n (pc := 34) 0 rfl rfl dX0_isOfferTold_34 ?_
        refine g_iconst (pc := 35) (nI 4) (by decide) dX0_isOfferTold_35 ?_
        refine g_iaload (pc := 36) hs4 (by rw [hl4]; omega) (by rw [hl4]; omega) dX0_isOfferTold_36 ?_
        refine g_callS (pc := 37) (mc := mX0_isSpan) (rest := []) lX0_38 iX0_isSpan (kX0_isSpan l E M (M.1 4 3) (M.1 4 4) (by omega) (by omega)) ⟨Nat.le_of_ble_eq_true rfl, Nat.le_of_ble_eq_true rfl⟩ rfl rfl (Nat.le_of_ble_eq_true rfl) ⟨Nat.zero_le _, Nat.zero_le _⟩ dX0_isOfferTold_37 (g_rI ?_)
        refine g_ifB_eq (pc := 40) 74 dX0_isOfferTold_40 (by decide) (fun h40 => ?_) (fun h40 => ?_)
        · refine g_iconst (pc := 74) (nI 0) (by decide) dX0_isOfferTold_74 ?_
          refine g_topi (pc := 75) (x' := gb false) (by decide) ?_
          exact g_zret (pc := 75) rfl dX0_isOfferTold_75 ⟨congrArg (fun z => some (Value.int (gb z))) (bf_of (by intro hh; have hh := of_decide_eq_true hh; have q := of_decide_eq_false h40; omega)), rfl⟩
        · refine g_aload_n (pc := 43) 0 rfl rfl dX0_isOfferTold_43 ?_
          refine g_iconst (pc := 44) (nI 5) (by decide) dX0_isOfferTold_44 ?_
          refine g_iaload (pc := 45) hs4 (by rw [hl4]; omega) (by rw [hl4]; omega) dX0_isOfferTold_45 ?_
          refine g_iconst (pc := 46) (nI 2) (by decide) dX0_isOfferTold_46 ?_
          refine g_callSN (pc := 47) (mc := mX6_isBelow) (rest := []) lX0_74 iX6_isBelow (kX6_isBelow l E M (nI (M.1 4 5)) 2 (by omega)) ⟨Nat.le_of_ble_eq_true rfl, Nat.le_of_ble_eq_true rfl⟩ rfl rfl (Nat.le_of_ble_eq_true rfl) ⟨Nat.zero_le _, Nat.zero_le _⟩ dX0_isOfferTold_47 (g_rI ?_)
          refine g_ifB_eq (pc := 50) 74 dX0_isOfferTold_50 (by decide) (fun h50 => ?_) (fun h50 => ?_)
          · refine g_iconst (pc := 74) (nI 0) (by decide) dX0_isOfferTold_74 ?_
            refine g_topi (pc := 75) (x' := gb false) (by decide) ?_
            exact g_zret (pc := 75) rfl dX0_isOfferTold_75 ⟨congrArg (fun z => some (Value.int (gb z))) (bf_of (by intro hh; have hh := of_decide_eq_true hh; rw [inR_nI (by omega)] at h50; have q := of_decide_eq_false h50; omega)), rfl⟩
          · refine g_aload_n (pc := 53) 0 rfl rfl dX0_isOfferTold_53 ?_
            refine g_bipush (pc := 54) (nI 6) (by decide) dX0_isOfferTold_54 ?_
            refine g_iaload (pc := 56) hs4 (by rw [hl4]; omega) (by rw [hl4]; omega) dX0_isOfferTold_56 ?_
            refine g_iconst (pc := 57) (nI 1) (by decide) dX0_isOfferTold_57 ?_
            refine g_icmpN_lt (pc := 58) 74 dX0_isOfferTold_58 (by decide) (by omega) (by omega) (fun h58 => ?_) (fun h58 => ?_)
            · refine g_iconst (pc := 74) (nI 0) (by decide) dX0_isOfferTold_74 ?_
              refine g_topi (pc := 75) (x' := gb false) (by decide) ?_
              exact g_zret (pc := 75) rfl dX0_isOfferTold_75 ⟨congrArg (fun z => some (Value.int (gb z))) (bf_of (by intro hh; have hh := of_decide_eq_true hh; omega)), rfl⟩
            · refine g_aload_n (pc := 61) 0 rfl rfl dX0_isOfferTold_61 ?_
              refine g_bipush (pc := 62) (nI 6) (by decide) dX0_isOfferTold_62 ?_
              refine g_iaload (pc := 64) hs4 (by rw [hl4]; omega) (by rw [hl4]; omega) dX0_isOfferTold_64 ?_
              refine g_bipush (pc := 65) (nI 99) (by decide) dX0_isOfferTold_65 ?_
              refine g_icmpN_gt (pc := 67) 74 dX0_isOfferTold_67 (by decide) (by omega) (by omega) (fun h67 => ?_) (fun h67 => ?_)
              · refine g_iconst (pc := 74) (nI 0) (by decide) dX0_isOfferTold_74 ?_
                refine g_topi (pc := 75) (x' := gb false) (by decide) ?_
                exact g_zret (pc := 75) rfl dX0_isOfferTold_75 ⟨congrArg (fun z => some (Value.int (gb z))) (bf_of (by intro hh; have hh := of_decide_eq_true hh; omega)), rfl⟩
              · refine g_iconst (pc := 70) (nI 1) (by decide) dX0_isOfferTold_70 ?_
                refine g_goto (pc := 71) 75 dX0_isOfferTold_71 (by decide) ?_
                refine g_topi (pc := 75) (x' := gb true) (by decide) ?_
                exact g_zret (pc := 75) rfl dX0_isOfferTold_75 ⟨congrArg (fun z => some (Value.int (gb z))) (bt_of (by exact decide_eq_true (by have q0 := of_decide_eq_true h8; have q1 := of_decide_eq_true h18; have q2 := of_decide_eq_true h28; have q3 := of_decide_eq_true h40; rw [inR_nI (by omega)] at h50; have q5 := of_decide_eq_true h50; simp only [show (2 : Nat) ^ 6 = 64 from rfl, show (2 : Nat) ^ 4 = 16 from rfl] at q0 q1 q2; omega))), rfl⟩
def mAO (M : gMem) (b : Nat) : gMem := gU (gU (gU (gU (gU (gU (gU (gU (gU M (b + 3 + M.1 b 1) 0 (M.1 4 0)) (b + 3 + M.1 b 1) 1 (M.1 4 1)) (b + 3 + M.1 b 1) 2 (M.1 4 2)) (b + 3 + M.1 b 1) 3 (M.1 4 3)) (b + 3 + M.1 b 1) 4 (M.1 4 4)) (b + 3 + M.1 b 1) 5 (M.1 4 5)) (b + 3 + M.1 b 1) 6 (M.1 4 6)) (b + 3 + M.1 b 1) 7 0) b 1 (M.1 b 1 + 1)
set_option maxRecDepth 100000 in
set_option maxHeartbeats 4000000 in
theorem kX0_addOffer_t (l : Launch) (E : gEnv) (M : gMem) (b : Nat) (hB : cBr E M b) (hb4 : 4 < b) (hs4 : gSh E 4 = 9) (hl4 : gLn E 4 = 7) (hN : ∀ i, M.1 4 i < 100) (hn : M.1 b 1 < 10) (hok : oOk (M.1 4) = true) : gMet l E mX0_addOffer 2 [.ref (gAd E b), .ref (gAd E 4)] M (fun v u => v = some (.int (gb true)) ∧ u = mAO M b) := by
  have h4b : ¬ (4 = b + 3 + M.1 b 1) := by omega
  have hbb : ¬ (b = b + 3 + M.1 b 1) := by omega
  refine gMet_of (mm := mX0_addOffer) (h := 2) (M := M) [(0, .ref (gAd E b)), (1, .ref (gAd E 4))] (by decide) (Nat.le_of_ble_eq_true rfl) rfl ?_
  refine g_aload_n (pc := 0) 0 rfl rfl dX0_addOffer_0 ?_
  refine fX0_25 (pc := 1) rfl hB.1.1 dX0_addOffer_1 ?_
  refine g_bipush (pc := 4) (nI 10) (by decide) dX0_addOffer_4 ?_
  refine g_icmpN_ge (pc := 6) 23 dX0_addOffer_6 (by decide) (by omega) (by omega) (fun h6 => absurd h6 (by omega)) (fun h6 => ?_)
  refine g_aload_n (pc := 9) 1 rfl rfl dX0_addOffer_9 ?_
  refine g_alen (pc := 10) (t0 := 0) hs4 (by decide) rfl dX0_addOffer_10 ?_
  refine g_topi (pc := 11) (x' := nI 7) (by rw [hl4]) ?_
  refine g_bipush (pc := 11) (nI 7) (by decide) dX0_addOffer_11 ?_
  refine g_icmpN_lt (pc := 13) 23 dX0_addOffer_13 (by decide) (by omega) (by omega) (fun h13 => absurd h13 (by omega)) (fun h13 => ?_)
  refine g_aload_n (pc := 16) 1 rfl rfl dX0_addOffer_16 ?_
  refine g_callS (pc := 17) (mc := mX0_isOfferTold) (rest := []) lX0_42 iX0_isOfferTold (kX0_isOfferTold l E M hs4 hl4 hN) ⟨Nat.le_of_ble_eq_true rfl, Nat.le_of_ble_eq_true rfl⟩ rfl rfl (Nat.le_of_ble_eq_true rfl) ⟨Nat.zero_le _, Nat.zero_le _⟩ dX0_addOffer_17 (g_rI ?_)
  refine g_ifB_ne (pc := 20) 25 dX0_addOffer_20 (by decide) (fun h20 => ?_) (fun h20 => absurd h20 (by rw [hok]; decide))
  have q := of_decide_eq_true hok
  have n5 := hN 5
  refine g_aload_n (pc := 25) 0 rfl rfl dX0_addOffer_25 ?_
  refine fX0_11 (pc := 26) (b + 1) rfl hB.1.1 hB.1.2.2.2.2.2.1 (by omega) dX0_addOffer_26 ?_
  refine g_aload_n (pc := 29) 0 rfl rfl dX0_addOffer_29 ?_
  refine fX0_25 (pc := 30) rfl hB.1.1 dX0_addOffer_30 ?_
  refine g_aaload (pc := 33) (t0 := 2) (r := (b + 3 + (M.1 b 1))) hB.1.2.1 (by decide) rfl (by rw [hB.1.2.2.1]; omega) (by rw [hB.1.2.2.1]; omega) (hB.2.1 (M.1 b 1) (by omega)).2 (by omega) dX0_addOffer_33 ?_
  refine g_astore_n (pc := 34) rfl [(0, .ref (gAd E b)), (1, .ref (gAd E 4)), (2, .ref (gAd E ((b + 3 + (M.1 b 1)))))] dX0_addOffer_34 (by decide) rfl rfl ?_
  refine g_aload_n (pc := 35) 2 rfl rfl dX0_addOffer_35 ?_
  refine g_aload_n (pc := 36) 1 rfl rfl dX0_addOffer_36 ?_
  refine g_iconst (pc := 37) (nI 0) (by decide) dX0_addOffer_37 ?_
  refine g_iaload (pc := 38) hs4 (by rw [hl4]; omega) (by rw [hl4]; omega) dX0_addOffer_38 ?_
  refine uX0_46 (pc := 39) rfl (hB.2.1 (M.1 b 1) (by omega)).1 dX0_addOffer_39 ?_
  refine g_aload_n (pc := 42) 2 rfl rfl dX0_addOffer_42 ?_
  refine g_aload_n (pc := 43) 1 rfl rfl dX0_addOffer_43 ?_
  refine g_iconst (pc := 44) (nI 1) (by decide) dX0_addOffer_44 ?_
  refine g_iaload (pc := 45) hs4 (by rw [hl4]; omega) (by rw [hl4]; omega) dX0_addOffer_45 ?_
  refine g_topi (pc := 46) (x' := nI (M.1 4 1)) (by simp [gU, h4b, hbb]) ?_
  refine uX0_49 (pc := 46) rfl (hB.2.1 (M.1 b 1) (by omega)).1 dX0_addOffer_46 ?_
  refine g_aload_n (pc := 49) 2 rfl rfl dX0_addOffer_49 ?_
  refine g_aload_n (pc := 50) 1 rfl rfl dX0_addOffer_50 ?_
  refine g_iconst (pc := 51) (nI 2) (by decide) dX0_addOffer_51 ?_
  refine g_iaload (pc := 52) hs4 (by rw [hl4]; omega) (by rw [hl4]; omega) dX0_addOffer_52 ?_
  refine g_topi (pc := 53) (x' := nI (M.1 4 2)) (by simp [gU, h4b, hbb]) ?_
  refine uX0_52 (pc := 53) rfl (hB.2.1 (M.1 b 1) (by omega)).1 dX0_addOffer_53 ?_
  refine g_aload_n (pc := 56) 2 rfl rfl dX0_addOffer_56 ?_
  refine g_aload_n (pc := 57) 1 rfl rfl dX0_addOffer_57 ?_
  refine g_iconst (pc := 58) (nI 3) (by decide) dX0_addOffer_58 ?_
  refine g_iaload (pc := 59) hs4 (by rw [hl4]; omega) (by rw [hl4]; omega) dX0_addOffer_59 ?_
  refine g_topi (pc := 60) (x' := nI (M.1 4 3)) (by simp [gU, h4b, hbb]) ?_
  refine uX0_55 (pc := 60) rfl (hB.2.1 (M.1 b 1) (by omega)).1 dX0_addOffer_60 ?_
  refine g_aload_n (pc := 63) 2 rfl rfl dX0_addOffer_63 ?_
  refine g_aload_n (pc := 64) 1 rfl rfl dX0_addOffer_64 ?_
  refine g_iconst (pc := 65) (nI 4) (by decide) dX0_addOffer_65 ?_
  refine g_iaload (pc := 66) hs4 (by rw [hl4]; omega) (by rw [hl4]; omega) dX0_addOffer_66 ?_
  refine g_topi (pc := 67) (x' := nI (M.1 4 4)) (by simp [gU, h4b, hbb]) ?_
  refine uX0_58 (pc := 67) rfl (hB.2.1 (M.1 b 1) (by omega)).1 dX0_addOffer_67 ?_
  refine g_aload_n (pc := 70) 2 rfl rfl dX0_addOffer_70 ?_
  refine g_aload_n (pc := 71) 1 rfl rfl dX0_addOffer_71 ?_
  refine g_iconst (pc := 72) (nI 5) (by decide) dX0_addOffer_72 ?_
  refine g_iaload (pc := 73) hs4 (by rw [hl4]; omega) (by rw [hl4]; omega) dX0_addOffer_73 ?_
  refine g_topi (pc := 74) (x' := nI (M.1 4 5)) (by simp [gU, h4b, hbb]) ?_
  refine g_iconst (pc := 74) (nI 1) (by decide) dX0_addOffer_74 ?_
  refine g_icmpN_ne (pc := 75) 82 dX0_addOffer_75 (by decide) (by omega) (by omega) (fun h75 => ?_) (fun h75 => ?_)
  · refine g_iconst (pc := 82) (nI 0) (by decide) dX0_addOffer_82 ?_
    refine g_topi (pc := 83) (x' := nI (M.1 4 5)) (by congr 1; omega) ?_
    refine uX0_61 (pc := 83) rfl (hB.2.1 (M.1 b 1) (by omega)).1 (by omega) dX0_addOffer_83 ?_
    refine g_aload_n (pc := 86) 2 rfl rfl dX0_addOffer_86 ?_
    refine g_aload_n (pc := 87) 1 rfl rfl dX0_addOffer_87 ?_
    refine g_bipush (pc := 88) (nI 6) (by decide) dX0_addOffer_88 ?_
    refine g_iaload (pc := 90) hs4 (by rw [hl4]; omega) (by rw [hl4]; omega) dX0_addOffer_90 ?_
    refine g_topi (pc := 91) (x' := nI (M.1 4 6)) (by simp [gU, h4b, hbb]) ?_
    refine uX0_65 (pc := 91) rfl (hB.2.1 (M.1 b 1) (by omega)).1 dX0_addOffer_91 ?_
    refine g_aload_n (pc := 94) 2 rfl rfl dX0_addOffer_94 ?_
    refine g_iconst (pc := 95) (nI 0) (by decide) dX0_addOffer_95 ?_
    refine uX0_68 (pc := 96) rfl (hB.2.1 (M.1 b 1) (by omega)).1 dX0_addOffer_96 ?_
    refine g_aload_n (pc := 99) 0 rfl rfl dX0_addOffer_99 ?_
    refine g_dup (pc := 100) rfl dX0_addOffer_100 ?_
    refine fX0_25 (pc := 101) rfl hB.1.1 dX0_addOffer_101 ?_
    refine g_topi (pc := 104) (x' := nI (M.1 b 1)) (by simp [gU, h4b, hbb]) ?_
    refine g_iconst (pc := 104) (nI 1) (by decide) dX0_addOffer_104 ?_
    refine g_iaddN (pc := 105) dX0_addOffer_105 ?_
    refine uX0_25 (pc := 106) rfl hB.1.1 dX0_addOffer_106 ?_
    refine g_iconst (pc := 109) (nI 1) (by decide) dX0_addOffer_109 ?_
    refine g_topi (pc := 110) (x' := gb true) (by decide) ?_
    exact g_zret (pc := 110) rfl dX0_addOffer_110 ⟨rfl, rfl⟩
  · refine g_iconst (pc := 78) (nI 1) (by decide) dX0_addOffer_78 ?_
    refine g_goto (pc := 79) 83 dX0_addOffer_79 (by decide) ?_
    refine g_topi (pc := 83) (x' := nI (M.1 4 5)) (by congr 1; omega) ?_
    refine uX0_61 (pc := 83) rfl (hB.2.1 (M.1 b 1) (by omega)).1 (by omega) dX0_addOffer_83 ?_
    refine g_aload_n (pc := 86) 2 rfl rfl dX0_addOffer_86 ?_
    refine g_aload_n (pc := 87) 1 rfl rfl dX0_addOffer_87 ?_
    refine g_bipush (pc := 88) (nI 6) (by decide) dX0_addOffer_88 ?_
    refine g_iaload (pc := 90) hs4 (by rw [hl4]; omega) (by rw [hl4]; omega) dX0_addOffer_90 ?_
    refine g_topi (pc := 91) (x' := nI (M.1 4 6)) (by simp [gU, h4b, hbb]) ?_
    refine uX0_65 (pc := 91) rfl (hB.2.1 (M.1 b 1) (by omega)).1 dX0_addOffer_91 ?_
    refine g_aload_n (pc := 94) 2 rfl rfl dX0_addOffer_94 ?_
    refine g_iconst (pc := 95) (nI 0) (by decide) dX0_addOffer_95 ?_
    refine uX0_68 (pc := 96) rfl (hB.2.1 (M.1 b 1) (by omega)).1 dX0_addOffer_96 ?_
    refine g_aload_n (pc := 99) 0 rfl rfl dX0_addOffer_99 ?_
    refine g_dup (pc := 100) rfl dX0_addOffer_100 ?_
    refine fX0_25 (pc := 101) rfl hB.1.1 dX0_addOffer_101 ?_
    refine g_topi (pc := 104) (x' := nI (M.1 b 1)) (by simp [gU, h4b, hbb]) ?_
    refine g_iconst (pc := 104) (nI 1) (by decide) dX0_addOffer_104 ?_
    refine g_iaddN (pc := 105) dX0_addOffer_105 ?_
    refine uX0_25 (pc := 106) rfl hB.1.1 dX0_addOffer_106 ?_
    refine g_iconst (pc := 109) (nI 1) (by decide) dX0_addOffer_109 ?_
    refine g_topi (pc := 110) (x' := gb true) (by decide) ?_
    exact g_zret (pc := 110) rfl dX0_addOffer_110 ⟨rfl, rfl⟩
set_option maxRecDepth 100000 in
set_option maxHeartbeats 4000000 in
theorem kX0_addOffer_f (l : Launch) (E : gEnv) (M : gMem) (b : Nat) (hB : cBr E M b) (hs4 : gSh E 4 = 9) (hl4 : gLn E 4 = 7) (hN : ∀ i, M.1 4 i < 100) (hn : M.1 b 1 ≤ 10) (hno : 10 ≤ M.1 b 1 ∨ oOk (M.1 4) = false) : gMet l E mX0_addOffer 2 [.ref (gAd E b), .ref (gAd E 4)] M (fun v u => v = some (.int (gb false)) ∧ u = M) := by
  refine gMet_of (mm := mX0_addOffer) (h := 2) (M := M) [(0, .ref (gAd E b)), (1, .ref (gAd E 4))] (by decide) (Nat.le_of_ble_eq_true rfl) rfl ?_
  refine g_aload_n (pc := 0) 0 rfl rfl dX0_addOffer_0 ?_
  refine fX0_25 (pc := 1) rfl hB.1.1 dX0_addOffer_1 ?_
  refine g_bipush (pc := 4) (nI 10) (by decide) dX0_addOffer_4 ?_
  refine g_icmpN_ge (pc := 6) 23 dX0_addOffer_6 (by decide) (by omega) (by omega) (fun h6 => ?_) (fun h6 => ?_)
  · refine g_iconst (pc := 23) (nI 0) (by decide) dX0_addOffer_23 ?_
    refine g_topi (pc := 24) (x' := gb false) (by decide) ?_
    exact g_zret (pc := 24) rfl dX0_addOffer_24 ⟨rfl, rfl⟩
  · refine g_aload_n (pc := 9) 1 rfl rfl dX0_addOffer_9 ?_
    refine g_alen (pc := 10) (t0 := 0) hs4 (by decide) rfl dX0_addOffer_10 ?_
    refine g_topi (pc := 11) (x' := nI 7) (by rw [hl4]) ?_
    refine g_bipush (pc := 11) (nI 7) (by decide) dX0_addOffer_11 ?_
    refine g_icmpN_lt (pc := 13) 23 dX0_addOffer_13 (by decide) (by omega) (by omega) (fun h13 => absurd h13 (by omega)) (fun h13 => ?_)
    refine g_aload_n (pc := 16) 1 rfl rfl dX0_addOffer_16 ?_
    refine g_callS (pc := 17) (mc := mX0_isOfferTold) (rest := []) lX0_42 iX0_isOfferTold (kX0_isOfferTold l E M hs4 hl4 hN) ⟨Nat.le_of_ble_eq_true rfl, Nat.le_of_ble_eq_true rfl⟩ rfl rfl (Nat.le_of_ble_eq_true rfl) ⟨Nat.zero_le _, Nat.zero_le _⟩ dX0_addOffer_17 (g_rI ?_)
    refine g_ifB_ne (pc := 20) 25 dX0_addOffer_20 (by decide) (fun h20 => absurd h20 (by rcases hno with z | z <;> first | omega | (rw [z]; decide))) (fun h20 => ?_)
    refine g_iconst (pc := 23) (nI 0) (by decide) dX0_addOffer_23 ?_
    refine g_topi (pc := 24) (x' := gb false) (by decide) ?_
    exact g_zret (pc := 24) rfl dX0_addOffer_24 ⟨rfl, rfl⟩
def mAH (M : gMem) (b x y z : Nat) : gMem := gU (gU (gU (gU M (b + 13 + M.1 b 3) 0 x) (b + 13 + M.1 b 3) 1 y) (b + 13 + M.1 b 3) 2 z) b 3 (M.1 b 3 + 1)
set_option maxRecDepth 100000 in
set_option maxHeartbeats 4000000 in
theorem kX0_addHold_t (l : Launch) (E : gEnv) (M : gMem) (b x y z : Nat) (hB : cBr E M b) (hn : M.1 b 3 < 4) (h1 : x ≠ y) (h2 : x < 4) (h3 : y < 4) (h4 : 1 ≤ z) (h5 : z ≤ 51) : gMet l E mX0_addHold 1 [.ref (gAd E b), .int (nI x), .int (nI y), .int (nI z)] M (fun v u => v = some (.int (gb true)) ∧ u = mAH M b x y z) := by
  have hbb : ¬ (b = b + 13 + M.1 b 3) := by omega
  refine gMet_of (mm := mX0_addHold) (h := 1) (M := M) [(0, .ref (gAd E b)), (1, .int (nI x)), (2, .int (nI y)), (3, .int (nI z))] (by decide) (Nat.le_of_ble_eq_true rfl) rfl ?_
  refine g_aload_n (pc := 0) 0 rfl rfl dX0_addHold_0 ?_
  refine fX0_29 (pc := 1) rfl hB.1.1 dX0_addHold_1 ?_
  refine g_iconst (pc := 4) (nI 4) (by decide) dX0_addHold_4 ?_
  refine g_icmpN_ge (pc := 5) 13 dX0_addHold_5 (by decide) (by omega) (by omega) (fun h5 => absurd h5 (by omega)) (fun h5 => ?_)
  refine g_iload_n (pc := 8) 1 rfl rfl dX0_addHold_8 ?_
  refine g_iload_n (pc := 9) 2 rfl rfl dX0_addHold_9 ?_
  refine g_icmpN_ne (pc := 10) 15 dX0_addHold_10 (by decide) (by omega) (by omega) (fun h10 => ?_) (fun h10 => absurd h10 (by omega))
  refine g_iload_n (pc := 15) 1 rfl rfl dX0_addHold_15 ?_
  refine g_iconst (pc := 16) (nI 4) (by decide) dX0_addHold_16 ?_
  refine g_callSN (pc := 17) (mc := mX6_isBelow) (rest := []) lX0_74 iX6_isBelow (kX6_isBelow l E M (nI x) 4 (by omega)) ⟨Nat.le_of_ble_eq_true rfl, Nat.le_of_ble_eq_true rfl⟩ rfl rfl (Nat.le_of_ble_eq_true rfl) ⟨Nat.zero_le _, Nat.zero_le _⟩ dX0_addHold_17 (g_rI ?_)
  refine g_ifB_eq (pc := 20) 42 dX0_addHold_20 (by decide) (fun h20 => absurd h20 (by rw [inR_nI (by omega), decide_eq_true (show x < 4 by omega)]; decide)) (fun h20 => ?_)
  refine g_iload_n (pc := 23) 2 rfl rfl dX0_addHold_23 ?_
  refine g_iconst (pc := 24) (nI 4) (by decide) dX0_addHold_24 ?_
  refine g_callSN (pc := 25) (mc := mX6_isBelow) (rest := []) lX0_74 iX6_isBelow (kX6_isBelow l E M (nI y) 4 (by omega)) ⟨Nat.le_of_ble_eq_true rfl, Nat.le_of_ble_eq_true rfl⟩ rfl rfl (Nat.le_of_ble_eq_true rfl) ⟨Nat.zero_le _, Nat.zero_le _⟩ dX0_addHold_25 (g_rI ?_)
  refine g_ifB_eq (pc := 28) 42 dX0_addHold_28 (by decide) (fun h28 => absurd h28 (by rw [inR_nI (by omega), decide_eq_true (show y < 4 by omega)]; decide)) (fun h28 => ?_)
  refine g_iload_n (pc := 31) 3 rfl rfl dX0_addHold_31 ?_
  refine g_iconst (pc := 32) (nI 1) (by decide) dX0_addHold_32 ?_
  refine g_icmpN_lt (pc := 33) 42 dX0_addHold_33 (by decide) (by omega) (by omega) (fun h33 => absurd h33 (by omega)) (fun h33 => ?_)
  refine g_iload_n (pc := 36) 3 rfl rfl dX0_addHold_36 ?_
  refine g_bipush (pc := 37) (nI 51) (by decide) dX0_addHold_37 ?_
  refine g_icmpN_le (pc := 39) 44 dX0_addHold_39 (by decide) (by omega) (by omega) (fun h39 => ?_) (fun h39 => absurd h39 (by omega))
  refine g_aload_n (pc := 44) 0 rfl rfl dX0_addHold_44 ?_
  refine fX0_19 (pc := 45) (b + 2) rfl hB.1.1 hB.1.2.2.2.2.2.2 (by omega) dX0_addHold_45 ?_
  refine g_aload_n (pc := 48) 0 rfl rfl dX0_addHold_48 ?_
  refine fX0_29 (pc := 49) rfl hB.1.1 dX0_addHold_49 ?_
  refine g_aaload (pc := 52) (t0 := 3) (r := (b + 13 + (M.1 b 3))) hB.1.2.2.2.1 (by decide) rfl (by rw [hB.1.2.2.2.2.1]; omega) (by rw [hB.1.2.2.2.2.1]; omega) (hB.2.2 (M.1 b 3) (by omega)).2 (by omega) dX0_addHold_52 ?_
  refine g_astore (pc := 53) [(0, .ref (gAd E b)), (1, .int (nI x)), (2, .int (nI y)), (3, .int (nI z)), (4, .ref (gAd E ((b + 13 + (M.1 b 3)))))] dX0_addHold_53 (by decide) rfl rfl ?_
  refine g_aload (pc := 55) 4 rfl dX0_addHold_55 ?_
  refine g_iload_n (pc := 57) 1 rfl rfl dX0_addHold_57 ?_
  refine uX0_77 (pc := 58) rfl (hB.2.2 (M.1 b 3) (by omega)).1 dX0_addHold_58 ?_
  refine g_aload (pc := 61) 4 rfl dX0_addHold_61 ?_
  refine g_iload_n (pc := 63) 2 rfl rfl dX0_addHold_63 ?_
  refine uX0_80 (pc := 64) rfl (hB.2.2 (M.1 b 3) (by omega)).1 dX0_addHold_64 ?_
  refine g_aload (pc := 67) 4 rfl dX0_addHold_67 ?_
  refine g_iload_n (pc := 69) 3 rfl rfl dX0_addHold_69 ?_
  refine uX0_83 (pc := 70) rfl (hB.2.2 (M.1 b 3) (by omega)).1 dX0_addHold_70 ?_
  refine g_aload_n (pc := 73) 0 rfl rfl dX0_addHold_73 ?_
  refine g_dup (pc := 74) rfl dX0_addHold_74 ?_
  refine fX0_29 (pc := 75) rfl hB.1.1 dX0_addHold_75 ?_
  refine g_topi (pc := 78) (x' := nI (M.1 b 3)) (by simp [gU, hbb]) ?_
  refine g_iconst (pc := 78) (nI 1) (by decide) dX0_addHold_78 ?_
  refine g_iaddN (pc := 79) dX0_addHold_79 ?_
  refine uX0_29 (pc := 80) rfl hB.1.1 dX0_addHold_80 ?_
  refine g_iconst (pc := 83) (nI 1) (by decide) dX0_addHold_83 ?_
  refine g_topi (pc := 84) (x' := gb true) (by decide) ?_
  exact g_zret (pc := 84) rfl dX0_addHold_84 ⟨rfl, rfl⟩
set_option maxRecDepth 100000 in
set_option maxHeartbeats 4000000 in
theorem kX0_addHold_f (l : Launch) (E : gEnv) (M : gMem) (b x y z : Nat) (hB : cBr E M b) (hn : M.1 b 3 ≤ 4) (hx : x < 100) (hy : y < 100) (hz : z < 100) (hno : ¬ (M.1 b 3 < 4 ∧ x ≠ y ∧ x < 4 ∧ y < 4 ∧ 1 ≤ z ∧ z ≤ 51)) : gMet l E mX0_addHold 1 [.ref (gAd E b), .int (nI x), .int (nI y), .int (nI z)] M (fun v u => v = some (.int (gb false)) ∧ u = M) := by
  refine gMet_of (mm := mX0_addHold) (h := 1) (M := M) [(0, .ref (gAd E b)), (1, .int (nI x)), (2, .int (nI y)), (3, .int (nI z))] (by decide) (Nat.le_of_ble_eq_true rfl) rfl ?_
  refine g_aload_n (pc := 0) 0 rfl rfl dX0_addHold_0 ?_
  refine fX0_29 (pc := 1) rfl hB.1.1 dX0_addHold_1 ?_
  refine g_iconst (pc := 4) (nI 4) (by decide) dX0_addHold_4 ?_
  refine g_icmpN_ge (pc := 5) 13 dX0_addHold_5 (by decide) (by omega) (by omega) (fun h5 => ?_) (fun h5 => ?_)
  · refine g_iconst (pc := 13) (nI 0) (by decide) dX0_addHold_13 ?_
    refine g_topi (pc := 14) (x' := gb false) (by decide) ?_
    exact g_zret (pc := 14) rfl dX0_addHold_14 ⟨rfl, rfl⟩
  · refine g_iload_n (pc := 8) 1 rfl rfl dX0_addHold_8 ?_
    refine g_iload_n (pc := 9) 2 rfl rfl dX0_addHold_9 ?_
    refine g_icmpN_ne (pc := 10) 15 dX0_addHold_10 (by decide) (by omega) (by omega) (fun h10 => ?_) (fun h10 => ?_)
    · refine g_iload_n (pc := 15) 1 rfl rfl dX0_addHold_15 ?_
      refine g_iconst (pc := 16) (nI 4) (by decide) dX0_addHold_16 ?_
      refine g_callSN (pc := 17) (mc := mX6_isBelow) (rest := []) lX0_74 iX6_isBelow (kX6_isBelow l E M (nI x) 4 (by omega)) ⟨Nat.le_of_ble_eq_true rfl, Nat.le_of_ble_eq_true rfl⟩ rfl rfl (Nat.le_of_ble_eq_true rfl) ⟨Nat.zero_le _, Nat.zero_le _⟩ dX0_addHold_17 (g_rI ?_)
      refine g_ifB_eq (pc := 20) 42 dX0_addHold_20 (by decide) (fun h20 => ?_) (fun h20 => ?_)
      · refine g_iconst (pc := 42) (nI 0) (by decide) dX0_addHold_42 ?_
        refine g_topi (pc := 43) (x' := gb false) (by decide) ?_
        exact g_zret (pc := 43) rfl dX0_addHold_43 ⟨rfl, rfl⟩
      · refine g_iload_n (pc := 23) 2 rfl rfl dX0_addHold_23 ?_
        refine g_iconst (pc := 24) (nI 4) (by decide) dX0_addHold_24 ?_
        refine g_callSN (pc := 25) (mc := mX6_isBelow) (rest := []) lX0_74 iX6_isBelow (kX6_isBelow l E M (nI y) 4 (by omega)) ⟨Nat.le_of_ble_eq_true rfl, Nat.le_of_ble_eq_true rfl⟩ rfl rfl (Nat.le_of_ble_eq_true rfl) ⟨Nat.zero_le _, Nat.zero_le _⟩ dX0_addHold_25 (g_rI ?_)
        refine g_ifB_eq (pc := 28) 42 dX0_addHold_28 (by decide) (fun h28 => ?_) (fun h28 => ?_)
        · refine g_iconst (pc := 42) (nI 0) (by decide) dX0_addHold_42 ?_
          refine g_topi (pc := 43) (x' := gb false) (by decide) ?_
          exact g_zret (pc := 43) rfl dX0_addHold_43 ⟨rfl, rfl⟩
        · refine g_iload_n (pc := 31) 3 rfl rfl dX0_addHold_31 ?_
          refine g_iconst (pc := 32) (nI 1) (by decide) dX0_addHold_32 ?_
          refine g_icmpN_lt (pc := 33) 42 dX0_addHold_33 (by decide) (by omega) (by omega) (fun h33 => ?_) (fun h33 => ?_)
          · refine g_iconst (pc := 42) (nI 0) (by decide) dX0_addHold_42 ?_
            refine g_topi (pc := 43) (x' := gb false) (by decide) ?_
            exact g_zret (pc := 43) rfl dX0_addHold_43 ⟨rfl, rfl⟩
          · refine g_iload_n (pc := 36) 3 rfl rfl dX0_addHold_36 ?_
            refine g_bipush (pc := 37) (nI 51) (by decide) dX0_addHold_37 ?_
            refine g_icmpN_le (pc := 39) 44 dX0_addHold_39 (by decide) (by omega) (by omega) (fun h39 => absurd h39 (by have q1 := of_decide_eq_true (inR_nI (j := x) (n := 4) (by omega) ▸ h20); have q2 := of_decide_eq_true (inR_nI (j := y) (n := 4) (by omega) ▸ h28); omega)) (fun h39 => ?_)
            refine g_iconst (pc := 42) (nI 0) (by decide) dX0_addHold_42 ?_
            refine g_topi (pc := 43) (x' := gb false) (by decide) ?_
            exact g_zret (pc := 43) rfl dX0_addHold_43 ⟨rfl, rfl⟩
    · refine g_iconst (pc := 13) (nI 0) (by decide) dX0_addHold_13 ?_
      refine g_topi (pc := 14) (x' := gb false) (by decide) ?_
      exact g_zret (pc := 14) rfl dX0_addHold_14 ⟨rfl, rfl⟩
set_option maxRecDepth 100000 in
set_option maxHeartbeats 4000000 in
theorem kX0_clear (l : Launch) (E : gEnv) (M : gMem) (b : Nat) (hB : cBr E M b) : gMetU l E mX0_clear 0 [.ref (gAd E b)] M (gU (gU (gU (gU M b 1 0) b 3 0) b 4 0) b 5 51) := by
  refine gMet_of (mm := mX0_clear) (h := 0) (M := M) [(0, .ref (gAd E b))] (by decide) (Nat.le_of_ble_eq_true rfl) rfl ?_
  refine g_aload_n (pc := 0) 0 rfl rfl dX0_clear_0 ?_
  refine g_iconst (pc := 1) (nI 0) (by decide) dX0_clear_1 ?_
  refine uX0_25 (pc := 2) rfl hB.1.1 dX0_clear_2 ?_
  refine g_aload_n (pc := 5) 0 rfl rfl dX0_clear_5 ?_
  refine g_iconst (pc := 6) (nI 0) (by decide) dX0_clear_6 ?_
  refine uX0_29 (pc := 7) rfl hB.1.1 dX0_clear_7 ?_
  refine g_aload_n (pc := 10) 0 rfl rfl dX0_clear_10 ?_
  refine g_iconst (pc := 11) (nI 0) (by decide) dX0_clear_11 ?_
  refine uX0_32 (pc := 12) rfl hB.1.1 dX0_clear_12 ?_
  refine g_aload_n (pc := 15) 0 rfl rfl dX0_clear_15 ?_
  refine g_bipush (pc := 16) (nI 51) (by decide) dX0_clear_16 ?_
  refine uX0_35 (pc := 18) rfl hB.1.1 dX0_clear_18 ?_
  exact g_vret (pc := 21) rfl dX0_clear_21 ⟨rfl, rfl⟩
