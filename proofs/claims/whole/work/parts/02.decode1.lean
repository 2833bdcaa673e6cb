theorem dX6_drop_27 : decode cX6_drop 27 = .ok (.dup, 1) := by decide +kernel
theorem dX6_drop_28 : decode cX6_drop 28 = .ok (.getfield 63, 3) := by decide +kernel
theorem dX6_drop_31 : decode cX6_drop 31 = .ok (.iconst 1, 1) := by decide +kernel
theorem dX6_drop_32 : decode cX6_drop 32 = .ok (.iload_n 1, 1) := by decide +kernel
theorem dX6_drop_33 : decode cX6_drop 33 = .ok (.ishl, 1) := by decide +kernel
theorem dX6_drop_34 : decode cX6_drop 34 = .ok (.iconst (-1), 1) := by decide +kernel
theorem dX6_drop_35 : decode cX6_drop 35 = .ok (.ixor, 1) := by decide +kernel
theorem dX6_drop_36 : decode cX6_drop 36 = .ok (.iand, 1) := by decide +kernel
theorem dX6_drop_37 : decode cX6_drop 37 = .ok (.putfield 63, 3) := by decide +kernel
theorem dX6_drop_40 : decode cX6_drop 40 = .ok (.aload_n 0, 1) := by decide +kernel
theorem dX6_drop_41 : decode cX6_drop 41 = .ok (.getfield 63, 3) := by decide +kernel
theorem dX6_drop_44 : decode cX6_drop 44 = .ok (.invokestatic 81, 3) := by decide +kernel
theorem dX6_drop_47 : decode cX6_drop 47 = .ok (.ireturn, 1) := by decide +kernel
theorem dX6_move_0 : decode cX6_move 0 = .ok (.aload_n 0, 1) := by decide +kernel
theorem dX6_move_1 : decode cX6_move 1 = .ok (.iload_n 1, 1) := by decide +kernel
theorem dX6_move_2 : decode cX6_move 2 = .ok (.invokevirtual 69, 3) := by decide +kernel
theorem dX6_move_5 : decode cX6_move 5 = .ok (.ifCond .eq 13, 3) := by decide +kernel
theorem dX6_move_8 : decode cX6_move 8 = .ok (.iload_n 2, 1) := by decide +kernel
theorem dX6_move_9 : decode cX6_move 9 = .ok (.ifCond .lt 9, 3) := by decide +kernel
theorem dX6_move_12 : decode cX6_move 12 = .ok (.iload_n 2, 1) := by decide +kernel
theorem dX6_move_13 : decode cX6_move 13 = .ok (.bipush 51, 2) := by decide +kernel
theorem dX6_move_15 : decode cX6_move 15 = .ok (.if_icmp .le 5, 3) := by decide +kernel
theorem dX6_move_18 : decode cX6_move 18 = .ok (.iconst (-1), 1) := by decide +kernel
theorem dX6_move_19 : decode cX6_move 19 = .ok (.ireturn, 1) := by decide +kernel
theorem dX6_move_20 : decode cX6_move 20 = .ok (.aload_n 0, 1) := by decide +kernel
theorem dX6_move_21 : decode cX6_move 21 = .ok (.getfield 23, 3) := by decide +kernel
theorem dX6_move_24 : decode cX6_move 24 = .ok (.getfield 93, 3) := by decide +kernel
theorem dX6_move_27 : decode cX6_move 27 = .ok (.iload_n 1, 1) := by decide +kernel
theorem dX6_move_28 : decode cX6_move 28 = .ok (.aaload, 1) := by decide +kernel
theorem dX6_move_29 : decode cX6_move 29 = .ok (.astore_n 3, 1) := by decide +kernel
theorem dX6_move_30 : decode cX6_move 30 = .ok (.aload_n 3, 1) := by decide +kernel
theorem dX6_move_31 : decode cX6_move 31 = .ok (.getfield 97, 3) := by decide +kernel
theorem dX6_move_34 : decode cX6_move 34 = .ok (.istore 4, 2) := by decide +kernel
theorem dX6_move_36 : decode cX6_move 36 = .ok (.aload_n 0, 1) := by decide +kernel
theorem dX6_move_37 : decode cX6_move 37 = .ok (.iload_n 1, 1) := by decide +kernel
theorem dX6_move_38 : decode cX6_move 38 = .ok (.invokevirtual 90, 3) := by decide +kernel
theorem dX6_move_41 : decode cX6_move 41 = .ok (.ifCond .ne 17, 3) := by decide +kernel
theorem dX6_move_44 : decode cX6_move 44 = .ok (.iload_n 2, 1) := by decide +kernel
theorem dX6_move_45 : decode cX6_move 45 = .ok (.iload 4, 2) := by decide +kernel
theorem dX6_move_47 : decode cX6_move 47 = .ok (.if_icmp .eq 11, 3) := by decide +kernel
theorem dX6_move_50 : decode cX6_move 50 = .ok (.iload_n 2, 1) := by decide +kernel
theorem dX6_move_51 : decode cX6_move 51 = .ok (.aload_n 3, 1) := by decide +kernel
theorem dX6_move_52 : decode cX6_move 52 = .ok (.invokevirtual 102, 3) := by decide +kernel
theorem dX6_move_55 : decode cX6_move 55 = .ok (.if_icmp .le 6, 3) := by decide +kernel
theorem dX6_move_58 : decode cX6_move 58 = .ok (.bipush (-2), 2) := by decide +kernel
theorem dX6_move_60 : decode cX6_move 60 = .ok (.ireturn, 1) := by decide +kernel
theorem dX6_move_61 : decode cX6_move 61 = .ok (.aload_n 0, 1) := by decide +kernel
theorem dX6_move_62 : decode cX6_move 62 = .ok (.iload_n 1, 1) := by decide +kernel
theorem dX6_move_63 : decode cX6_move 63 = .ok (.invokevirtual 77, 3) := by decide +kernel
theorem dX6_move_66 : decode cX6_move 66 = .ok (.aload_n 3, 1) := by decide +kernel
theorem dX6_move_67 : decode cX6_move 67 = .ok (.iload_n 2, 1) := by decide +kernel
theorem dX6_move_68 : decode cX6_move 68 = .ok (.putfield 97, 3) := by decide +kernel
theorem dX6_move_71 : decode cX6_move 71 = .ok (.iload 4, 2) := by decide +kernel
theorem dX6_move_73 : decode cX6_move 73 = .ok (.ireturn, 1) := by decide +kernel
theorem dX6_soonest_0 : decode cX6_soonest 0 = .ok (.aload_n 0, 1) := by decide +kernel
theorem dX6_soonest_1 : decode cX6_soonest 1 = .ok (.iload_n 1, 1) := by decide +kernel
theorem dX6_soonest_2 : decode cX6_soonest 2 = .ok (.invokevirtual 69, 3) := by decide +kernel
theorem dX6_soonest_5 : decode cX6_soonest 5 = .ok (.ifCond .ne 5, 3) := by decide +kernel
theorem dX6_soonest_8 : decode cX6_soonest 8 = .ok (.iconst (-1), 1) := by decide +kernel
theorem dX6_soonest_9 : decode cX6_soonest 9 = .ok (.ireturn, 1) := by decide +kernel
theorem dX6_soonest_10 : decode cX6_soonest 10 = .ok (.aload_n 0, 1) := by decide +kernel
theorem dX6_soonest_11 : decode cX6_soonest 11 = .ok (.iload_n 1, 1) := by decide +kernel
theorem dX6_soonest_12 : decode cX6_soonest 12 = .ok (.invokevirtual 90, 3) := by decide +kernel
theorem dX6_soonest_15 : decode cX6_soonest 15 = .ok (.ifCond .eq 6, 3) := by decide +kernel
theorem dX6_soonest_18 : decode cX6_soonest 18 = .ok (.bipush (-2), 2) := by decide +kernel
theorem dX6_soonest_20 : decode cX6_soonest 20 = .ok (.ireturn, 1) := by decide +kernel
theorem dX6_soonest_21 : decode cX6_soonest 21 = .ok (.aload_n 0, 1) := by decide +kernel
theorem dX6_soonest_22 : decode cX6_soonest 22 = .ok (.getfield 23, 3) := by decide +kernel
theorem dX6_soonest_25 : decode cX6_soonest 25 = .ok (.getfield 93, 3) := by decide +kernel
theorem dX6_soonest_28 : decode cX6_soonest 28 = .ok (.iload_n 1, 1) := by decide +kernel
theorem dX6_soonest_29 : decode cX6_soonest 29 = .ok (.aaload, 1) := by decide +kernel
theorem dX6_soonest_30 : decode cX6_soonest 30 = .ok (.astore_n 2, 1) := by decide +kernel
theorem dX6_soonest_31 : decode cX6_soonest 31 = .ok (.aload_n 2, 1) := by decide +kernel
theorem dX6_soonest_32 : decode cX6_soonest 32 = .ok (.getfield 97, 3) := by decide +kernel
theorem dX6_soonest_35 : decode cX6_soonest 35 = .ok (.istore_n 3, 1) := by decide +kernel
theorem dX6_soonest_36 : decode cX6_soonest 36 = .ok (.bipush (-4), 2) := by decide +kernel
theorem dX6_soonest_38 : decode cX6_soonest 38 = .ok (.istore 4, 2) := by decide +kernel
theorem dX6_soonest_40 : decode cX6_soonest 40 = .ok (.iload_n 3, 1) := by decide +kernel
theorem dX6_soonest_41 : decode cX6_soonest 41 = .ok (.istore 5, 2) := by decide +kernel
theorem dX6_soonest_43 : decode cX6_soonest 43 = .ok (.iload 5, 2) := by decide +kernel
theorem dX6_soonest_45 : decode cX6_soonest 45 = .ok (.aload_n 2, 1) := by decide +kernel
theorem dX6_soonest_46 : decode cX6_soonest 46 = .ok (.invokevirtual 102, 3) := by decide +kernel
theorem dX6_soonest_49 : decode cX6_soonest 49 = .ok (.if_icmp .gt 34, 3) := by decide +kernel
theorem dX6_soonest_52 : decode cX6_soonest 52 = .ok (.iload 4, 2) := by decide +kernel
theorem dX6_soonest_54 : decode cX6_soonest 54 = .ok (.bipush (-4), 2) := by decide +kernel
theorem dX6_soonest_56 : decode cX6_soonest 56 = .ok (.if_icmp .ne 27, 3) := by decide +kernel
theorem dX6_soonest_59 : decode cX6_soonest 59 = .ok (.aload_n 2, 1) := by decide +kernel
theorem dX6_soonest_60 : decode cX6_soonest 60 = .ok (.iload 5, 2) := by decide +kernel
theorem dX6_soonest_62 : decode cX6_soonest 62 = .ok (.putfield 97, 3) := by decide +kernel
theorem dX6_soonest_65 : decode cX6_soonest 65 = .ok (.aload_n 0, 1) := by decide +kernel
theorem dX6_soonest_66 : decode cX6_soonest 66 = .ok (.iload_n 1, 1) := by decide +kernel
theorem dX6_soonest_67 : decode cX6_soonest 67 = .ok (.invokevirtual 73, 3) := by decide +kernel
theorem dX6_soonest_70 : decode cX6_soonest 70 = .ok (.ifCond .ne 7, 3) := by decide +kernel
theorem dX6_soonest_73 : decode cX6_soonest 73 = .ok (.iload 5, 2) := by decide +kernel
theorem dX6_soonest_75 : decode cX6_soonest 75 = .ok (.istore 4, 2) := by decide +kernel
theorem dX6_soonest_77 : decode cX6_soonest 77 = .ok (.iinc 5 1, 3) := by decide +kernel
theorem dX6_soonest_80 : decode cX6_soonest 80 = .ok (.goto (-37), 3) := by decide +kernel
theorem dX6_soonest_83 : decode cX6_soonest 83 = .ok (.aload_n 2, 1) := by decide +kernel
theorem dX6_soonest_84 : decode cX6_soonest 84 = .ok (.iload_n 3, 1) := by decide +kernel
theorem dX6_soonest_85 : decode cX6_soonest 85 = .ok (.putfield 97, 3) := by decide +kernel
theorem dX6_soonest_88 : decode cX6_soonest 88 = .ok (.iload 4, 2) := by decide +kernel
theorem dX6_soonest_90 : decode cX6_soonest 90 = .ok (.ireturn, 1) := by decide +kernel
theorem dX6_undo_0 : decode cX6_undo 0 = .ok (.aload_n 0, 1) := by decide +kernel
theorem dX6_undo_1 : decode cX6_undo 1 = .ok (.getfield 33, 3) := by decide +kernel
theorem dX6_undo_4 : decode cX6_undo 4 = .ok (.invokevirtual 105, 3) := by decide +kernel
theorem dX6_undo_7 : decode cX6_undo 7 = .ok (.astore_n 1, 1) := by decide +kernel
theorem dX6_undo_8 : decode cX6_undo 8 = .ok (.aload_n 1, 1) := by decide +kernel
theorem dX6_undo_9 : decode cX6_undo 9 = .ok (.ifnonnull 6, 3) := by decide +kernel
theorem dX6_undo_12 : decode cX6_undo 12 = .ok (.bipush (-2), 2) := by decide +kernel
theorem dX6_undo_14 : decode cX6_undo 14 = .ok (.ireturn, 1) := by decide +kernel
theorem dX6_undo_15 : decode cX6_undo 15 = .ok (.aload_n 0, 1) := by decide +kernel
theorem dX6_undo_16 : decode cX6_undo 16 = .ok (.aload_n 1, 1) := by decide +kernel
theorem dX6_undo_17 : decode cX6_undo 17 = .ok (.getfield 109, 3) := by decide +kernel
theorem dX6_undo_20 : decode cX6_undo 20 = .ok (.putfield 63, 3) := by decide +kernel
theorem dX6_undo_23 : decode cX6_undo 23 = .ok (.aload_n 0, 1) := by decide +kernel
theorem dX6_undo_24 : decode cX6_undo 24 = .ok (.aload_n 1, 1) := by decide +kernel
theorem dX6_undo_25 : decode cX6_undo 25 = .ok (.getfield 112, 3) := by decide +kernel
theorem dX6_undo_28 : decode cX6_undo 28 = .ok (.invokevirtual 69, 3) := by decide +kernel
theorem dX6_undo_31 : decode cX6_undo 31 = .ok (.ifCond .eq 22, 3) := by decide +kernel
theorem dX6_undo_34 : decode cX6_undo 34 = .ok (.aload_n 0, 1) := by decide +kernel
theorem dX6_undo_35 : decode cX6_undo 35 = .ok (.getfield 23, 3) := by decide +kernel
theorem dX6_undo_38 : decode cX6_undo 38 = .ok (.getfield 93, 3) := by decide +kernel
theorem dX6_undo_41 : decode cX6_undo 41 = .ok (.aload_n 1, 1) := by decide +kernel
theorem dX6_undo_42 : decode cX6_undo 42 = .ok (.getfield 112, 3) := by decide +kernel
theorem dX6_undo_45 : decode cX6_undo 45 = .ok (.aaload, 1) := by decide +kernel
theorem dX6_undo_46 : decode cX6_undo 46 = .ok (.aload_n 1, 1) := by decide +kernel
theorem dX6_undo_47 : decode cX6_undo 47 = .ok (.getfield 115, 3) := by decide +kernel
theorem dX6_undo_50 : decode cX6_undo 50 = .ok (.putfield 97, 3) := by decide +kernel
theorem dX6_undo_53 : decode cX6_undo 53 = .ok (.aload_n 0, 1) := by decide +kernel
theorem dX6_undo_54 : decode cX6_undo 54 = .ok (.getfield 33, 3) := by decide +kernel
theorem dX6_undo_57 : decode cX6_undo 57 = .ok (.getfield 116, 3) := by decide +kernel
theorem dX6_undo_60 : decode cX6_undo 60 = .ok (.ireturn, 1) := by decide +kernel
theorem dX6_isOffer_0 : decode cX6_isOffer 0 = .ok (.iload_n 1, 1) := by decide +kernel
theorem dX6_isOffer_1 : decode cX6_isOffer 1 = .ok (.ifCond .lt 18, 3) := by decide +kernel
theorem dX6_isOffer_4 : decode cX6_isOffer 4 = .ok (.iload_n 1, 1) := by decide +kernel
theorem dX6_isOffer_5 : decode cX6_isOffer 5 = .ok (.aload_n 0, 1) := by decide +kernel
theorem dX6_isOffer_6 : decode cX6_isOffer 6 = .ok (.getfield 23, 3) := by decide +kernel
theorem dX6_isOffer_9 : decode cX6_isOffer 9 = .ok (.getfield 60, 3) := by decide +kernel
theorem dX6_isOffer_12 : decode cX6_isOffer 12 = .ok (.if_icmp .ge 7, 3) := by decide +kernel
theorem dX6_isOffer_15 : decode cX6_isOffer 15 = .ok (.iconst 1, 1) := by decide +kernel
theorem dX6_isOffer_16 : decode cX6_isOffer 16 = .ok (.goto 4, 3) := by decide +kernel
theorem dX6_isOffer_19 : decode cX6_isOffer 19 = .ok (.iconst 0, 1) := by decide +kernel
theorem dX6_isOffer_20 : decode cX6_isOffer 20 = .ok (.ireturn, 1) := by decide +kernel
theorem dX6_isSigned_0 : decode cX6_isSigned 0 = .ok (.aload_n 0, 1) := by decide +kernel
theorem dX6_isSigned_1 : decode cX6_isSigned 1 = .ok (.getfield 63, 3) := by decide +kernel
theorem dX6_isSigned_4 : decode cX6_isSigned 4 = .ok (.iload_n 1, 1) := by decide +kernel
theorem dX6_isSigned_5 : decode cX6_isSigned 5 = .ok (.invokestatic 119, 3) := by decide +kernel
theorem dX6_isSigned_8 : decode cX6_isSigned 8 = .ok (.ireturn, 1) := by decide +kernel
theorem dX6_whatSpeaksAgainst_0 : decode cX6_whatSpeaksAgainst 0 = .ok (.aload_n 0, 1) := by decide +kernel
theorem dX6_whatSpeaksAgainst_1 : decode cX6_whatSpeaksAgainst 1 = .ok (.iload_n 1, 1) := by decide +kernel
theorem dX6_whatSpeaksAgainst_2 : decode cX6_whatSpeaksAgainst 2 = .ok (.invokevirtual 90, 3) := by decide +kernel
theorem dX6_whatSpeaksAgainst_5 : decode cX6_whatSpeaksAgainst 5 = .ok (.ifCond .eq 5, 3) := by decide +kernel
theorem dX6_whatSpeaksAgainst_8 : decode cX6_whatSpeaksAgainst 8 = .ok (.iconst 1, 1) := by decide +kernel
theorem dX6_whatSpeaksAgainst_9 : decode cX6_whatSpeaksAgainst 9 = .ok (.ireturn, 1) := by decide +kernel
theorem dX6_whatSpeaksAgainst_10 : decode cX6_whatSpeaksAgainst 10 = .ok (.aload_n 0, 1) := by decide +kernel
theorem dX6_whatSpeaksAgainst_11 : decode cX6_whatSpeaksAgainst 11 = .ok (.getfield 23, 3) := by decide +kernel
theorem dX6_whatSpeaksAgainst_14 : decode cX6_whatSpeaksAgainst 14 = .ok (.iload_n 1, 1) := by decide +kernel
theorem dX6_whatSpeaksAgainst_15 : decode cX6_whatSpeaksAgainst 15 = .ok (.invokevirtual 123, 3) := by decide +kernel
theorem dX6_whatSpeaksAgainst_18 : decode cX6_whatSpeaksAgainst 18 = .ok (.ifCond .ne 5, 3) := by decide +kernel
theorem dX6_whatSpeaksAgainst_21 : decode cX6_whatSpeaksAgainst 21 = .ok (.iconst 2, 1) := by decide +kernel
theorem dX6_whatSpeaksAgainst_22 : decode cX6_whatSpeaksAgainst 22 = .ok (.ireturn, 1) := by decide +kernel
theorem dX6_whatSpeaksAgainst_23 : decode cX6_whatSpeaksAgainst 23 = .ok (.aload_n 0, 1) := by decide +kernel
theorem dX6_whatSpeaksAgainst_24 : decode cX6_whatSpeaksAgainst 24 = .ok (.getfield 23, 3) := by decide +kernel
theorem dX6_whatSpeaksAgainst_27 : decode cX6_whatSpeaksAgainst 27 = .ok (.iload_n 1, 1) := by decide +kernel
theorem dX6_whatSpeaksAgainst_28 : decode cX6_whatSpeaksAgainst 28 = .ok (.aload_n 0, 1) := by decide +kernel
theorem dX6_whatSpeaksAgainst_29 : decode cX6_whatSpeaksAgainst 29 = .ok (.getfield 63, 3) := by decide +kernel
theorem dX6_whatSpeaksAgainst_32 : decode cX6_whatSpeaksAgainst 32 = .ok (.invokevirtual 86, 3) := by decide +kernel
theorem dX6_whatSpeaksAgainst_35 : decode cX6_whatSpeaksAgainst 35 = .ok (.bipush (-4), 2) := by decide +kernel
theorem dX6_whatSpeaksAgainst_37 : decode cX6_whatSpeaksAgainst 37 = .ok (.if_icmp .eq 5, 3) := by decide +kernel
theorem dX6_whatSpeaksAgainst_40 : decode cX6_whatSpeaksAgainst 40 = .ok (.iconst 3, 1) := by decide +kernel
theorem dX6_whatSpeaksAgainst_41 : decode cX6_whatSpeaksAgainst 41 = .ok (.ireturn, 1) := by decide +kernel
theorem dX6_whatSpeaksAgainst_42 : decode cX6_whatSpeaksAgainst 42 = .ok (.aload_n 0, 1) := by decide +kernel
theorem dX6_whatSpeaksAgainst_43 : decode cX6_whatSpeaksAgainst 43 = .ok (.getfield 23, 3) := by decide +kernel
theorem dX6_whatSpeaksAgainst_46 : decode cX6_whatSpeaksAgainst 46 = .ok (.aload_n 0, 1) := by decide +kernel
theorem dX6_whatSpeaksAgainst_47 : decode cX6_whatSpeaksAgainst 47 = .ok (.getfield 63, 3) := by decide +kernel
theorem dX6_whatSpeaksAgainst_50 : decode cX6_whatSpeaksAgainst 50 = .ok (.iconst 1, 1) := by decide +kernel
theorem dX6_whatSpeaksAgainst_51 : decode cX6_whatSpeaksAgainst 51 = .ok (.iload_n 1, 1) := by decide +kernel
theorem dX6_whatSpeaksAgainst_52 : decode cX6_whatSpeaksAgainst 52 = .ok (.ishl, 1) := by decide +kernel
theorem dX6_whatSpeaksAgainst_53 : decode cX6_whatSpeaksAgainst 53 = .ok (.ior, 1) := by decide +kernel
theorem dX6_whatSpeaksAgainst_54 : decode cX6_whatSpeaksAgainst 54 = .ok (.invokevirtual 126, 3) := by decide +kernel
theorem dX6_whatSpeaksAgainst_57 : decode cX6_whatSpeaksAgainst 57 = .ok (.ifCond .eq 7, 3) := by decide +kernel
theorem dX6_whatSpeaksAgainst_60 : decode cX6_whatSpeaksAgainst 60 = .ok (.iconst 0, 1) := by decide +kernel
theorem dX6_whatSpeaksAgainst_61 : decode cX6_whatSpeaksAgainst 61 = .ok (.goto 4, 3) := by decide +kernel
theorem dX6_whatSpeaksAgainst_64 : decode cX6_whatSpeaksAgainst 64 = .ok (.iconst 4, 1) := by decide +kernel
theorem dX6_whatSpeaksAgainst_65 : decode cX6_whatSpeaksAgainst 65 = .ok (.ireturn, 1) := by decide +kernel
theorem dX6_remember_0 : decode cX6_remember 0 = .ok (.aload_n 0, 1) := by decide +kernel
theorem dX6_remember_1 : decode cX6_remember 1 = .ok (.getfield 33, 3) := by decide +kernel
theorem dX6_remember_4 : decode cX6_remember 4 = .ok (.aload_n 0, 1) := by decide +kernel
theorem dX6_remember_5 : decode cX6_remember 5 = .ok (.getfield 63, 3) := by decide +kernel
theorem dX6_remember_8 : decode cX6_remember 8 = .ok (.iload_n 1, 1) := by decide +kernel
theorem dX6_remember_9 : decode cX6_remember 9 = .ok (.aload_n 0, 1) := by decide +kernel
theorem dX6_remember_10 : decode cX6_remember 10 = .ok (.getfield 23, 3) := by decide +kernel
theorem dX6_remember_13 : decode cX6_remember 13 = .ok (.getfield 93, 3) := by decide +kernel
theorem dX6_remember_16 : decode cX6_remember 16 = .ok (.iload_n 1, 1) := by decide +kernel
theorem dX6_remember_17 : decode cX6_remember 17 = .ok (.aaload, 1) := by decide +kernel
theorem dX6_remember_18 : decode cX6_remember 18 = .ok (.getfield 97, 3) := by decide +kernel
theorem dX6_remember_21 : decode cX6_remember 21 = .ok (.invokevirtual 129, 3) := by decide +kernel
theorem dX6_remember_24 : decode cX6_remember 24 = .ok (.return_, 1) := by decide +kernel
theorem dX6_offer_0 : decode cX6_offer 0 = .ok (.aload_n 0, 1) := by decide +kernel
theorem dX6_offer_1 : decode cX6_offer 1 = .ok (.iload_n 1, 1) := by decide +kernel
theorem dX6_offer_2 : decode cX6_offer 2 = .ok (.invokevirtual 69, 3) := by decide +kernel
theorem dX6_offer_5 : decode cX6_offer 5 = .ok (.ifCond .ne 5, 3) := by decide +kernel
theorem dX6_offer_8 : decode cX6_offer 8 = .ok (.iconst (-1), 1) := by decide +kernel
theorem dX6_offer_9 : decode cX6_offer 9 = .ok (.ireturn, 1) := by decide +kernel
theorem dX6_offer_10 : decode cX6_offer 10 = .ok (.aload_n 0, 1) := by decide +kernel
theorem dX6_offer_11 : decode cX6_offer 11 = .ok (.getfield 23, 3) := by decide +kernel
theorem dX6_offer_14 : decode cX6_offer 14 = .ok (.getfield 93, 3) := by decide +kernel
theorem dX6_offer_17 : decode cX6_offer 17 = .ok (.iload_n 1, 1) := by decide +kernel
theorem dX6_offer_18 : decode cX6_offer 18 = .ok (.aaload, 1) := by decide +kernel
theorem dX6_offer_19 : decode cX6_offer 19 = .ok (.astore_n 3, 1) := by decide +kernel
theorem dX6_offer_20 : decode cX6_offer 20 = .ok (.iload_n 2, 1) := by decide +kernel
theorem dX6_offer_21 : decode cX6_offer 21 = .ok (.tableswitch 114 0 8 #[51, 56, 61, 66, 71, 76, 89, 94, 108], 51) := by decide +kernel
theorem dX6_offer_72 : decode cX6_offer 72 = .ok (.aload_n 3, 1) := by decide +kernel
theorem dX6_offer_73 : decode cX6_offer 73 = .ok (.getfield 133, 3) := by decide +kernel
theorem dX6_offer_76 : decode cX6_offer 76 = .ok (.ireturn, 1) := by decide +kernel
theorem dX6_offer_77 : decode cX6_offer 77 = .ok (.aload_n 3, 1) := by decide +kernel
theorem dX6_offer_78 : decode cX6_offer 78 = .ok (.getfield 136, 3) := by decide +kernel
theorem dX6_offer_81 : decode cX6_offer 81 = .ok (.ireturn, 1) := by decide +kernel
theorem dX6_offer_82 : decode cX6_offer 82 = .ok (.aload_n 3, 1) := by decide +kernel
theorem dX6_offer_83 : decode cX6_offer 83 = .ok (.getfield 139, 3) := by decide +kernel
theorem dX6_offer_86 : decode cX6_offer 86 = .ok (.ireturn, 1) := by decide +kernel
theorem dX6_offer_87 : decode cX6_offer 87 = .ok (.aload_n 3, 1) := by decide +kernel
theorem dX6_offer_88 : decode cX6_offer 88 = .ok (.invokevirtual 142, 3) := by decide +kernel
theorem dX6_offer_91 : decode cX6_offer 91 = .ok (.ireturn, 1) := by decide +kernel
theorem dX6_offer_92 : decode cX6_offer 92 = .ok (.aload_n 3, 1) := by decide +kernel
theorem dX6_offer_93 : decode cX6_offer 93 = .ok (.invokevirtual 145, 3) := by decide +kernel
theorem dX6_offer_96 : decode cX6_offer 96 = .ok (.ireturn, 1) := by decide +kernel
theorem dX6_offer_97 : decode cX6_offer 97 = .ok (.aload_n 3, 1) := by decide +kernel
theorem dX6_offer_98 : decode cX6_offer 98 = .ok (.getfield 148, 3) := by decide +kernel
theorem dX6_offer_101 : decode cX6_offer 101 = .ok (.ifCond .eq 7, 3) := by decide +kernel
theorem dX6_offer_104 : decode cX6_offer 104 = .ok (.iconst 1, 1) := by decide +kernel
theorem dX6_offer_105 : decode cX6_offer 105 = .ok (.goto 4, 3) := by decide +kernel
theorem dX6_offer_108 : decode cX6_offer 108 = .ok (.iconst 0, 1) := by decide +kernel
theorem dX6_offer_109 : decode cX6_offer 109 = .ok (.ireturn, 1) := by decide +kernel
theorem dX6_offer_110 : decode cX6_offer 110 = .ok (.aload_n 3, 1) := by decide +kernel
theorem dX6_offer_111 : decode cX6_offer 111 = .ok (.getfield 152, 3) := by decide +kernel
theorem dX6_offer_114 : decode cX6_offer 114 = .ok (.ireturn, 1) := by decide +kernel
theorem dX6_offer_115 : decode cX6_offer 115 = .ok (.aload_n 0, 1) := by decide +kernel
theorem dX6_offer_116 : decode cX6_offer 116 = .ok (.iload_n 1, 1) := by decide +kernel
theorem dX6_offer_117 : decode cX6_offer 117 = .ok (.invokevirtual 90, 3) := by decide +kernel
theorem dX6_offer_120 : decode cX6_offer 120 = .ok (.ifCond .eq 7, 3) := by decide +kernel
theorem dX6_offer_123 : decode cX6_offer 123 = .ok (.iconst 1, 1) := by decide +kernel
theorem dX6_offer_124 : decode cX6_offer 124 = .ok (.goto 4, 3) := by decide +kernel
theorem dX6_offer_127 : decode cX6_offer 127 = .ok (.iconst 0, 1) := by decide +kernel
theorem dX6_offer_128 : decode cX6_offer 128 = .ok (.ireturn, 1) := by decide +kernel
theorem dX6_offer_129 : decode cX6_offer 129 = .ok (.aload_n 3, 1) := by decide +kernel
theorem dX6_offer_130 : decode cX6_offer 130 = .ok (.aload_n 3, 1) := by decide +kernel
theorem dX6_offer_131 : decode cX6_offer 131 = .ok (.invokevirtual 155, 3) := by decide +kernel
theorem dX6_offer_134 : decode cX6_offer 134 = .ok (.ireturn, 1) := by decide +kernel
theorem dX6_offer_135 : decode cX6_offer 135 = .ok (.iconst (-1), 1) := by decide +kernel
theorem dX6_offer_136 : decode cX6_offer 136 = .ok (.ireturn, 1) := by decide +kernel
theorem dX6_common_0 : decode cX6_common 0 = .ok (.aload_n 0, 1) := by decide +kernel
theorem dX6_common_1 : decode cX6_common 1 = .ok (.iload_n 1, 1) := by decide +kernel
theorem dX6_common_2 : decode cX6_common 2 = .ok (.invokevirtual 69, 3) := by decide +kernel
theorem dX6_common_5 : decode cX6_common 5 = .ok (.ifCond .eq 16, 3) := by decide +kernel
theorem dX6_common_8 : decode cX6_common 8 = .ok (.aload_n 0, 1) := by decide +kernel
theorem dX6_common_9 : decode cX6_common 9 = .ok (.iload_n 2, 1) := by decide +kernel
theorem dX6_common_10 : decode cX6_common 10 = .ok (.invokevirtual 69, 3) := by decide +kernel
theorem dX6_common_13 : decode cX6_common 13 = .ok (.ifCond .eq 8, 3) := by decide +kernel
theorem dX6_common_16 : decode cX6_common 16 = .ok (.iload_n 1, 1) := by decide +kernel
theorem dX6_common_17 : decode cX6_common 17 = .ok (.iload_n 2, 1) := by decide +kernel
theorem dX6_common_18 : decode cX6_common 18 = .ok (.if_icmp .ne 5, 3) := by decide +kernel
theorem dX6_common_21 : decode cX6_common 21 = .ok (.iconst (-1), 1) := by decide +kernel
theorem dX6_common_22 : decode cX6_common 22 = .ok (.ireturn, 1) := by decide +kernel
theorem dX6_common_23 : decode cX6_common 23 = .ok (.aload_n 0, 1) := by decide +kernel
theorem dX6_common_24 : decode cX6_common 24 = .ok (.getfield 23, 3) := by decide +kernel
theorem dX6_common_27 : decode cX6_common 27 = .ok (.getfield 93, 3) := by decide +kernel
theorem dX6_common_30 : decode cX6_common 30 = .ok (.iload_n 1, 1) := by decide +kernel
theorem dX6_common_31 : decode cX6_common 31 = .ok (.aaload, 1) := by decide +kernel
theorem dX6_common_32 : decode cX6_common 32 = .ok (.aload_n 0, 1) := by decide +kernel
theorem dX6_common_33 : decode cX6_common 33 = .ok (.getfield 23, 3) := by decide +kernel
theorem dX6_common_36 : decode cX6_common 36 = .ok (.getfield 93, 3) := by decide +kernel
theorem dX6_common_39 : decode cX6_common 39 = .ok (.iload_n 2, 1) := by decide +kernel
theorem dX6_common_40 : decode cX6_common 40 = .ok (.aaload, 1) := by decide +kernel
theorem dX6_common_41 : decode cX6_common 41 = .ok (.invokevirtual 155, 3) := by decide +kernel
theorem dX6_common_44 : decode cX6_common 44 = .ok (.ireturn, 1) := by decide +kernel
theorem dX6_begin_0 : decode cX6_begin 0 = .ok (.iload_n 1, 1) := by decide +kernel
theorem dX6_begin_1 : decode cX6_begin 1 = .ok (.bipush 6, 2) := by decide +kernel
theorem dX6_begin_3 : decode cX6_begin 3 = .ok (.invokestatic 159, 3) := by decide +kernel
theorem dX6_begin_6 : decode cX6_begin 6 = .ok (.ifCond .eq 11, 3) := by decide +kernel
theorem dX6_begin_9 : decode cX6_begin 9 = .ok (.iload_n 2, 1) := by decide +kernel
theorem dX6_begin_10 : decode cX6_begin 10 = .ok (.iconst 4, 1) := by decide +kernel
theorem dX6_begin_11 : decode cX6_begin 11 = .ok (.invokestatic 159, 3) := by decide +kernel
theorem dX6_begin_14 : decode cX6_begin 14 = .ok (.ifCond .ne 5, 3) := by decide +kernel
theorem dX6_begin_17 : decode cX6_begin 17 = .ok (.iconst (-1), 1) := by decide +kernel
theorem dX6_begin_18 : decode cX6_begin 18 = .ok (.ireturn, 1) := by decide +kernel
theorem dX6_begin_19 : decode cX6_begin 19 = .ok (.aload_n 0, 1) := by decide +kernel
theorem dX6_begin_20 : decode cX6_begin 20 = .ok (.getfield 23, 3) := by decide +kernel
theorem dX6_begin_23 : decode cX6_begin 23 = .ok (.aload_n 0, 1) := by decide +kernel
theorem dX6_begin_24 : decode cX6_begin 24 = .ok (.getfield 63, 3) := by decide +kernel
theorem dX6_begin_27 : decode cX6_begin 27 = .ok (.iload_n 1, 1) := by decide +kernel
theorem dX6_begin_28 : decode cX6_begin 28 = .ok (.iload_n 2, 1) := by decide +kernel
theorem dX6_begin_29 : decode cX6_begin 29 = .ok (.invokevirtual 162, 3) := by decide +kernel
theorem dX6_begin_32 : decode cX6_begin 32 = .ok (.ireturn, 1) := by decide +kernel
theorem dX6_broken_0 : decode cX6_broken 0 = .ok (.iload_n 1, 1) := by decide +kernel
theorem dX6_broken_1 : decode cX6_broken 1 = .ok (.aload_n 0, 1) := by decide +kernel
theorem dX6_broken_2 : decode cX6_broken 2 = .ok (.getfield 23, 3) := by decide +kernel
theorem dX6_broken_5 : decode cX6_broken 5 = .ok (.getfield 166, 3) := by decide +kernel
theorem dX6_broken_8 : decode cX6_broken 8 = .ok (.invokestatic 159, 3) := by decide +kernel
theorem dX6_broken_11 : decode cX6_broken 11 = .ok (.ifCond .ne 5, 3) := by decide +kernel
theorem dX6_broken_14 : decode cX6_broken 14 = .ok (.iconst (-1), 1) := by decide +kernel
theorem dX6_broken_15 : decode cX6_broken 15 = .ok (.ireturn, 1) := by decide +kernel
theorem dX6_broken_16 : decode cX6_broken 16 = .ok (.aload_n 0, 1) := by decide +kernel
theorem dX6_broken_17 : decode cX6_broken 17 = .ok (.getfield 23, 3) := by decide +kernel
theorem dX6_broken_20 : decode cX6_broken 20 = .ok (.aload_n 0, 1) := by decide +kernel
theorem dX6_broken_21 : decode cX6_broken 21 = .ok (.getfield 63, 3) := by decide +kernel
theorem dX6_broken_24 : decode cX6_broken 24 = .ok (.aload_n 0, 1) := by decide +kernel
theorem dX6_broken_25 : decode cX6_broken 25 = .ok (.getfield 23, 3) := by decide +kernel
theorem dX6_broken_28 : decode cX6_broken 28 = .ok (.getfield 169, 3) := by decide +kernel
theorem dX6_broken_31 : decode cX6_broken 31 = .ok (.iload_n 1, 1) := by decide +kernel
theorem dX6_broken_32 : decode cX6_broken 32 = .ok (.aaload, 1) := by decide +kernel
theorem dX6_broken_33 : decode cX6_broken 33 = .ok (.invokevirtual 173, 3) := by decide +kernel
theorem dX6_broken_36 : decode cX6_broken 36 = .ok (.ireturn, 1) := by decide +kernel
theorem dX6_point_0 : decode cX6_point 0 = .ok (.iload_n 1, 1) := by decide +kernel
theorem dX6_point_1 : decode cX6_point 1 = .ok (.iload_n 2, 1) := by decide +kernel
theorem dX6_point_2 : decode cX6_point 2 = .ok (.iload_n 3, 1) := by decide +kernel
theorem dX6_point_3 : decode cX6_point 3 = .ok (.invokestatic 177, 3) := by decide +kernel
theorem dX6_point_6 : decode cX6_point 6 = .ok (.ifCond .eq 27, 3) := by decide +kernel
theorem dX6_point_9 : decode cX6_point 9 = .ok (.iload 4, 2) := by decide +kernel
theorem dX6_point_11 : decode cX6_point 11 = .ok (.aload_n 0, 1) := by decide +kernel
theorem dX6_point_12 : decode cX6_point 12 = .ok (.getfield 23, 3) := by decide +kernel
theorem dX6_point_15 : decode cX6_point 15 = .ok (.getfield 181, 3) := by decide +kernel
theorem dX6_point_18 : decode cX6_point 18 = .ok (.if_icmp .lt 15, 3) := by decide +kernel
theorem dX6_point_21 : decode cX6_point 21 = .ok (.iload 4, 2) := by decide +kernel
theorem dX6_point_23 : decode cX6_point 23 = .ok (.aload_n 0, 1) := by decide +kernel
theorem dX6_point_24 : decode cX6_point 24 = .ok (.getfield 23, 3) := by decide +kernel
theorem dX6_point_27 : decode cX6_point 27 = .ok (.getfield 184, 3) := by decide +kernel
theorem dX6_point_30 : decode cX6_point 30 = .ok (.if_icmp .le 5, 3) := by decide +kernel
theorem dX6_point_33 : decode cX6_point 33 = .ok (.iconst (-1), 1) := by decide +kernel
theorem dX6_point_34 : decode cX6_point 34 = .ok (.ireturn, 1) := by decide +kernel
theorem dX6_point_35 : decode cX6_point 35 = .ok (.iload 5, 2) := by decide +kernel
theorem dX6_point_37 : decode cX6_point 37 = .ok (.ifCond .eq 11, 3) := by decide +kernel
theorem dX6_point_40 : decode cX6_point 40 = .ok (.iload 5, 2) := by decide +kernel
theorem dX6_point_42 : decode cX6_point 42 = .ok (.iconst 1, 1) := by decide +kernel
theorem dX6_point_43 : decode cX6_point 43 = .ok (.if_icmp .eq 5, 3) := by decide +kernel
theorem dX6_point_46 : decode cX6_point 46 = .ok (.iconst (-1), 1) := by decide +kernel
theorem dX6_point_47 : decode cX6_point 47 = .ok (.ireturn, 1) := by decide +kernel
theorem dX6_point_48 : decode cX6_point 48 = .ok (.iload_n 1, 1) := by decide +kernel
theorem dX6_point_49 : decode cX6_point 49 = .ok (.iload_n 2, 1) := by decide +kernel
theorem dX6_point_50 : decode cX6_point 50 = .ok (.iload_n 3, 1) := by decide +kernel
theorem dX6_point_51 : decode cX6_point 51 = .ok (.invokestatic 187, 3) := by decide +kernel
theorem dX6_point_54 : decode cX6_point 54 = .ok (.istore 6, 2) := by decide +kernel
theorem dX6_point_56 : decode cX6_point 56 = .ok (.iload 5, 2) := by decide +kernel
theorem dX6_point_58 : decode cX6_point 58 = .ok (.ifCond .ne 12, 3) := by decide +kernel
theorem dX6_point_61 : decode cX6_point 61 = .ok (.aload_n 0, 1) := by decide +kernel
theorem dX6_point_62 : decode cX6_point 62 = .ok (.iload 6, 2) := by decide +kernel
theorem dX6_point_64 : decode cX6_point 64 = .ok (.iload 4, 2) := by decide +kernel
theorem dX6_point_66 : decode cX6_point 66 = .ok (.invokevirtual 190, 3) := by decide +kernel
theorem dX6_point_69 : decode cX6_point 69 = .ok (.ireturn, 1) := by decide +kernel
theorem dX6_point_70 : decode cX6_point 70 = .ok (.aload_n 0, 1) := by decide +kernel
theorem dX6_point_71 : decode cX6_point 71 = .ok (.iload 6, 2) := by decide +kernel
theorem dX6_point_73 : decode cX6_point 73 = .ok (.iconst 3, 1) := by decide +kernel
theorem dX6_point_74 : decode cX6_point 74 = .ok (.invokevirtual 193, 3) := by decide +kernel
theorem dX6_point_77 : decode cX6_point 77 = .ok (.iload 4, 2) := by decide +kernel
theorem dX6_point_79 : decode cX6_point 79 = .ok (.invokestatic 197, 3) := by decide +kernel
theorem dX6_point_82 : decode cX6_point 82 = .ok (.ifCond .eq 7, 3) := by decide +kernel
theorem dX6_point_85 : decode cX6_point 85 = .ok (.iconst 1, 1) := by decide +kernel
theorem dX6_point_86 : decode cX6_point 86 = .ok (.goto 4, 3) := by decide +kernel
theorem dX6_point_89 : decode cX6_point 89 = .ok (.iconst 0, 1) := by decide +kernel
theorem dX6_point_90 : decode cX6_point 90 = .ok (.ireturn, 1) := by decide +kernel
theorem dX6_points_0 : decode cX6_points 0 = .ok (.iload_n 1, 1) := by decide +kernel
theorem dX6_points_1 : decode cX6_points 1 = .ok (.ifCond .lt 8, 3) := by decide +kernel
theorem dX6_points_4 : decode cX6_points 4 = .ok (.iload_n 1, 1) := by decide +kernel
theorem dX6_points_5 : decode cX6_points 5 = .ok (.iconst 4, 1) := by decide +kernel
theorem dX6_points_6 : decode cX6_points 6 = .ok (.if_icmp .le 5, 3) := by decide +kernel
theorem dX6_points_9 : decode cX6_points 9 = .ok (.iconst (-1), 1) := by decide +kernel
theorem dX6_points_10 : decode cX6_points 10 = .ok (.ireturn, 1) := by decide +kernel
theorem dX6_points_11 : decode cX6_points 11 = .ok (.iconst 0, 1) := by decide +kernel
theorem dX6_points_12 : decode cX6_points 12 = .ok (.istore_n 2, 1) := by decide +kernel
theorem dX6_points_13 : decode cX6_points 13 = .ok (.iconst 0, 1) := by decide +kernel
theorem dX6_points_14 : decode cX6_points 14 = .ok (.istore_n 3, 1) := by decide +kernel
theorem dX6_points_15 : decode cX6_points 15 = .ok (.iload_n 3, 1) := by decide +kernel
theorem dX6_points_16 : decode cX6_points 16 = .ok (.bipush 96, 2) := by decide +kernel
theorem dX6_points_18 : decode cX6_points 18 = .ok (.if_icmp .ge 21, 3) := by decide +kernel
theorem dX6_points_21 : decode cX6_points 21 = .ok (.iload_n 2, 1) := by decide +kernel
theorem dX6_points_22 : decode cX6_points 22 = .ok (.aload_n 0, 1) := by decide +kernel
theorem dX6_points_23 : decode cX6_points 23 = .ok (.iload_n 3, 1) := by decide +kernel
theorem dX6_points_24 : decode cX6_points 24 = .ok (.iload_n 1, 1) := by decide +kernel
theorem dX6_points_25 : decode cX6_points 25 = .ok (.invokevirtual 193, 3) := by decide +kernel
theorem dX6_points_28 : decode cX6_points 28 = .ok (.invokestatic 201, 3) := by decide +kernel
theorem dX6_points_31 : decode cX6_points 31 = .ok (.iadd, 1) := by decide +kernel
theorem dX6_points_32 : decode cX6_points 32 = .ok (.istore_n 2, 1) := by decide +kernel
theorem dX6_points_33 : decode cX6_points 33 = .ok (.iinc 3 1, 3) := by decide +kernel
theorem dX6_points_36 : decode cX6_points 36 = .ok (.goto (-21), 3) := by decide +kernel
theorem dX6_points_39 : decode cX6_points 39 = .ok (.iload_n 2, 1) := by decide +kernel
theorem dX6_points_40 : decode cX6_points 40 = .ok (.ireturn, 1) := by decide +kernel
theorem dX6_window_0 : decode cX6_window 0 = .ok (.iload_n 1, 1) := by decide +kernel
theorem dX6_window_1 : decode cX6_window 1 = .ok (.iload_n 2, 1) := by decide +kernel
theorem dX6_window_2 : decode cX6_window 2 = .ok (.iload_n 3, 1) := by decide +kernel
theorem dX6_window_3 : decode cX6_window 3 = .ok (.invokestatic 177, 3) := by decide +kernel
theorem dX6_window_6 : decode cX6_window 6 = .ok (.ifCond .eq 9, 3) := by decide +kernel
theorem dX6_window_9 : decode cX6_window 9 = .ok (.iload 4, 2) := by decide +kernel
theorem dX6_window_11 : decode cX6_window 11 = .ok (.iconst (-1), 1) := by decide +kernel
theorem dX6_window_12 : decode cX6_window 12 = .ok (.if_icmp .ge 5, 3) := by decide +kernel
theorem dX6_window_15 : decode cX6_window 15 = .ok (.iconst (-1), 1) := by decide +kernel
theorem dX6_window_16 : decode cX6_window 16 = .ok (.ireturn, 1) := by decide +kernel
theorem dX6_window_17 : decode cX6_window 17 = .ok (.iload 5, 2) := by decide +kernel
theorem dX6_window_19 : decode cX6_window 19 = .ok (.ifCond .eq 11, 3) := by decide +kernel
theorem dX6_window_22 : decode cX6_window 22 = .ok (.iload 5, 2) := by decide +kernel
theorem dX6_window_24 : decode cX6_window 24 = .ok (.iconst 1, 1) := by decide +kernel
theorem dX6_window_25 : decode cX6_window 25 = .ok (.if_icmp .eq 5, 3) := by decide +kernel
theorem dX6_window_28 : decode cX6_window 28 = .ok (.iconst (-1), 1) := by decide +kernel
theorem dX6_window_29 : decode cX6_window 29 = .ok (.ireturn, 1) := by decide +kernel
theorem dX6_window_30 : decode cX6_window 30 = .ok (.aload_n 0, 1) := by decide +kernel
theorem dX6_window_31 : decode cX6_window 31 = .ok (.iload_n 1, 1) := by decide +kernel
theorem dX6_window_32 : decode cX6_window 32 = .ok (.iload_n 2, 1) := by decide +kernel
theorem dX6_window_33 : decode cX6_window 33 = .ok (.iload_n 3, 1) := by decide +kernel
theorem dX6_window_34 : decode cX6_window 34 = .ok (.invokestatic 187, 3) := by decide +kernel
theorem dX6_window_37 : decode cX6_window 37 = .ok (.iconst 4, 1) := by decide +kernel
theorem dX6_window_38 : decode cX6_window 38 = .ok (.invokevirtual 193, 3) := by decide +kernel
theorem dX6_window_41 : decode cX6_window 41 = .ok (.lstore 6, 2) := by decide +kernel
theorem dX6_window_43 : decode cX6_window 43 = .ok (.iload 4, 2) := by decide +kernel
theorem dX6_window_45 : decode cX6_window 45 = .ok (.iconst (-1), 1) := by decide +kernel
theorem dX6_window_46 : decode cX6_window 46 = .ok (.if_icmp .ne 12, 3) := by decide +kernel
theorem dX6_window_49 : decode cX6_window 49 = .ok (.lload 6, 2) := by decide +kernel
theorem dX6_window_51 : decode cX6_window 51 = .ok (.invokestatic 206, 3) := by decide +kernel
theorem dX6_window_54 : decode cX6_window 54 = .ok (.invokestatic 201, 3) := by decide +kernel
theorem dX6_window_57 : decode cX6_window 57 = .ok (.ireturn, 1) := by decide +kernel
theorem dX6_window_58 : decode cX6_window 58 = .ok (.lload 6, 2) := by decide +kernel
theorem dX6_window_60 : decode cX6_window 60 = .ok (.invokestatic 206, 3) := by decide +kernel
theorem dX6_window_63 : decode cX6_window 63 = .ok (.iload 4, 2) := by decide +kernel
theorem dX6_window_65 : decode cX6_window 65 = .ok (.invokestatic 210, 3) := by decide +kernel
theorem dX6_window_68 : decode cX6_window 68 = .ok (.istore 8, 2) := by decide +kernel
theorem dX6_window_70 : decode cX6_window 70 = .ok (.iload 8, 2) := by decide +kernel
theorem dX6_window_72 : decode cX6_window 72 = .ok (.bipush (-4), 2) := by decide +kernel
theorem dX6_window_74 : decode cX6_window 74 = .ok (.if_icmp .eq 8, 3) := by decide +kernel
theorem dX6_window_77 : decode cX6_window 77 = .ok (.iload 5, 2) := by decide +kernel
theorem dX6_window_79 : decode cX6_window 79 = .ok (.ifCond .ne 6, 3) := by decide +kernel
theorem dX6_window_82 : decode cX6_window 82 = .ok (.iload 8, 2) := by decide +kernel
theorem dX6_window_84 : decode cX6_window 84 = .ok (.ireturn, 1) := by decide +kernel
theorem dX6_window_85 : decode cX6_window 85 = .ok (.iload 8, 2) := by decide +kernel
theorem dX6_window_87 : decode cX6_window 87 = .ok (.lload 6, 2) := by decide +kernel
theorem dX6_window_89 : decode cX6_window 89 = .ok (.iload 8, 2) := by decide +kernel
theorem dX6_window_91 : decode cX6_window 91 = .ok (.invokestatic 214, 3) := by decide +kernel
theorem dX6_window_94 : decode cX6_window 94 = .ok (.iadd, 1) := by decide +kernel
theorem dX6_window_95 : decode cX6_window 95 = .ok (.iconst 1, 1) := by decide +kernel
theorem dX6_window_96 : decode cX6_window 96 = .ok (.isub, 1) := by decide +kernel
theorem dX6_window_97 : decode cX6_window 97 = .ok (.ireturn, 1) := by decide +kernel
theorem dX6_longest_0 : decode cX6_longest 0 = .ok (.iload_n 1, 1) := by decide +kernel
theorem dX6_longest_1 : decode cX6_longest 1 = .ok (.ifCond .lt 8, 3) := by decide +kernel
theorem dX6_longest_4 : decode cX6_longest 4 = .ok (.iload_n 1, 1) := by decide +kernel
theorem dX6_longest_5 : decode cX6_longest 5 = .ok (.iconst 4, 1) := by decide +kernel
theorem dX6_longest_6 : decode cX6_longest 6 = .ok (.if_icmp .le 5, 3) := by decide +kernel
theorem dX6_longest_9 : decode cX6_longest 9 = .ok (.iconst (-1), 1) := by decide +kernel
theorem dX6_longest_10 : decode cX6_longest 10 = .ok (.ireturn, 1) := by decide +kernel
theorem dX6_longest_11 : decode cX6_longest 11 = .ok (.iconst 0, 1) := by decide +kernel
theorem dX6_longest_12 : decode cX6_longest 12 = .ok (.istore_n 2, 1) := by decide +kernel
theorem dX6_longest_13 : decode cX6_longest 13 = .ok (.iconst 0, 1) := by decide +kernel
theorem dX6_longest_14 : decode cX6_longest 14 = .ok (.istore_n 3, 1) := by decide +kernel
theorem dX6_longest_15 : decode cX6_longest 15 = .ok (.iconst 0, 1) := by decide +kernel
theorem dX6_longest_16 : decode cX6_longest 16 = .ok (.istore 4, 2) := by decide +kernel
theorem dX6_longest_18 : decode cX6_longest 18 = .ok (.iconst 0, 1) := by decide +kernel
theorem dX6_longest_19 : decode cX6_longest 19 = .ok (.istore 5, 2) := by decide +kernel
theorem dX6_longest_21 : decode cX6_longest 21 = .ok (.iload 5, 2) := by decide +kernel
theorem dX6_longest_23 : decode cX6_longest 23 = .ok (.bipush 96, 2) := by decide +kernel
theorem dX6_longest_25 : decode cX6_longest 25 = .ok (.if_icmp .ge 50, 3) := by decide +kernel
theorem dX6_longest_28 : decode cX6_longest 28 = .ok (.aload_n 0, 1) := by decide +kernel
theorem dX6_longest_29 : decode cX6_longest 29 = .ok (.iload 5, 2) := by decide +kernel
theorem dX6_longest_31 : decode cX6_longest 31 = .ok (.iconst 4, 1) := by decide +kernel
theorem dX6_longest_32 : decode cX6_longest 32 = .ok (.invokevirtual 193, 3) := by decide +kernel
theorem dX6_longest_35 : decode cX6_longest 35 = .ok (.lstore 6, 2) := by decide +kernel
theorem dX6_longest_37 : decode cX6_longest 37 = .ok (.lload 6, 2) := by decide +kernel
theorem dX6_longest_39 : decode cX6_longest 39 = .ok (.invokestatic 217, 3) := by decide +kernel
theorem dX6_longest_42 : decode cX6_longest 42 = .ok (.istore 8, 2) := by decide +kernel
theorem dX6_longest_44 : decode cX6_longest 44 = .ok (.lload 6, 2) := by decide +kernel
theorem dX6_longest_46 : decode cX6_longest 46 = .ok (.iload 8, 2) := by decide +kernel
theorem dX6_longest_48 : decode cX6_longest 48 = .ok (.invokestatic 214, 3) := by decide +kernel
theorem dX6_longest_51 : decode cX6_longest 51 = .ok (.istore 9, 2) := by decide +kernel
theorem dX6_longest_53 : decode cX6_longest 53 = .ok (.iload 9, 2) := by decide +kernel
theorem dX6_longest_55 : decode cX6_longest 55 = .ok (.iload_n 2, 1) := by decide +kernel
theorem dX6_longest_56 : decode cX6_longest 56 = .ok (.if_icmp .le 13, 3) := by decide +kernel
theorem dX6_longest_59 : decode cX6_longest 59 = .ok (.iload 9, 2) := by decide +kernel
theorem dX6_longest_61 : decode cX6_longest 61 = .ok (.istore_n 2, 1) := by decide +kernel
theorem dX6_longest_62 : decode cX6_longest 62 = .ok (.iload 5, 2) := by decide +kernel
theorem dX6_longest_64 : decode cX6_longest 64 = .ok (.istore_n 3, 1) := by decide +kernel
theorem dX6_longest_65 : decode cX6_longest 65 = .ok (.iload 8, 2) := by decide +kernel
theorem dX6_longest_67 : decode cX6_longest 67 = .ok (.istore 4, 2) := by decide +kernel
theorem dX6_longest_69 : decode cX6_longest 69 = .ok (.iinc 5 1, 3) := by decide +kernel
theorem dX6_longest_72 : decode cX6_longest 72 = .ok (.goto (-51), 3) := by decide +kernel
theorem dX6_longest_75 : decode cX6_longest 75 = .ok (.iload_n 2, 1) := by decide +kernel
theorem dX6_longest_76 : decode cX6_longest 76 = .ok (.ifCond .ne 6, 3) := by decide +kernel
theorem dX6_longest_79 : decode cX6_longest 79 = .ok (.bipush (-4), 2) := by decide +kernel
theorem dX6_longest_81 : decode cX6_longest 81 = .ok (.ireturn, 1) := by decide +kernel
theorem dX6_longest_82 : decode cX6_longest 82 = .ok (.iload_n 1, 1) := by decide +kernel
theorem dX6_longest_83 : decode cX6_longest 83 = .ok (.tableswitch 46 0 3 #[29, 31, 36, 41], 29) := by decide +kernel
theorem dX6_longest_112 : decode cX6_longest 112 = .ok (.iload_n 2, 1) := by decide +kernel
theorem dX6_longest_113 : decode cX6_longest 113 = .ok (.ireturn, 1) := by decide +kernel
theorem dX6_longest_114 : decode cX6_longest 114 = .ok (.iload_n 3, 1) := by decide +kernel
theorem dX6_longest_115 : decode cX6_longest 115 = .ok (.invokestatic 220, 3) := by decide +kernel
theorem dX6_longest_118 : decode cX6_longest 118 = .ok (.ireturn, 1) := by decide +kernel
theorem dX6_longest_119 : decode cX6_longest 119 = .ok (.iload_n 3, 1) := by decide +kernel
theorem dX6_longest_120 : decode cX6_longest 120 = .ok (.invokestatic 223, 3) := by decide +kernel
theorem dX6_longest_123 : decode cX6_longest 123 = .ok (.ireturn, 1) := by decide +kernel
theorem dX6_longest_124 : decode cX6_longest 124 = .ok (.iload_n 3, 1) := by decide +kernel
theorem dX6_longest_125 : decode cX6_longest 125 = .ok (.invokestatic 226, 3) := by decide +kernel
theorem dX6_longest_128 : decode cX6_longest 128 = .ok (.ireturn, 1) := by decide +kernel
theorem dX6_longest_129 : decode cX6_longest 129 = .ok (.iload 4, 2) := by decide +kernel
theorem dX6_longest_131 : decode cX6_longest 131 = .ok (.ireturn, 1) := by decide +kernel
theorem dX6_howManyHave_0 : decode cX6_howManyHave 0 = .ok (.iconst 0, 1) := by decide +kernel
theorem dX6_howManyHave_1 : decode cX6_howManyHave 1 = .ok (.istore_n 3, 1) := by decide +kernel
theorem dX6_howManyHave_2 : decode cX6_howManyHave 2 = .ok (.iconst 0, 1) := by decide +kernel
theorem dX6_howManyHave_3 : decode cX6_howManyHave 3 = .ok (.istore 4, 2) := by decide +kernel
theorem dX6_howManyHave_5 : decode cX6_howManyHave 5 = .ok (.iload 4, 2) := by decide +kernel
theorem dX6_howManyHave_7 : decode cX6_howManyHave 7 = .ok (.aload_n 0, 1) := by decide +kernel
theorem dX6_howManyHave_8 : decode cX6_howManyHave 8 = .ok (.getfield 23, 3) := by decide +kernel
theorem dX6_howManyHave_11 : decode cX6_howManyHave 11 = .ok (.getfield 60, 3) := by decide +kernel
theorem dX6_howManyHave_14 : decode cX6_howManyHave 14 = .ok (.if_icmp .ge 54, 3) := by decide +kernel
theorem dX6_howManyHave_17 : decode cX6_howManyHave 17 = .ok (.aload_n 0, 1) := by decide +kernel
theorem dX6_howManyHave_18 : decode cX6_howManyHave 18 = .ok (.getfield 23, 3) := by decide +kernel
theorem dX6_howManyHave_21 : decode cX6_howManyHave 21 = .ok (.getfield 93, 3) := by decide +kernel
theorem dX6_howManyHave_24 : decode cX6_howManyHave 24 = .ok (.iload 4, 2) := by decide +kernel
theorem dX6_howManyHave_26 : decode cX6_howManyHave 26 = .ok (.aaload, 1) := by decide +kernel
theorem dX6_howManyHave_27 : decode cX6_howManyHave 27 = .ok (.astore 5, 2) := by decide +kernel
theorem dX6_howManyHave_29 : decode cX6_howManyHave 29 = .ok (.aload_n 0, 1) := by decide +kernel
theorem dX6_howManyHave_30 : decode cX6_howManyHave 30 = .ok (.iload 4, 2) := by decide +kernel
theorem dX6_howManyHave_32 : decode cX6_howManyHave 32 = .ok (.invokevirtual 90, 3) := by decide +kernel
theorem dX6_howManyHave_35 : decode cX6_howManyHave 35 = .ok (.ifCond .eq 27, 3) := by decide +kernel
theorem dX6_howManyHave_38 : decode cX6_howManyHave 38 = .ok (.aload 5, 2) := by decide +kernel
theorem dX6_howManyHave_40 : decode cX6_howManyHave 40 = .ok (.iload_n 1, 1) := by decide +kernel
theorem dX6_howManyHave_41 : decode cX6_howManyHave 41 = .ok (.invokevirtual 229, 3) := by decide +kernel
theorem dX6_howManyHave_44 : decode cX6_howManyHave 44 = .ok (.ifCond .eq 18, 3) := by decide +kernel
theorem dX6_howManyHave_47 : decode cX6_howManyHave 47 = .ok (.aload 5, 2) := by decide +kernel
theorem dX6_howManyHave_49 : decode cX6_howManyHave 49 = .ok (.invokevirtual 232, 3) := by decide +kernel
theorem dX6_howManyHave_52 : decode cX6_howManyHave 52 = .ok (.iload_n 2, 1) := by decide +kernel
theorem dX6_howManyHave_53 : decode cX6_howManyHave 53 = .ok (.invokestatic 197, 3) := by decide +kernel
theorem dX6_howManyHave_56 : decode cX6_howManyHave 56 = .ok (.ifCond .eq 6, 3) := by decide +kernel
theorem dX6_howManyHave_59 : decode cX6_howManyHave 59 = .ok (.iinc 3 1, 3) := by decide +kernel
theorem dX6_howManyHave_62 : decode cX6_howManyHave 62 = .ok (.iinc 4 1, 3) := by decide +kernel
theorem dX6_howManyHave_65 : decode cX6_howManyHave 65 = .ok (.goto (-60), 3) := by decide +kernel
theorem dX6_howManyHave_68 : decode cX6_howManyHave 68 = .ok (.iload_n 3, 1) := by decide +kernel
theorem dX6_howManyHave_69 : decode cX6_howManyHave 69 = .ok (.ireturn, 1) := by decide +kernel
theorem dX6_weeksOf_0 : decode cX6_weeksOf 0 = .ok (.lconst 0, 1) := by decide +kernel
theorem dX6_weeksOf_1 : decode cX6_weeksOf 1 = .ok (.lstore_n 3, 1) := by decide +kernel
theorem dX6_weeksOf_2 : decode cX6_weeksOf 2 = .ok (.lconst 0, 1) := by decide +kernel
theorem dX6_weeksOf_3 : decode cX6_weeksOf 3 = .ok (.lstore 5, 2) := by decide +kernel
theorem dX6_weeksOf_5 : decode cX6_weeksOf 5 = .ok (.lconst 0, 1) := by decide +kernel
theorem dX6_weeksOf_6 : decode cX6_weeksOf 6 = .ok (.lstore 7, 2) := by decide +kernel
theorem dX6_weeksOf_8 : decode cX6_weeksOf 8 = .ok (.iconst 0, 1) := by decide +kernel
theorem dX6_weeksOf_9 : decode cX6_weeksOf 9 = .ok (.istore 9, 2) := by decide +kernel
theorem dX6_weeksOf_11 : decode cX6_weeksOf 11 = .ok (.iload 9, 2) := by decide +kernel
theorem dX6_weeksOf_13 : decode cX6_weeksOf 13 = .ok (.aload_n 0, 1) := by decide +kernel
theorem dX6_weeksOf_14 : decode cX6_weeksOf 14 = .ok (.getfield 23, 3) := by decide +kernel
theorem dX6_weeksOf_17 : decode cX6_weeksOf 17 = .ok (.getfield 60, 3) := by decide +kernel
theorem dX6_weeksOf_20 : decode cX6_weeksOf 20 = .ok (.if_icmp .ge 75, 3) := by decide +kernel
theorem dX6_weeksOf_23 : decode cX6_weeksOf 23 = .ok (.aload_n 0, 1) := by decide +kernel
theorem dX6_weeksOf_24 : decode cX6_weeksOf 24 = .ok (.getfield 23, 3) := by decide +kernel
theorem dX6_weeksOf_27 : decode cX6_weeksOf 27 = .ok (.getfield 93, 3) := by decide +kernel
theorem dX6_weeksOf_30 : decode cX6_weeksOf 30 = .ok (.iload 9, 2) := by decide +kernel
theorem dX6_weeksOf_32 : decode cX6_weeksOf 32 = .ok (.aaload, 1) := by decide +kernel
theorem dX6_weeksOf_33 : decode cX6_weeksOf 33 = .ok (.astore 10, 2) := by decide +kernel
theorem dX6_weeksOf_35 : decode cX6_weeksOf 35 = .ok (.aload_n 0, 1) := by decide +kernel
theorem dX6_weeksOf_36 : decode cX6_weeksOf 36 = .ok (.iload 9, 2) := by decide +kernel
theorem dX6_weeksOf_38 : decode cX6_weeksOf 38 = .ok (.invokevirtual 90, 3) := by decide +kernel
theorem dX6_weeksOf_41 : decode cX6_weeksOf 41 = .ok (.ifCond .eq 48, 3) := by decide +kernel
theorem dX6_weeksOf_44 : decode cX6_weeksOf 44 = .ok (.aload 10, 2) := by decide +kernel
theorem dX6_weeksOf_46 : decode cX6_weeksOf 46 = .ok (.iload_n 1, 1) := by decide +kernel
theorem dX6_weeksOf_47 : decode cX6_weeksOf 47 = .ok (.invokevirtual 229, 3) := by decide +kernel
theorem dX6_weeksOf_50 : decode cX6_weeksOf 50 = .ok (.ifCond .eq 39, 3) := by decide +kernel
theorem dX6_weeksOf_53 : decode cX6_weeksOf 53 = .ok (.aload 10, 2) := by decide +kernel
theorem dX6_weeksOf_55 : decode cX6_weeksOf 55 = .ok (.invokevirtual 232, 3) := by decide +kernel
theorem dX6_weeksOf_58 : decode cX6_weeksOf 58 = .ok (.lstore 11, 2) := by decide +kernel
theorem dX6_weeksOf_60 : decode cX6_weeksOf 60 = .ok (.lload 5, 2) := by decide +kernel
theorem dX6_weeksOf_62 : decode cX6_weeksOf 62 = .ok (.lload_n 3, 1) := by decide +kernel
theorem dX6_weeksOf_63 : decode cX6_weeksOf 63 = .ok (.lload 11, 2) := by decide +kernel
theorem dX6_weeksOf_65 : decode cX6_weeksOf 65 = .ok (.land, 1) := by decide +kernel
theorem dX6_weeksOf_66 : decode cX6_weeksOf 66 = .ok (.lor, 1) := by decide +kernel
theorem dX6_weeksOf_67 : decode cX6_weeksOf 67 = .ok (.lstore 5, 2) := by decide +kernel
theorem dX6_weeksOf_69 : decode cX6_weeksOf 69 = .ok (.lload_n 3, 1) := by decide +kernel
theorem dX6_weeksOf_70 : decode cX6_weeksOf 70 = .ok (.lload 11, 2) := by decide +kernel
theorem dX6_weeksOf_72 : decode cX6_weeksOf 72 = .ok (.lor, 1) := by decide +kernel
theorem dX6_weeksOf_73 : decode cX6_weeksOf 73 = .ok (.lstore_n 3, 1) := by decide +kernel
theorem dX6_weeksOf_74 : decode cX6_weeksOf 74 = .ok (.aload 10, 2) := by decide +kernel
theorem dX6_weeksOf_76 : decode cX6_weeksOf 76 = .ok (.getfield 148, 3) := by decide +kernel
theorem dX6_weeksOf_79 : decode cX6_weeksOf 79 = .ok (.ifCond .eq 10, 3) := by decide +kernel
theorem dX6_weeksOf_82 : decode cX6_weeksOf 82 = .ok (.lload 7, 2) := by decide +kernel
theorem dX6_weeksOf_84 : decode cX6_weeksOf 84 = .ok (.lload 11, 2) := by decide +kernel
theorem dX6_weeksOf_86 : decode cX6_weeksOf 86 = .ok (.lor, 1) := by decide +kernel
theorem dX6_weeksOf_87 : decode cX6_weeksOf 87 = .ok (.lstore 7, 2) := by decide +kernel
theorem dX6_weeksOf_89 : decode cX6_weeksOf 89 = .ok (.iinc 9 1, 3) := by decide +kernel
theorem dX6_weeksOf_92 : decode cX6_weeksOf 92 = .ok (.goto (-81), 3) := by decide +kernel
theorem dX6_weeksOf_95 : decode cX6_weeksOf 95 = .ok (.aload_n 0, 1) := by decide +kernel
theorem dX6_weeksOf_96 : decode cX6_weeksOf 96 = .ok (.getfield 23, 3) := by decide +kernel
theorem dX6_weeksOf_99 : decode cX6_weeksOf 99 = .ok (.getfield 181, 3) := by decide +kernel
theorem dX6_weeksOf_102 : decode cX6_weeksOf 102 = .ok (.aload_n 0, 1) := by decide +kernel
theorem dX6_weeksOf_103 : decode cX6_weeksOf 103 = .ok (.getfield 23, 3) := by decide +kernel
theorem dX6_weeksOf_106 : decode cX6_weeksOf 106 = .ok (.getfield 184, 3) := by decide +kernel
theorem dX6_weeksOf_109 : decode cX6_weeksOf 109 = .ok (.invokestatic 236, 3) := by decide +kernel
theorem dX6_weeksOf_112 : decode cX6_weeksOf 112 = .ok (.lstore 9, 2) := by decide +kernel
theorem dX6_weeksOf_114 : decode cX6_weeksOf 114 = .ok (.iload_n 2, 1) := by decide +kernel
theorem dX6_weeksOf_115 : decode cX6_weeksOf 115 = .ok (.tableswitch 55 1 4 #[29, 34, 40, 46], 29) := by decide +kernel
theorem dX6_weeksOf_144 : decode cX6_weeksOf 144 = .ok (.lload 9, 2) := by decide +kernel
theorem dX6_weeksOf_146 : decode cX6_weeksOf 146 = .ok (.lload_n 3, 1) := by decide +kernel
theorem dX6_weeksOf_147 : decode cX6_weeksOf 147 = .ok (.land, 1) := by decide +kernel
theorem dX6_weeksOf_148 : decode cX6_weeksOf 148 = .ok (.lreturn, 1) := by decide +kernel
theorem dX6_weeksOf_149 : decode cX6_weeksOf 149 = .ok (.lload 9, 2) := by decide +kernel
theorem dX6_weeksOf_151 : decode cX6_weeksOf 151 = .ok (.lload 5, 2) := by decide +kernel
theorem dX6_weeksOf_153 : decode cX6_weeksOf 153 = .ok (.land, 1) := by decide +kernel
theorem dX6_weeksOf_154 : decode cX6_weeksOf 154 = .ok (.lreturn, 1) := by decide +kernel
theorem dX6_weeksOf_155 : decode cX6_weeksOf 155 = .ok (.lload 9, 2) := by decide +kernel
theorem dX6_weeksOf_157 : decode cX6_weeksOf 157 = .ok (.lload 7, 2) := by decide +kernel
theorem dX6_weeksOf_159 : decode cX6_weeksOf 159 = .ok (.land, 1) := by decide +kernel
theorem dX6_weeksOf_160 : decode cX6_weeksOf 160 = .ok (.lreturn, 1) := by decide +kernel
theorem dX6_weeksOf_161 : decode cX6_weeksOf 161 = .ok (.lload 9, 2) := by decide +kernel
theorem dX6_weeksOf_163 : decode cX6_weeksOf 163 = .ok (.lload_n 3, 1) := by decide +kernel
theorem dX6_weeksOf_164 : decode cX6_weeksOf 164 = .ok (.ldc2_w 239, 3) := by decide +kernel
theorem dX6_weeksOf_167 : decode cX6_weeksOf 167 = .ok (.lxor, 1) := by decide +kernel
theorem dX6_weeksOf_168 : decode cX6_weeksOf 168 = .ok (.land, 1) := by decide +kernel
theorem dX6_weeksOf_169 : decode cX6_weeksOf 169 = .ok (.lreturn, 1) := by decide +kernel
theorem dX6_weeksOf_170 : decode cX6_weeksOf 170 = .ok (.lload 9, 2) := by decide +kernel
theorem dX6_weeksOf_172 : decode cX6_weeksOf 172 = .ok (.lreturn, 1) := by decide +kernel
theorem dX6_best_0 : decode cX6_best 0 = .ok (.iload_n 1, 1) := by decide +kernel
theorem dX6_best_1 : decode cX6_best 1 = .ok (.ifCond .eq 10, 3) := by decide +kernel
theorem dX6_best_4 : decode cX6_best 4 = .ok (.iload_n 1, 1) := by decide +kernel
theorem dX6_best_5 : decode cX6_best 5 = .ok (.iconst 1, 1) := by decide +kernel
theorem dX6_best_6 : decode cX6_best 6 = .ok (.if_icmp .eq 5, 3) := by decide +kernel
theorem dX6_best_9 : decode cX6_best 9 = .ok (.iconst (-1), 1) := by decide +kernel
theorem dX6_best_10 : decode cX6_best 10 = .ok (.ireturn, 1) := by decide +kernel
theorem dX6_best_11 : decode cX6_best 11 = .ok (.aload_n 0, 1) := by decide +kernel
theorem dX6_best_12 : decode cX6_best 12 = .ok (.getfield 23, 3) := by decide +kernel
theorem dX6_best_15 : decode cX6_best 15 = .ok (.invokevirtual 241, 3) := by decide +kernel
theorem dX6_best_18 : decode cX6_best 18 = .ok (.istore_n 2, 1) := by decide +kernel
theorem dX6_best_19 : decode cX6_best 19 = .ok (.iload_n 1, 1) := by decide +kernel
theorem dX6_best_20 : decode cX6_best 20 = .ok (.ifCond .ne 14, 3) := by decide +kernel
theorem dX6_best_23 : decode cX6_best 23 = .ok (.aload_n 0, 1) := by decide +kernel
theorem dX6_best_24 : decode cX6_best 24 = .ok (.getfield 23, 3) := by decide +kernel
theorem dX6_best_27 : decode cX6_best 27 = .ok (.iload_n 2, 1) := by decide +kernel
theorem dX6_best_28 : decode cX6_best 28 = .ok (.invokevirtual 244, 3) := by decide +kernel
theorem dX6_best_31 : decode cX6_best 31 = .ok (.goto 4, 3) := by decide +kernel
theorem dX6_best_34 : decode cX6_best 34 = .ok (.iload_n 2, 1) := by decide +kernel
theorem dX6_best_35 : decode cX6_best 35 = .ok (.ireturn, 1) := by decide +kernel
theorem dX6_take_0 : decode cX6_take 0 = .ok (.aload_n 0, 1) := by decide +kernel
theorem dX6_take_1 : decode cX6_take 1 = .ok (.getfield 23, 3) := by decide +kernel
theorem dX6_take_4 : decode cX6_take 4 = .ok (.invokevirtual 241, 3) := by decide +kernel
theorem dX6_take_7 : decode cX6_take 7 = .ok (.istore_n 1, 1) := by decide +kernel
theorem dX6_take_8 : decode cX6_take 8 = .ok (.aload_n 0, 1) := by decide +kernel
theorem dX6_take_9 : decode cX6_take 9 = .ok (.iconst 0, 1) := by decide +kernel
theorem dX6_take_10 : decode cX6_take 10 = .ok (.invokevirtual 77, 3) := by decide +kernel
theorem dX6_take_13 : decode cX6_take 13 = .ok (.aload_n 0, 1) := by decide +kernel
theorem dX6_take_14 : decode cX6_take 14 = .ok (.iload_n 1, 1) := by decide +kernel
theorem dX6_take_15 : decode cX6_take 15 = .ok (.putfield 63, 3) := by decide +kernel
theorem dX6_take_18 : decode cX6_take 18 = .ok (.aload_n 0, 1) := by decide +kernel
theorem dX6_take_19 : decode cX6_take 19 = .ok (.getfield 63, 3) := by decide +kernel
theorem dX6_take_22 : decode cX6_take 22 = .ok (.invokestatic 81, 3) := by decide +kernel
theorem dX6_take_25 : decode cX6_take 25 = .ok (.ireturn, 1) := by decide +kernel
theorem dX6_count_0 : decode cX6_count 0 = .ok (.iload_n 1, 1) := by decide +kernel
theorem dX6_count_1 : decode cX6_count 1 = .ok (.tableswitch 124 0 8 #[51, 59, 67, 75, 83, 91, 103, 111, 119], 51) := by decide +kernel
theorem dX6_count_52 : decode cX6_count 52 = .ok (.aload_n 0, 1) := by decide +kernel
theorem dX6_count_53 : decode cX6_count 53 = .ok (.getfield 23, 3) := by decide +kernel
theorem dX6_count_56 : decode cX6_count 56 = .ok (.getfield 60, 3) := by decide +kernel
theorem dX6_count_59 : decode cX6_count 59 = .ok (.ireturn, 1) := by decide +kernel
theorem dX6_count_60 : decode cX6_count 60 = .ok (.aload_n 0, 1) := by decide +kernel
theorem dX6_count_61 : decode cX6_count 61 = .ok (.getfield 23, 3) := by decide +kernel
theorem dX6_count_64 : decode cX6_count 64 = .ok (.getfield 166, 3) := by decide +kernel
theorem dX6_count_67 : decode cX6_count 67 = .ok (.ireturn, 1) := by decide +kernel
theorem dX6_count_68 : decode cX6_count 68 = .ok (.aload_n 0, 1) := by decide +kernel
theorem dX6_count_69 : decode cX6_count 69 = .ok (.getfield 23, 3) := by decide +kernel
theorem dX6_count_72 : decode cX6_count 72 = .ok (.getfield 181, 3) := by decide +kernel
theorem dX6_count_75 : decode cX6_count 75 = .ok (.ireturn, 1) := by decide +kernel
theorem dX6_count_76 : decode cX6_count 76 = .ok (.aload_n 0, 1) := by decide +kernel
theorem dX6_count_77 : decode cX6_count 77 = .ok (.getfield 23, 3) := by decide +kernel
theorem dX6_count_80 : decode cX6_count 80 = .ok (.getfield 184, 3) := by decide +kernel
theorem dX6_count_83 : decode cX6_count 83 = .ok (.ireturn, 1) := by decide +kernel
theorem dX6_count_84 : decode cX6_count 84 = .ok (.aload_n 0, 1) := by decide +kernel
theorem dX6_count_85 : decode cX6_count 85 = .ok (.getfield 63, 3) := by decide +kernel
theorem dX6_count_88 : decode cX6_count 88 = .ok (.invokestatic 81, 3) := by decide +kernel
theorem dX6_count_91 : decode cX6_count 91 = .ok (.ireturn, 1) := by decide +kernel
theorem dX6_count_92 : decode cX6_count 92 = .ok (.aload_n 0, 1) := by decide +kernel
theorem dX6_count_93 : decode cX6_count 93 = .ok (.getfield 23, 3) := by decide +kernel
theorem dX6_count_96 : decode cX6_count 96 = .ok (.aload_n 0, 1) := by decide +kernel
theorem dX6_count_97 : decode cX6_count 97 = .ok (.getfield 63, 3) := by decide +kernel
theorem dX6_count_100 : decode cX6_count 100 = .ok (.invokevirtual 244, 3) := by decide +kernel
theorem dX6_count_103 : decode cX6_count 103 = .ok (.ireturn, 1) := by decide +kernel
theorem dX6_count_104 : decode cX6_count 104 = .ok (.aload_n 0, 1) := by decide +kernel
theorem dX6_count_105 : decode cX6_count 105 = .ok (.getfield 23, 3) := by decide +kernel
theorem dX6_count_108 : decode cX6_count 108 = .ok (.invokevirtual 247, 3) := by decide +kernel
theorem dX6_count_111 : decode cX6_count 111 = .ok (.ireturn, 1) := by decide +kernel
theorem dX6_count_112 : decode cX6_count 112 = .ok (.aload_n 0, 1) := by decide +kernel
theorem dX6_count_113 : decode cX6_count 113 = .ok (.getfield 33, 3) := by decide +kernel
theorem dX6_count_116 : decode cX6_count 116 = .ok (.getfield 116, 3) := by decide +kernel
theorem dX6_count_119 : decode cX6_count 119 = .ok (.ireturn, 1) := by decide +kernel
theorem dX6_count_120 : decode cX6_count 120 = .ok (.aload_n 0, 1) := by decide +kernel
theorem dX6_count_121 : decode cX6_count 121 = .ok (.getfield 49, 3) := by decide +kernel
theorem dX6_count_124 : decode cX6_count 124 = .ok (.ireturn, 1) := by decide +kernel
theorem dX6_count_125 : decode cX6_count 125 = .ok (.iconst (-1), 1) := by decide +kernel
theorem dX6_count_126 : decode cX6_count 126 = .ok (.ireturn, 1) := by decide +kernel
theorem dX6_isBelow_0 : decode cX6_isBelow 0 = .ok (.iload_n 0, 1) := by decide +kernel
theorem dX6_isBelow_1 : decode cX6_isBelow 1 = .ok (.ifCond .lt 12, 3) := by decide +kernel
theorem dX6_isBelow_4 : decode cX6_isBelow 4 = .ok (.iload_n 0, 1) := by decide +kernel
theorem dX6_isBelow_5 : decode cX6_isBelow 5 = .ok (.iload_n 1, 1) := by decide +kernel
theorem dX6_isBelow_6 : decode cX6_isBelow 6 = .ok (.if_icmp .ge 7, 3) := by decide +kernel
theorem dX6_isBelow_9 : decode cX6_isBelow 9 = .ok (.iconst 1, 1) := by decide +kernel
theorem dX6_isBelow_10 : decode cX6_isBelow 10 = .ok (.goto 4, 3) := by decide +kernel
theorem dX6_isBelow_13 : decode cX6_isBelow 13 = .ok (.iconst 0, 1) := by decide +kernel
theorem dX6_isBelow_14 : decode cX6_isBelow 14 = .ok (.ireturn, 1) := by decide +kernel
theorem dX6_isCell_0 : decode cX6_isCell 0 = .ok (.iload_n 0, 1) := by decide +kernel
theorem dX6_isCell_1 : decode cX6_isCell 1 = .ok (.bipush 6, 2) := by decide +kernel
theorem dX6_isCell_3 : decode cX6_isCell 3 = .ok (.invokestatic 159, 3) := by decide +kernel
theorem dX6_isCell_6 : decode cX6_isCell 6 = .ok (.ifCond .eq 23, 3) := by decide +kernel
theorem dX6_isCell_9 : decode cX6_isCell 9 = .ok (.iload_n 1, 1) := by decide +kernel
theorem dX6_isCell_10 : decode cX6_isCell 10 = .ok (.iconst 4, 1) := by decide +kernel
theorem dX6_isCell_11 : decode cX6_isCell 11 = .ok (.invokestatic 159, 3) := by decide +kernel
theorem dX6_isCell_14 : decode cX6_isCell 14 = .ok (.ifCond .eq 15, 3) := by decide +kernel
theorem dX6_isCell_17 : decode cX6_isCell 17 = .ok (.iload_n 2, 1) := by decide +kernel
theorem dX6_isCell_18 : decode cX6_isCell 18 = .ok (.iconst 4, 1) := by decide +kernel
theorem dX6_isCell_19 : decode cX6_isCell 19 = .ok (.invokestatic 159, 3) := by decide +kernel
theorem dX6_isCell_22 : decode cX6_isCell 22 = .ok (.ifCond .eq 7, 3) := by decide +kernel
theorem dX6_isCell_25 : decode cX6_isCell 25 = .ok (.iconst 1, 1) := by decide +kernel
theorem dX6_isCell_26 : decode cX6_isCell 26 = .ok (.goto 4, 3) := by decide +kernel
theorem dX6_isCell_29 : decode cX6_isCell 29 = .ok (.iconst 0, 1) := by decide +kernel
theorem dX6_isCell_30 : decode cX6_isCell 30 = .ok (.ireturn, 1) := by decide +kernel
theorem dX6_cellOf_0 : decode cX6_cellOf 0 = .ok (.iload_n 0, 1) := by decide +kernel
theorem dX6_cellOf_1 : decode cX6_cellOf 1 = .ok (.iconst 4, 1) := by decide +kernel
theorem dX6_cellOf_2 : decode cX6_cellOf 2 = .ok (.imul, 1) := by decide +kernel
theorem dX6_cellOf_3 : decode cX6_cellOf 3 = .ok (.iload_n 1, 1) := by decide +kernel
theorem dX6_cellOf_4 : decode cX6_cellOf 4 = .ok (.iadd, 1) := by decide +kernel
theorem dX6_cellOf_5 : decode cX6_cellOf 5 = .ok (.iconst 4, 1) := by decide +kernel
theorem dX6_cellOf_6 : decode cX6_cellOf 6 = .ok (.imul, 1) := by decide +kernel
theorem dX6_cellOf_7 : decode cX6_cellOf 7 = .ok (.iload_n 2, 1) := by decide +kernel
theorem dX6_cellOf_8 : decode cX6_cellOf 8 = .ok (.iadd, 1) := by decide +kernel
theorem dX6_cellOf_9 : decode cX6_cellOf 9 = .ok (.ireturn, 1) := by decide +kernel
theorem dX6_landOf_0 : decode cX6_landOf 0 = .ok (.iload_n 0, 1) := by decide +kernel
theorem dX6_landOf_1 : decode cX6_landOf 1 = .ok (.bipush 16, 2) := by decide +kernel
theorem dX6_landOf_3 : decode cX6_landOf 3 = .ok (.idiv, 1) := by decide +kernel
theorem dX6_landOf_4 : decode cX6_landOf 4 = .ok (.ireturn, 1) := by decide +kernel
theorem dX6_tongueOf_0 : decode cX6_tongueOf 0 = .ok (.iload_n 0, 1) := by decide +kernel
theorem dX6_tongueOf_1 : decode cX6_tongueOf 1 = .ok (.iconst 4, 1) := by decide +kernel
theorem dX6_tongueOf_2 : decode cX6_tongueOf 2 = .ok (.idiv, 1) := by decide +kernel
theorem dX6_tongueOf_3 : decode cX6_tongueOf 3 = .ok (.iconst 4, 1) := by decide +kernel
theorem dX6_tongueOf_4 : decode cX6_tongueOf 4 = .ok (.irem, 1) := by decide +kernel
theorem dX6_tongueOf_5 : decode cX6_tongueOf 5 = .ok (.ireturn, 1) := by decide +kernel
theorem dX6_meansOf_0 : decode cX6_meansOf 0 = .ok (.iload_n 0, 1) := by decide +kernel
theorem dX6_meansOf_1 : decode cX6_meansOf 1 = .ok (.iconst 4, 1) := by decide +kernel
theorem dX6_meansOf_2 : decode cX6_meansOf 2 = .ok (.irem, 1) := by decide +kernel
theorem dX6_meansOf_3 : decode cX6_meansOf 3 = .ok (.ireturn, 1) := by decide +kernel
theorem dX6_has_0 : decode cX6_has 0 = .ok (.iload_n 0, 1) := by decide +kernel
theorem dX6_has_1 : decode cX6_has 1 = .ok (.iload_n 1, 1) := by decide +kernel
theorem dX6_has_2 : decode cX6_has 2 = .ok (.ishr, 1) := by decide +kernel
theorem dX6_has_3 : decode cX6_has 3 = .ok (.iconst 1, 1) := by decide +kernel
theorem dX6_has_4 : decode cX6_has 4 = .ok (.iand, 1) := by decide +kernel
theorem dX6_has_5 : decode cX6_has 5 = .ok (.ifCond .eq 7, 3) := by decide +kernel
theorem dX6_has_8 : decode cX6_has 8 = .ok (.iconst 1, 1) := by decide +kernel
theorem dX6_has_9 : decode cX6_has 9 = .ok (.goto 4, 3) := by decide +kernel
theorem dX6_has_12 : decode cX6_has 12 = .ok (.iconst 0, 1) := by decide +kernel
theorem dX6_has_13 : decode cX6_has 13 = .ok (.ireturn, 1) := by decide +kernel
theorem dX6_isSetBelow_0 : decode cX6_isSetBelow 0 = .ok (.iload_n 0, 1) := by decide +kernel
theorem dX6_isSetBelow_1 : decode cX6_isSetBelow 1 = .ok (.iconst 1, 1) := by decide +kernel
theorem dX6_isSetBelow_2 : decode cX6_isSetBelow 2 = .ok (.if_icmp .lt 14, 3) := by decide +kernel
theorem dX6_isSetBelow_5 : decode cX6_isSetBelow 5 = .ok (.iload_n 0, 1) := by decide +kernel
theorem dX6_isSetBelow_6 : decode cX6_isSetBelow 6 = .ok (.iconst 1, 1) := by decide +kernel
theorem dX6_isSetBelow_7 : decode cX6_isSetBelow 7 = .ok (.iload_n 1, 1) := by decide +kernel
theorem dX6_isSetBelow_8 : decode cX6_isSetBelow 8 = .ok (.ishl, 1) := by decide +kernel
theorem dX6_isSetBelow_9 : decode cX6_isSetBelow 9 = .ok (.if_icmp .ge 7, 3) := by decide +kernel
theorem dX6_isSetBelow_12 : decode cX6_isSetBelow 12 = .ok (.iconst 1, 1) := by decide +kernel
theorem dX6_isSetBelow_13 : decode cX6_isSetBelow 13 = .ok (.goto 4, 3) := by decide +kernel
theorem dX6_isSetBelow_16 : decode cX6_isSetBelow 16 = .ok (.iconst 0, 1) := by decide +kernel
theorem dX6_isSetBelow_17 : decode cX6_isSetBelow 17 = .ok (.ireturn, 1) := by decide +kernel
theorem dX6_hasWeek_0 : decode cX6_hasWeek 0 = .ok (.lload_n 0, 1) := by decide +kernel
theorem dX6_hasWeek_1 : decode cX6_hasWeek 1 = .ok (.iload_n 2, 1) := by decide +kernel
theorem dX6_hasWeek_2 : decode cX6_hasWeek 2 = .ok (.lshr, 1) := by decide +kernel
theorem dX6_hasWeek_3 : decode cX6_hasWeek 3 = .ok (.lconst 1, 1) := by decide +kernel
theorem dX6_hasWeek_4 : decode cX6_hasWeek 4 = .ok (.land, 1) := by decide +kernel
theorem dX6_hasWeek_5 : decode cX6_hasWeek 5 = .ok (.lconst 0, 1) := by decide +kernel
theorem dX6_hasWeek_6 : decode cX6_hasWeek 6 = .ok (.lcmp, 1) := by decide +kernel
theorem dX6_hasWeek_7 : decode cX6_hasWeek 7 = .ok (.ifCond .eq 7, 3) := by decide +kernel
theorem dX6_hasWeek_10 : decode cX6_hasWeek 10 = .ok (.iconst 1, 1) := by decide +kernel
theorem dX6_hasWeek_11 : decode cX6_hasWeek 11 = .ok (.goto 4, 3) := by decide +kernel
theorem dX6_hasWeek_14 : decode cX6_hasWeek 14 = .ok (.iconst 0, 1) := by decide +kernel
theorem dX6_hasWeek_15 : decode cX6_hasWeek 15 = .ok (.ireturn, 1) := by decide +kernel
theorem dX6_weeksFromTo_0 : decode cX6_weeksFromTo 0 = .ok (.lconst 1, 1) := by decide +kernel
theorem dX6_weeksFromTo_1 : decode cX6_weeksFromTo 1 = .ok (.iload_n 1, 1) := by decide +kernel
theorem dX6_weeksFromTo_2 : decode cX6_weeksFromTo 2 = .ok (.iconst 1, 1) := by decide +kernel
theorem dX6_weeksFromTo_3 : decode cX6_weeksFromTo 3 = .ok (.iadd, 1) := by decide +kernel
theorem dX6_weeksFromTo_4 : decode cX6_weeksFromTo 4 = .ok (.lshl, 1) := by decide +kernel
theorem dX6_weeksFromTo_5 : decode cX6_weeksFromTo 5 = .ok (.lconst 1, 1) := by decide +kernel
theorem dX6_weeksFromTo_6 : decode cX6_weeksFromTo 6 = .ok (.iload_n 0, 1) := by decide +kernel
theorem dX6_weeksFromTo_7 : decode cX6_weeksFromTo 7 = .ok (.lshl, 1) := by decide +kernel
theorem dX6_weeksFromTo_8 : decode cX6_weeksFromTo 8 = .ok (.lsub, 1) := by decide +kernel
theorem dX6_weeksFromTo_9 : decode cX6_weeksFromTo 9 = .ok (.lreturn, 1) := by decide +kernel
theorem dX6_windowStarts_0 : decode cX6_windowStarts 0 = .ok (.lload_n 0, 1) := by decide +kernel
theorem dX6_windowStarts_1 : decode cX6_windowStarts 1 = .ok (.lload_n 0, 1) := by decide +kernel
theorem dX6_windowStarts_2 : decode cX6_windowStarts 2 = .ok (.iconst 1, 1) := by decide +kernel
theorem dX6_windowStarts_3 : decode cX6_windowStarts 3 = .ok (.lshl, 1) := by decide +kernel
theorem dX6_windowStarts_4 : decode cX6_windowStarts 4 = .ok (.ldc2_w 239, 3) := by decide +kernel
theorem dX6_windowStarts_7 : decode cX6_windowStarts 7 = .ok (.lxor, 1) := by decide +kernel
theorem dX6_windowStarts_8 : decode cX6_windowStarts 8 = .ok (.land, 1) := by decide +kernel
theorem dX6_windowStarts_9 : decode cX6_windowStarts 9 = .ok (.lreturn, 1) := by decide +kernel
theorem dX6_kthWeek_0 : decode cX6_kthWeek 0 = .ok (.iconst 0, 1) := by decide +kernel
theorem dX6_kthWeek_1 : decode cX6_kthWeek 1 = .ok (.istore_n 3, 1) := by decide +kernel
theorem dX6_kthWeek_2 : decode cX6_kthWeek 2 = .ok (.iconst 0, 1) := by decide +kernel
theorem dX6_kthWeek_3 : decode cX6_kthWeek 3 = .ok (.istore 4, 2) := by decide +kernel
theorem dX6_kthWeek_5 : decode cX6_kthWeek 5 = .ok (.iload 4, 2) := by decide +kernel
theorem dX6_kthWeek_7 : decode cX6_kthWeek 7 = .ok (.bipush 51, 2) := by decide +kernel
theorem dX6_kthWeek_9 : decode cX6_kthWeek 9 = .ok (.if_icmp .gt 29, 3) := by decide +kernel
theorem dX6_kthWeek_12 : decode cX6_kthWeek 12 = .ok (.lload_n 0, 1) := by decide +kernel
theorem dX6_kthWeek_13 : decode cX6_kthWeek 13 = .ok (.iload 4, 2) := by decide +kernel
theorem dX6_kthWeek_15 : decode cX6_kthWeek 15 = .ok (.invokestatic 197, 3) := by decide +kernel
theorem dX6_kthWeek_18 : decode cX6_kthWeek 18 = .ok (.ifCond .eq 14, 3) := by decide +kernel
theorem dX6_kthWeek_21 : decode cX6_kthWeek 21 = .ok (.iload_n 3, 1) := by decide +kernel
theorem dX6_kthWeek_22 : decode cX6_kthWeek 22 = .ok (.iload_n 2, 1) := by decide +kernel
theorem dX6_kthWeek_23 : decode cX6_kthWeek 23 = .ok (.if_icmp .ne 6, 3) := by decide +kernel
theorem dX6_kthWeek_26 : decode cX6_kthWeek 26 = .ok (.iload 4, 2) := by decide +kernel
theorem dX6_kthWeek_28 : decode cX6_kthWeek 28 = .ok (.ireturn, 1) := by decide +kernel
theorem dX6_kthWeek_29 : decode cX6_kthWeek 29 = .ok (.iinc 3 1, 3) := by decide +kernel
theorem dX6_kthWeek_32 : decode cX6_kthWeek 32 = .ok (.iinc 4 1, 3) := by decide +kernel
theorem dX6_kthWeek_35 : decode cX6_kthWeek 35 = .ok (.goto (-30), 3) := by decide +kernel
theorem dX6_kthWeek_38 : decode cX6_kthWeek 38 = .ok (.bipush (-4), 2) := by decide +kernel
theorem dX6_kthWeek_40 : decode cX6_kthWeek 40 = .ok (.ireturn, 1) := by decide +kernel
theorem dX6_windowLength_0 : decode cX6_windowLength 0 = .ok (.iload_n 2, 1) := by decide +kernel
theorem dX6_windowLength_1 : decode cX6_windowLength 1 = .ok (.istore_n 3, 1) := by decide +kernel
theorem dX6_windowLength_2 : decode cX6_windowLength 2 = .ok (.iload_n 3, 1) := by decide +kernel
theorem dX6_windowLength_3 : decode cX6_windowLength 3 = .ok (.bipush 51, 2) := by decide +kernel
theorem dX6_windowLength_5 : decode cX6_windowLength 5 = .ok (.if_icmp .gt 17, 3) := by decide +kernel
theorem dX6_windowLength_8 : decode cX6_windowLength 8 = .ok (.lload_n 0, 1) := by decide +kernel
theorem dX6_windowLength_9 : decode cX6_windowLength 9 = .ok (.iload_n 3, 1) := by decide +kernel
theorem dX6_windowLength_10 : decode cX6_windowLength 10 = .ok (.invokestatic 197, 3) := by decide +kernel
theorem dX6_windowLength_13 : decode cX6_windowLength 13 = .ok (.ifCond .eq 9, 3) := by decide +kernel
theorem dX6_windowLength_16 : decode cX6_windowLength 16 = .ok (.iinc 3 1, 3) := by decide +kernel
theorem dX6_windowLength_19 : decode cX6_windowLength 19 = .ok (.goto (-17), 3) := by decide +kernel
theorem dX6_windowLength_22 : decode cX6_windowLength 22 = .ok (.iload_n 3, 1) := by decide +kernel
theorem dX6_windowLength_23 : decode cX6_windowLength 23 = .ok (.iload_n 2, 1) := by decide +kernel
theorem dX6_windowLength_24 : decode cX6_windowLength 24 = .ok (.isub, 1) := by decide +kernel
theorem dX6_windowLength_25 : decode cX6_windowLength 25 = .ok (.ireturn, 1) := by decide +kernel
theorem dX6_longestStart_0 : decode cX6_longestStart 0 = .ok (.iconst 0, 1) := by decide +kernel
theorem dX6_longestStart_1 : decode cX6_longestStart 1 = .ok (.istore_n 2, 1) := by decide +kernel
theorem dX6_longestStart_2 : decode cX6_longestStart 2 = .ok (.iconst 0, 1) := by decide +kernel
theorem dX6_longestStart_3 : decode cX6_longestStart 3 = .ok (.istore_n 3, 1) := by decide +kernel
theorem dX6_longestStart_4 : decode cX6_longestStart 4 = .ok (.iconst 0, 1) := by decide +kernel
theorem dX6_longestStart_5 : decode cX6_longestStart 5 = .ok (.istore 4, 2) := by decide +kernel
theorem dX6_longestStart_7 : decode cX6_longestStart 7 = .ok (.iconst 0, 1) := by decide +kernel
theorem dX6_longestStart_8 : decode cX6_longestStart 8 = .ok (.istore 5, 2) := by decide +kernel
theorem dX6_longestStart_10 : decode cX6_longestStart 10 = .ok (.iload 5, 2) := by decide +kernel
theorem dX6_longestStart_12 : decode cX6_longestStart 12 = .ok (.bipush 51, 2) := by decide +kernel
theorem dX6_longestStart_14 : decode cX6_longestStart 14 = .ok (.if_icmp .gt 45, 3) := by decide +kernel
theorem dX6_longestStart_17 : decode cX6_longestStart 17 = .ok (.lload_n 0, 1) := by decide +kernel
theorem dX6_longestStart_18 : decode cX6_longestStart 18 = .ok (.iload 5, 2) := by decide +kernel
theorem dX6_longestStart_20 : decode cX6_longestStart 20 = .ok (.invokestatic 197, 3) := by decide +kernel
theorem dX6_longestStart_23 : decode cX6_longestStart 23 = .ok (.ifCond .eq 10, 3) := by decide +kernel
theorem dX6_longestStart_26 : decode cX6_longestStart 26 = .ok (.iload 4, 2) := by decide +kernel
theorem dX6_longestStart_28 : decode cX6_longestStart 28 = .ok (.iconst 1, 1) := by decide +kernel
theorem dX6_longestStart_29 : decode cX6_longestStart 29 = .ok (.iadd, 1) := by decide +kernel
theorem dX6_longestStart_30 : decode cX6_longestStart 30 = .ok (.goto 4, 3) := by decide +kernel
theorem dX6_longestStart_33 : decode cX6_longestStart 33 = .ok (.iconst 0, 1) := by decide +kernel
theorem dX6_longestStart_34 : decode cX6_longestStart 34 = .ok (.istore 4, 2) := by decide +kernel
theorem dX6_longestStart_36 : decode cX6_longestStart 36 = .ok (.iload 4, 2) := by decide +kernel
theorem dX6_longestStart_38 : decode cX6_longestStart 38 = .ok (.iload_n 2, 1) := by decide +kernel
theorem dX6_longestStart_39 : decode cX6_longestStart 39 = .ok (.if_icmp .le 14, 3) := by decide +kernel
theorem dX6_longestStart_42 : decode cX6_longestStart 42 = .ok (.iload 4, 2) := by decide +kernel
theorem dX6_longestStart_44 : decode cX6_longestStart 44 = .ok (.istore_n 2, 1) := by decide +kernel
theorem dX6_longestStart_45 : decode cX6_longestStart 45 = .ok (.iload 5, 2) := by decide +kernel
theorem dX6_longestStart_47 : decode cX6_longestStart 47 = .ok (.iload 4, 2) := by decide +kernel
theorem dX6_longestStart_49 : decode cX6_longestStart 49 = .ok (.isub, 1) := by decide +kernel
theorem dX6_longestStart_50 : decode cX6_longestStart 50 = .ok (.iconst 1, 1) := by decide +kernel
theorem dX6_longestStart_51 : decode cX6_longestStart 51 = .ok (.iadd, 1) := by decide +kernel
theorem dX6_longestStart_52 : decode cX6_longestStart 52 = .ok (.istore_n 3, 1) := by decide +kernel
theorem dX6_longestStart_53 : decode cX6_longestStart 53 = .ok (.iinc 5 1, 3) := by decide +kernel
theorem dX6_longestStart_56 : decode cX6_longestStart 56 = .ok (.goto (-46), 3) := by decide +kernel
theorem dX6_longestStart_59 : decode cX6_longestStart 59 = .ok (.iload_n 3, 1) := by decide +kernel
theorem dX6_longestStart_60 : decode cX6_longestStart 60 = .ok (.ireturn, 1) := by decide +kernel
theorem dX7_init_0 : decode cX7_init 0 = .ok (.aload_n 0, 1) := by decide +kernel
theorem dX7_init_1 : decode cX7_init 1 = .ok (.invokespecial 1, 3) := by decide +kernel
theorem dX7_init_4 : decode cX7_init 4 = .ok (.aload_n 0, 1) := by decide +kernel
theorem dX7_init_5 : decode cX7_init 5 = .ok (.sipush 200, 3) := by decide +kernel
theorem dX7_init_8 : decode cX7_init 8 = .ok (.newarray .int, 2) := by decide +kernel
theorem dX7_init_10 : decode cX7_init 10 = .ok (.putfield 7, 3) := by decide +kernel
theorem dX7_init_13 : decode cX7_init 13 = .ok (.aload_n 0, 1) := by decide +kernel
theorem dX7_init_14 : decode cX7_init 14 = .ok (.bipush 70, 2) := by decide +kernel
theorem dX7_init_16 : decode cX7_init 16 = .ok (.newarray .int, 2) := by decide +kernel
theorem dX7_init_18 : decode cX7_init 18 = .ok (.putfield 13, 3) := by decide +kernel
theorem dX7_init_21 : decode cX7_init 21 = .ok (.aload_n 0, 1) := by decide +kernel
theorem dX7_init_22 : decode cX7_init 22 = .ok (.bipush 12, 2) := by decide +kernel
theorem dX7_init_24 : decode cX7_init 24 = .ok (.newarray .int, 2) := by decide +kernel
theorem dX7_init_26 : decode cX7_init 26 = .ok (.putfield 16, 3) := by decide +kernel
theorem dX7_init_29 : decode cX7_init 29 = .ok (.aload_n 0, 1) := by decide +kernel
theorem dX7_init_30 : decode cX7_init 30 = .ok (.bipush 70, 2) := by decide +kernel
theorem dX7_init_32 : decode cX7_init 32 = .ok (.newarray .int, 2) := by decide +kernel
theorem dX7_init_34 : decode cX7_init 34 = .ok (.putfield 19, 3) := by decide +kernel
theorem dX7_init_37 : decode cX7_init 37 = .ok (.aload_n 0, 1) := by decide +kernel
theorem dX7_init_38 : decode cX7_init 38 = .ok (.bipush 12, 2) := by decide +kernel
theorem dX7_init_40 : decode cX7_init 40 = .ok (.newarray .int, 2) := by decide +kernel
theorem dX7_init_42 : decode cX7_init 42 = .ok (.putfield 22, 3) := by decide +kernel
theorem dX7_init_45 : decode cX7_init 45 = .ok (.aload_n 0, 1) := by decide +kernel
theorem dX7_init_46 : decode cX7_init 46 = .ok (.bipush 11, 2) := by decide +kernel
theorem dX7_init_48 : decode cX7_init 48 = .ok (.newarray .int, 2) := by decide +kernel
theorem dX7_init_50 : decode cX7_init 50 = .ok (.putfield 25, 3) := by decide +kernel
theorem dX7_init_53 : decode cX7_init 53 = .ok (.aload_n 0, 1) := by decide +kernel
theorem dX7_init_54 : decode cX7_init 54 = .ok (.bipush 66, 2) := by decide +kernel
theorem dX7_init_56 : decode cX7_init 56 = .ok (.newarray .int, 2) := by decide +kernel
theorem dX7_init_58 : decode cX7_init 58 = .ok (.putfield 28, 3) := by decide +kernel
theorem dX7_init_61 : decode cX7_init 61 = .ok (.aload_n 0, 1) := by decide +kernel
theorem dX7_init_62 : decode cX7_init 62 = .ok (.bipush 7, 2) := by decide +kernel
theorem dX7_init_64 : decode cX7_init 64 = .ok (.newarray .int, 2) := by decide +kernel
theorem dX7_init_66 : decode cX7_init 66 = .ok (.putfield 31, 3) := by decide +kernel
theorem dX7_init_69 : decode cX7_init 69 = .ok (.aload_n 0, 1) := by decide +kernel
theorem dX7_init_70 : decode cX7_init 70 = .ok (.invokevirtual 34, 3) := by decide +kernel
theorem dX7_init_73 : decode cX7_init 73 = .ok (.aload_n 0, 1) := by decide +kernel
theorem dX7_init_74 : decode cX7_init 74 = .ok (.iconst 2, 1) := by decide +kernel
theorem dX7_init_75 : decode cX7_init 75 = .ok (.putfield 37, 3) := by decide +kernel
theorem dX7_init_78 : decode cX7_init 78 = .ok (.aload_n 0, 1) := by decide +kernel
theorem dX7_init_79 : decode cX7_init 79 = .ok (.bipush 48, 2) := by decide +kernel
theorem dX7_init_81 : decode cX7_init 81 = .ok (.putfield 41, 3) := by decide +kernel
theorem dX7_init_84 : decode cX7_init 84 = .ok (.aload_n 0, 1) := by decide +kernel
theorem dX7_init_85 : decode cX7_init 85 = .ok (.iconst 3, 1) := by decide +kernel
theorem dX7_init_86 : decode cX7_init 86 = .ok (.iconst 1, 1) := by decide +kernel
theorem dX7_init_87 : decode cX7_init 87 = .ok (.iconst 1, 1) := by decide +kernel
theorem dX7_init_88 : decode cX7_init 88 = .ok (.iconst 2, 1) := by decide +kernel
theorem dX7_init_89 : decode cX7_init 89 = .ok (.bipush 10, 2) := by decide +kernel
theorem dX7_init_91 : decode cX7_init 91 = .ok (.iconst 1, 1) := by decide +kernel
theorem dX7_init_92 : decode cX7_init 92 = .ok (.bipush 40, 2) := by decide +kernel
theorem dX7_init_94 : decode cX7_init 94 = .ok (.invokevirtual 44, 3) := by decide +kernel
theorem dX7_init_97 : decode cX7_init 97 = .ok (.aload_n 0, 1) := by decide +kernel
theorem dX7_init_98 : decode cX7_init 98 = .ok (.iconst 3, 1) := by decide +kernel
theorem dX7_init_99 : decode cX7_init 99 = .ok (.iconst 3, 1) := by decide +kernel
theorem dX7_init_100 : decode cX7_init 100 = .ok (.iconst 2, 1) := by decide +kernel
theorem dX7_init_101 : decode cX7_init 101 = .ok (.bipush 20, 2) := by decide +kernel
theorem dX7_init_103 : decode cX7_init 103 = .ok (.bipush 40, 2) := by decide +kernel
theorem dX7_init_105 : decode cX7_init 105 = .ok (.iconst 0, 1) := by decide +kernel
theorem dX7_init_106 : decode cX7_init 106 = .ok (.bipush 25, 2) := by decide +kernel
theorem dX7_init_108 : decode cX7_init 108 = .ok (.invokevirtual 44, 3) := by decide +kernel
theorem dX7_init_111 : decode cX7_init 111 = .ok (.aload_n 0, 1) := by decide +kernel
theorem dX7_init_112 : decode cX7_init 112 = .ok (.bipush 6, 2) := by decide +kernel
theorem dX7_init_114 : decode cX7_init 114 = .ok (.iconst 1, 1) := by decide +kernel
theorem dX7_init_115 : decode cX7_init 115 = .ok (.iconst 2, 1) := by decide +kernel
theorem dX7_init_116 : decode cX7_init 116 = .ok (.bipush 30, 2) := by decide +kernel
theorem dX7_init_118 : decode cX7_init 118 = .ok (.bipush 48, 2) := by decide +kernel
theorem dX7_init_120 : decode cX7_init 120 = .ok (.iconst 1, 1) := by decide +kernel
theorem dX7_init_121 : decode cX7_init 121 = .ok (.bipush 30, 2) := by decide +kernel
theorem dX7_init_123 : decode cX7_init 123 = .ok (.invokevirtual 44, 3) := by decide +kernel
theorem dX7_init_126 : decode cX7_init 126 = .ok (.aload_n 0, 1) := by decide +kernel
theorem dX7_init_127 : decode cX7_init 127 = .ok (.iconst 1, 1) := by decide +kernel
theorem dX7_init_128 : decode cX7_init 128 = .ok (.iconst 2, 1) := by decide +kernel
theorem dX7_init_129 : decode cX7_init 129 = .ok (.bipush 12, 2) := by decide +kernel
theorem dX7_init_131 : decode cX7_init 131 = .ok (.bipush 8, 2) := by decide +kernel
theorem dX7_init_133 : decode cX7_init 133 = .ok (.bipush 51, 2) := by decide +kernel
theorem dX7_init_135 : decode cX7_init 135 = .ok (.iconst 0, 1) := by decide +kernel
theorem dX7_init_136 : decode cX7_init 136 = .ok (.bipush 9, 2) := by decide +kernel
theorem dX7_init_138 : decode cX7_init 138 = .ok (.invokevirtual 44, 3) := by decide +kernel
theorem dX7_init_141 : decode cX7_init 141 = .ok (.aload_n 0, 1) := by decide +kernel
theorem dX7_init_142 : decode cX7_init 142 = .ok (.bipush 32, 2) := by decide +kernel
theorem dX7_init_144 : decode cX7_init 144 = .ok (.bipush 15, 2) := by decide +kernel
theorem dX7_init_146 : decode cX7_init 146 = .ok (.bipush 15, 2) := by decide +kernel
theorem dX7_init_148 : decode cX7_init 148 = .ok (.iconst 2, 1) := by decide +kernel
theorem dX7_init_149 : decode cX7_init 149 = .ok (.bipush 48, 2) := by decide +kernel
theorem dX7_init_151 : decode cX7_init 151 = .ok (.iconst 0, 1) := by decide +kernel
theorem dX7_init_152 : decode cX7_init 152 = .ok (.bipush 60, 2) := by decide +kernel
theorem dX7_init_154 : decode cX7_init 154 = .ok (.invokevirtual 44, 3) := by decide +kernel
theorem dX7_init_157 : decode cX7_init 157 = .ok (.aload_n 0, 1) := by decide +kernel
theorem dX7_init_158 : decode cX7_init 158 = .ok (.bipush 35, 2) := by decide +kernel
theorem dX7_init_160 : decode cX7_init 160 = .ok (.iconst 1, 1) := by decide +kernel
theorem dX7_init_161 : decode cX7_init 161 = .ok (.iconst 4, 1) := by decide +kernel
theorem dX7_init_162 : decode cX7_init 162 = .ok (.bipush 15, 2) := by decide +kernel
theorem dX7_init_164 : decode cX7_init 164 = .ok (.bipush 20, 2) := by decide +kernel
theorem dX7_init_166 : decode cX7_init 166 = .ok (.iconst 0, 1) := by decide +kernel
theorem dX7_init_167 : decode cX7_init 167 = .ok (.bipush 12, 2) := by decide +kernel
theorem dX7_init_169 : decode cX7_init 169 = .ok (.invokevirtual 44, 3) := by decide +kernel
theorem dX7_init_172 : decode cX7_init 172 = .ok (.aload_n 0, 1) := by decide +kernel
theorem dX7_init_173 : decode cX7_init 173 = .ok (.iconst 1, 1) := by decide +kernel
theorem dX7_init_174 : decode cX7_init 174 = .ok (.iconst 0, 1) := by decide +kernel
theorem dX7_init_175 : decode cX7_init 175 = .ok (.bipush 12, 2) := by decide +kernel
theorem dX7_init_177 : decode cX7_init 177 = .ok (.invokevirtual 48, 3) := by decide +kernel
theorem dX7_init_180 : decode cX7_init 180 = .ok (.aload_n 0, 1) := by decide +kernel
theorem dX7_init_181 : decode cX7_init 181 = .ok (.iconst 2, 1) := by decide +kernel
theorem dX7_init_182 : decode cX7_init 182 = .ok (.iconst 0, 1) := by decide +kernel
theorem dX7_init_183 : decode cX7_init 183 = .ok (.bipush 20, 2) := by decide +kernel
theorem dX7_init_185 : decode cX7_init 185 = .ok (.invokevirtual 48, 3) := by decide +kernel
theorem dX7_init_188 : decode cX7_init 188 = .ok (.aload_n 0, 1) := by decide +kernel
theorem dX7_init_189 : decode cX7_init 189 = .ok (.invokevirtual 52, 3) := by decide +kernel
theorem dX7_init_192 : decode cX7_init 192 = .ok (.return_, 1) := by decide +kernel
theorem dX7_in_0 : decode cX7_in 0 = .ok (.iload_n 0, 1) := by decide +kernel
theorem dX7_in_1 : decode cX7_in 1 = .ok (.iload_n 1, 1) := by decide +kernel
theorem dX7_in_2 : decode cX7_in 2 = .ok (.if_icmp .lt 12, 3) := by decide +kernel
theorem dX7_in_5 : decode cX7_in 5 = .ok (.iload_n 0, 1) := by decide +kernel
theorem dX7_in_6 : decode cX7_in 6 = .ok (.iload_n 2, 1) := by decide +kernel
theorem dX7_in_7 : decode cX7_in 7 = .ok (.if_icmp .gt 7, 3) := by decide +kernel
theorem dX7_in_10 : decode cX7_in 10 = .ok (.iconst 1, 1) := by decide +kernel
theorem dX7_in_11 : decode cX7_in 11 = .ok (.goto 4, 3) := by decide +kernel
theorem dX7_in_14 : decode cX7_in 14 = .ok (.iconst 0, 1) := by decide +kernel
theorem dX7_in_15 : decode cX7_in 15 = .ok (.ireturn, 1) := by decide +kernel
theorem dX7_beginRead_0 : decode cX7_beginRead 0 = .ok (.aload_n 0, 1) := by decide +kernel
theorem dX7_beginRead_1 : decode cX7_beginRead 1 = .ok (.iconst 0, 1) := by decide +kernel
theorem dX7_beginRead_2 : decode cX7_beginRead 2 = .ok (.putfield 55, 3) := by decide +kernel
theorem dX7_beginRead_5 : decode cX7_beginRead 5 = .ok (.aload_n 0, 1) := by decide +kernel
theorem dX7_beginRead_6 : decode cX7_beginRead 6 = .ok (.iconst 0, 1) := by decide +kernel
theorem dX7_beginRead_7 : decode cX7_beginRead 7 = .ok (.putfield 58, 3) := by decide +kernel
theorem dX7_beginRead_10 : decode cX7_beginRead 10 = .ok (.aload_n 0, 1) := by decide +kernel
theorem dX7_beginRead_11 : decode cX7_beginRead 11 = .ok (.iconst 0, 1) := by decide +kernel
theorem dX7_beginRead_12 : decode cX7_beginRead 12 = .ok (.putfield 37, 3) := by decide +kernel
theorem dX7_beginRead_15 : decode cX7_beginRead 15 = .ok (.aload_n 0, 1) := by decide +kernel
theorem dX7_beginRead_16 : decode cX7_beginRead 16 = .ok (.bipush 51, 2) := by decide +kernel
theorem dX7_beginRead_18 : decode cX7_beginRead 18 = .ok (.putfield 41, 3) := by decide +kernel
theorem dX7_beginRead_21 : decode cX7_beginRead 21 = .ok (.return_, 1) := by decide +kernel
theorem dX7_putOffer_0 : decode cX7_putOffer 0 = .ok (.bipush 7, 2) := by decide +kernel
theorem dX7_putOffer_2 : decode cX7_putOffer 2 = .ok (.aload_n 0, 1) := by decide +kernel
theorem dX7_putOffer_3 : decode cX7_putOffer 3 = .ok (.getfield 55, 3) := by decide +kernel
theorem dX7_putOffer_6 : decode cX7_putOffer 6 = .ok (.imul, 1) := by decide +kernel
theorem dX7_putOffer_7 : decode cX7_putOffer 7 = .ok (.istore 8, 2) := by decide +kernel
theorem dX7_putOffer_9 : decode cX7_putOffer 9 = .ok (.aload_n 0, 1) := by decide +kernel
theorem dX7_putOffer_10 : decode cX7_putOffer 10 = .ok (.getfield 13, 3) := by decide +kernel
theorem dX7_putOffer_13 : decode cX7_putOffer 13 = .ok (.iload 8, 2) := by decide +kernel
theorem dX7_putOffer_15 : decode cX7_putOffer 15 = .ok (.iload_n 1, 1) := by decide +kernel
theorem dX7_putOffer_16 : decode cX7_putOffer 16 = .ok (.iastore, 1) := by decide +kernel
theorem dX7_putOffer_17 : decode cX7_putOffer 17 = .ok (.aload_n 0, 1) := by decide +kernel
theorem dX7_putOffer_18 : decode cX7_putOffer 18 = .ok (.getfield 13, 3) := by decide +kernel
theorem dX7_putOffer_21 : decode cX7_putOffer 21 = .ok (.iload 8, 2) := by decide +kernel
theorem dX7_putOffer_23 : decode cX7_putOffer 23 = .ok (.iconst 1, 1) := by decide +kernel
theorem dX7_putOffer_24 : decode cX7_putOffer 24 = .ok (.iadd, 1) := by decide +kernel
theorem dX7_putOffer_25 : decode cX7_putOffer 25 = .ok (.iload_n 2, 1) := by decide +kernel
theorem dX7_putOffer_26 : decode cX7_putOffer 26 = .ok (.iastore, 1) := by decide +kernel
theorem dX7_putOffer_27 : decode cX7_putOffer 27 = .ok (.aload_n 0, 1) := by decide +kernel
theorem dX7_putOffer_28 : decode cX7_putOffer 28 = .ok (.getfield 13, 3) := by decide +kernel
theorem dX7_putOffer_31 : decode cX7_putOffer 31 = .ok (.iload 8, 2) := by decide +kernel
theorem dX7_putOffer_33 : decode cX7_putOffer 33 = .ok (.iconst 2, 1) := by decide +kernel
theorem dX7_putOffer_34 : decode cX7_putOffer 34 = .ok (.iadd, 1) := by decide +kernel
theorem dX7_putOffer_35 : decode cX7_putOffer 35 = .ok (.iload_n 3, 1) := by decide +kernel
theorem dX7_putOffer_36 : decode cX7_putOffer 36 = .ok (.iastore, 1) := by decide +kernel
theorem dX7_putOffer_37 : decode cX7_putOffer 37 = .ok (.aload_n 0, 1) := by decide +kernel
theorem dX7_putOffer_38 : decode cX7_putOffer 38 = .ok (.getfield 13, 3) := by decide +kernel
theorem dX7_putOffer_41 : decode cX7_putOffer 41 = .ok (.iload 8, 2) := by decide +kernel
theorem dX7_putOffer_43 : decode cX7_putOffer 43 = .ok (.iconst 3, 1) := by decide +kernel
theorem dX7_putOffer_44 : decode cX7_putOffer 44 = .ok (.iadd, 1) := by decide +kernel
theorem dX7_putOffer_45 : decode cX7_putOffer 45 = .ok (.iload 4, 2) := by decide +kernel
theorem dX7_putOffer_47 : decode cX7_putOffer 47 = .ok (.iastore, 1) := by decide +kernel
theorem dX7_putOffer_48 : decode cX7_putOffer 48 = .ok (.aload_n 0, 1) := by decide +kernel
theorem dX7_putOffer_49 : decode cX7_putOffer 49 = .ok (.getfield 13, 3) := by decide +kernel
theorem dX7_putOffer_52 : decode cX7_putOffer 52 = .ok (.iload 8, 2) := by decide +kernel
theorem dX7_putOffer_54 : decode cX7_putOffer 54 = .ok (.iconst 4, 1) := by decide +kernel
theorem dX7_putOffer_55 : decode cX7_putOffer 55 = .ok (.iadd, 1) := by decide +kernel
theorem dX7_putOffer_56 : decode cX7_putOffer 56 = .ok (.iload 5, 2) := by decide +kernel
theorem dX7_putOffer_58 : decode cX7_putOffer 58 = .ok (.iastore, 1) := by decide +kernel
theorem dX7_putOffer_59 : decode cX7_putOffer 59 = .ok (.aload_n 0, 1) := by decide +kernel
theorem dX7_putOffer_60 : decode cX7_putOffer 60 = .ok (.getfield 13, 3) := by decide +kernel
theorem dX7_putOffer_63 : decode cX7_putOffer 63 = .ok (.iload 8, 2) := by decide +kernel
theorem dX7_putOffer_65 : decode cX7_putOffer 65 = .ok (.iconst 5, 1) := by decide +kernel
theorem dX7_putOffer_66 : decode cX7_putOffer 66 = .ok (.iadd, 1) := by decide +kernel
theorem dX7_putOffer_67 : decode cX7_putOffer 67 = .ok (.iload 6, 2) := by decide +kernel
theorem dX7_putOffer_69 : decode cX7_putOffer 69 = .ok (.iastore, 1) := by decide +kernel
theorem dX7_putOffer_70 : decode cX7_putOffer 70 = .ok (.aload_n 0, 1) := by decide +kernel
theorem dX7_putOffer_71 : decode cX7_putOffer 71 = .ok (.getfield 13, 3) := by decide +kernel
theorem dX7_putOffer_74 : decode cX7_putOffer 74 = .ok (.iload 8, 2) := by decide +kernel
theorem dX7_putOffer_76 : decode cX7_putOffer 76 = .ok (.bipush 6, 2) := by decide +kernel
theorem dX7_putOffer_78 : decode cX7_putOffer 78 = .ok (.iadd, 1) := by decide +kernel
theorem dX7_putOffer_79 : decode cX7_putOffer 79 = .ok (.iload 7, 2) := by decide +kernel
theorem dX7_putOffer_81 : decode cX7_putOffer 81 = .ok (.iastore, 1) := by decide +kernel
theorem dX7_putOffer_82 : decode cX7_putOffer 82 = .ok (.aload_n 0, 1) := by decide +kernel
theorem dX7_putOffer_83 : decode cX7_putOffer 83 = .ok (.dup, 1) := by decide +kernel
theorem dX7_putOffer_84 : decode cX7_putOffer 84 = .ok (.getfield 55, 3) := by decide +kernel
theorem dX7_putOffer_87 : decode cX7_putOffer 87 = .ok (.iconst 1, 1) := by decide +kernel
theorem dX7_putOffer_88 : decode cX7_putOffer 88 = .ok (.iadd, 1) := by decide +kernel
theorem dX7_putOffer_89 : decode cX7_putOffer 89 = .ok (.putfield 55, 3) := by decide +kernel
theorem dX7_putOffer_92 : decode cX7_putOffer 92 = .ok (.return_, 1) := by decide +kernel
theorem dX7_putHold_0 : decode cX7_putHold 0 = .ok (.aload_n 0, 1) := by decide +kernel
theorem dX7_putHold_1 : decode cX7_putHold 1 = .ok (.getfield 16, 3) := by decide +kernel
theorem dX7_putHold_4 : decode cX7_putHold 4 = .ok (.iconst 3, 1) := by decide +kernel
theorem dX7_putHold_5 : decode cX7_putHold 5 = .ok (.aload_n 0, 1) := by decide +kernel
theorem dX7_putHold_6 : decode cX7_putHold 6 = .ok (.getfield 58, 3) := by decide +kernel
theorem dX7_putHold_9 : decode cX7_putHold 9 = .ok (.imul, 1) := by decide +kernel
theorem dX7_putHold_10 : decode cX7_putHold 10 = .ok (.iload_n 1, 1) := by decide +kernel
theorem dX7_putHold_11 : decode cX7_putHold 11 = .ok (.iastore, 1) := by decide +kernel
theorem dX7_putHold_12 : decode cX7_putHold 12 = .ok (.aload_n 0, 1) := by decide +kernel
theorem dX7_putHold_13 : decode cX7_putHold 13 = .ok (.getfield 16, 3) := by decide +kernel
theorem dX7_putHold_16 : decode cX7_putHold 16 = .ok (.iconst 3, 1) := by decide +kernel
theorem dX7_putHold_17 : decode cX7_putHold 17 = .ok (.aload_n 0, 1) := by decide +kernel
theorem dX7_putHold_18 : decode cX7_putHold 18 = .ok (.getfield 58, 3) := by decide +kernel
theorem dX7_putHold_21 : decode cX7_putHold 21 = .ok (.imul, 1) := by decide +kernel
theorem dX7_putHold_22 : decode cX7_putHold 22 = .ok (.iconst 1, 1) := by decide +kernel
theorem dX7_putHold_23 : decode cX7_putHold 23 = .ok (.iadd, 1) := by decide +kernel
theorem dX7_putHold_24 : decode cX7_putHold 24 = .ok (.iload_n 2, 1) := by decide +kernel
theorem dX7_putHold_25 : decode cX7_putHold 25 = .ok (.iastore, 1) := by decide +kernel
theorem dX7_putHold_26 : decode cX7_putHold 26 = .ok (.aload_n 0, 1) := by decide +kernel
theorem dX7_putHold_27 : decode cX7_putHold 27 = .ok (.getfield 16, 3) := by decide +kernel
theorem dX7_putHold_30 : decode cX7_putHold 30 = .ok (.iconst 3, 1) := by decide +kernel
theorem dX7_putHold_31 : decode cX7_putHold 31 = .ok (.aload_n 0, 1) := by decide +kernel
theorem dX7_putHold_32 : decode cX7_putHold 32 = .ok (.getfield 58, 3) := by decide +kernel
theorem dX7_putHold_35 : decode cX7_putHold 35 = .ok (.imul, 1) := by decide +kernel
theorem dX7_putHold_36 : decode cX7_putHold 36 = .ok (.iconst 2, 1) := by decide +kernel
theorem dX7_putHold_37 : decode cX7_putHold 37 = .ok (.iadd, 1) := by decide +kernel
theorem dX7_putHold_38 : decode cX7_putHold 38 = .ok (.iload_n 3, 1) := by decide +kernel
theorem dX7_putHold_39 : decode cX7_putHold 39 = .ok (.iastore, 1) := by decide +kernel
theorem dX7_putHold_40 : decode cX7_putHold 40 = .ok (.aload_n 0, 1) := by decide +kernel
theorem dX7_putHold_41 : decode cX7_putHold 41 = .ok (.dup, 1) := by decide +kernel
theorem dX7_putHold_42 : decode cX7_putHold 42 = .ok (.getfield 58, 3) := by decide +kernel
theorem dX7_putHold_45 : decode cX7_putHold 45 = .ok (.iconst 1, 1) := by decide +kernel
theorem dX7_putHold_46 : decode cX7_putHold 46 = .ok (.iadd, 1) := by decide +kernel
theorem dX7_putHold_47 : decode cX7_putHold 47 = .ok (.putfield 58, 3) := by decide +kernel
theorem dX7_putHold_50 : decode cX7_putHold 50 = .ok (.return_, 1) := by decide +kernel
theorem dX7_takeRead_0 : decode cX7_takeRead 0 = .ok (.iconst 0, 1) := by decide +kernel
theorem dX7_takeRead_1 : decode cX7_takeRead 1 = .ok (.istore_n 1, 1) := by decide +kernel
theorem dX7_takeRead_2 : decode cX7_takeRead 2 = .ok (.iload_n 1, 1) := by decide +kernel
theorem dX7_takeRead_3 : decode cX7_takeRead 3 = .ok (.bipush 70, 2) := by decide +kernel
theorem dX7_takeRead_5 : decode cX7_takeRead 5 = .ok (.if_icmp .ge 21, 3) := by decide +kernel
theorem dX7_takeRead_8 : decode cX7_takeRead 8 = .ok (.aload_n 0, 1) := by decide +kernel
theorem dX7_takeRead_9 : decode cX7_takeRead 9 = .ok (.getfield 19, 3) := by decide +kernel
theorem dX7_takeRead_12 : decode cX7_takeRead 12 = .ok (.iload_n 1, 1) := by decide +kernel
theorem dX7_takeRead_13 : decode cX7_takeRead 13 = .ok (.aload_n 0, 1) := by decide +kernel
theorem dX7_takeRead_14 : decode cX7_takeRead 14 = .ok (.getfield 13, 3) := by decide +kernel
theorem dX7_takeRead_17 : decode cX7_takeRead 17 = .ok (.iload_n 1, 1) := by decide +kernel
theorem dX7_takeRead_18 : decode cX7_takeRead 18 = .ok (.iaload, 1) := by decide +kernel
theorem dX7_takeRead_19 : decode cX7_takeRead 19 = .ok (.iastore, 1) := by decide +kernel
theorem dX7_takeRead_20 : decode cX7_takeRead 20 = .ok (.iinc 1 1, 3) := by decide +kernel
theorem dX7_takeRead_23 : decode cX7_takeRead 23 = .ok (.goto (-21), 3) := by decide +kernel
theorem dX7_takeRead_26 : decode cX7_takeRead 26 = .ok (.iconst 0, 1) := by decide +kernel
theorem dX7_takeRead_27 : decode cX7_takeRead 27 = .ok (.istore_n 1, 1) := by decide +kernel
theorem dX7_takeRead_28 : decode cX7_takeRead 28 = .ok (.iload_n 1, 1) := by decide +kernel
theorem dX7_takeRead_29 : decode cX7_takeRead 29 = .ok (.bipush 12, 2) := by decide +kernel
theorem dX7_takeRead_31 : decode cX7_takeRead 31 = .ok (.if_icmp .ge 21, 3) := by decide +kernel
theorem dX7_takeRead_34 : decode cX7_takeRead 34 = .ok (.aload_n 0, 1) := by decide +kernel
theorem dX7_takeRead_35 : decode cX7_takeRead 35 = .ok (.getfield 22, 3) := by decide +kernel
theorem dX7_takeRead_38 : decode cX7_takeRead 38 = .ok (.iload_n 1, 1) := by decide +kernel
theorem dX7_takeRead_39 : decode cX7_takeRead 39 = .ok (.aload_n 0, 1) := by decide +kernel
theorem dX7_takeRead_40 : decode cX7_takeRead 40 = .ok (.getfield 16, 3) := by decide +kernel
theorem dX7_takeRead_43 : decode cX7_takeRead 43 = .ok (.iload_n 1, 1) := by decide +kernel
theorem dX7_takeRead_44 : decode cX7_takeRead 44 = .ok (.iaload, 1) := by decide +kernel
theorem dX7_takeRead_45 : decode cX7_takeRead 45 = .ok (.iastore, 1) := by decide +kernel
theorem dX7_takeRead_46 : decode cX7_takeRead 46 = .ok (.iinc 1 1, 3) := by decide +kernel
theorem dX7_takeRead_49 : decode cX7_takeRead 49 = .ok (.goto (-21), 3) := by decide +kernel
theorem dX7_takeRead_52 : decode cX7_takeRead 52 = .ok (.aload_n 0, 1) := by decide +kernel
theorem dX7_takeRead_53 : decode cX7_takeRead 53 = .ok (.aload_n 0, 1) := by decide +kernel
theorem dX7_takeRead_54 : decode cX7_takeRead 54 = .ok (.getfield 55, 3) := by decide +kernel
theorem dX7_takeRead_57 : decode cX7_takeRead 57 = .ok (.putfield 61, 3) := by decide +kernel
theorem dX7_takeRead_60 : decode cX7_takeRead 60 = .ok (.aload_n 0, 1) := by decide +kernel
theorem dX7_takeRead_61 : decode cX7_takeRead 61 = .ok (.aload_n 0, 1) := by decide +kernel
theorem dX7_takeRead_62 : decode cX7_takeRead 62 = .ok (.getfield 58, 3) := by decide +kernel
theorem dX7_takeRead_65 : decode cX7_takeRead 65 = .ok (.putfield 64, 3) := by decide +kernel
theorem dX7_takeRead_68 : decode cX7_takeRead 68 = .ok (.aload_n 0, 1) := by decide +kernel
theorem dX7_takeRead_69 : decode cX7_takeRead 69 = .ok (.aload_n 0, 1) := by decide +kernel
theorem dX7_takeRead_70 : decode cX7_takeRead 70 = .ok (.getfield 37, 3) := by decide +kernel
theorem dX7_takeRead_73 : decode cX7_takeRead 73 = .ok (.putfield 67, 3) := by decide +kernel
theorem dX7_takeRead_76 : decode cX7_takeRead 76 = .ok (.aload_n 0, 1) := by decide +kernel
theorem dX7_takeRead_77 : decode cX7_takeRead 77 = .ok (.aload_n 0, 1) := by decide +kernel
theorem dX7_takeRead_78 : decode cX7_takeRead 78 = .ok (.getfield 41, 3) := by decide +kernel
theorem dX7_takeRead_81 : decode cX7_takeRead 81 = .ok (.putfield 70, 3) := by decide +kernel
theorem dX7_takeRead_84 : decode cX7_takeRead 84 = .ok (.iconst 0, 1) := by decide +kernel
theorem dX7_takeRead_85 : decode cX7_takeRead 85 = .ok (.istore_n 1, 1) := by decide +kernel
theorem dX7_takeRead_86 : decode cX7_takeRead 86 = .ok (.iload_n 1, 1) := by decide +kernel
theorem dX7_takeRead_87 : decode cX7_takeRead 87 = .ok (.bipush 11, 2) := by decide +kernel
theorem dX7_takeRead_89 : decode cX7_takeRead 89 = .ok (.if_icmp .ge 16, 3) := by decide +kernel
theorem dX7_takeRead_92 : decode cX7_takeRead 92 = .ok (.aload_n 0, 1) := by decide +kernel
theorem dX7_takeRead_93 : decode cX7_takeRead 93 = .ok (.getfield 25, 3) := by decide +kernel
theorem dX7_takeRead_96 : decode cX7_takeRead 96 = .ok (.iload_n 1, 1) := by decide +kernel
theorem dX7_takeRead_97 : decode cX7_takeRead 97 = .ok (.iconst 0, 1) := by decide +kernel
theorem dX7_takeRead_98 : decode cX7_takeRead 98 = .ok (.iastore, 1) := by decide +kernel
theorem dX7_takeRead_99 : decode cX7_takeRead 99 = .ok (.iinc 1 1, 3) := by decide +kernel
theorem dX7_takeRead_102 : decode cX7_takeRead 102 = .ok (.goto (-16), 3) := by decide +kernel
theorem dX7_takeRead_105 : decode cX7_takeRead 105 = .ok (.aload_n 0, 1) := by decide +kernel
theorem dX7_takeRead_106 : decode cX7_takeRead 106 = .ok (.iconst 0, 1) := by decide +kernel
theorem dX7_takeRead_107 : decode cX7_takeRead 107 = .ok (.putfield 73, 3) := by decide +kernel
theorem dX7_takeRead_110 : decode cX7_takeRead 110 = .ok (.return_, 1) := by decide +kernel
theorem dX7_isFigure_0 : decode cX7_isFigure 0 = .ok (.aload_n 0, 1) := by decide +kernel
theorem dX7_isFigure_1 : decode cX7_isFigure 1 = .ok (.getfield 76, 3) := by decide +kernel
theorem dX7_isFigure_4 : decode cX7_isFigure 4 = .ok (.aload_n 0, 1) := by decide +kernel
theorem dX7_isFigure_5 : decode cX7_isFigure 5 = .ok (.getfield 79, 3) := by decide +kernel
theorem dX7_isFigure_8 : decode cX7_isFigure 8 = .ok (.if_icmp .ge 26, 3) := by decide +kernel
theorem dX7_isFigure_11 : decode cX7_isFigure 11 = .ok (.aload_n 0, 1) := by decide +kernel
theorem dX7_isFigure_12 : decode cX7_isFigure 12 = .ok (.getfield 7, 3) := by decide +kernel
theorem dX7_isFigure_15 : decode cX7_isFigure 15 = .ok (.aload_n 0, 1) := by decide +kernel
theorem dX7_isFigure_16 : decode cX7_isFigure 16 = .ok (.getfield 76, 3) := by decide +kernel
theorem dX7_isFigure_19 : decode cX7_isFigure 19 = .ok (.iaload, 1) := by decide +kernel
theorem dX7_isFigure_20 : decode cX7_isFigure 20 = .ok (.bipush 48, 2) := by decide +kernel
theorem dX7_isFigure_22 : decode cX7_isFigure 22 = .ok (.bipush 57, 2) := by decide +kernel
theorem dX7_isFigure_24 : decode cX7_isFigure 24 = .ok (.invokestatic 82, 3) := by decide +kernel
theorem dX7_isFigure_27 : decode cX7_isFigure 27 = .ok (.ifCond .eq 7, 3) := by decide +kernel
theorem dX7_isFigure_30 : decode cX7_isFigure 30 = .ok (.iconst 1, 1) := by decide +kernel
theorem dX7_isFigure_31 : decode cX7_isFigure 31 = .ok (.goto 4, 3) := by decide +kernel
theorem dX7_isFigure_34 : decode cX7_isFigure 34 = .ok (.iconst 0, 1) := by decide +kernel
theorem dX7_isFigure_35 : decode cX7_isFigure 35 = .ok (.ireturn, 1) := by decide +kernel
theorem dX7_readNumbers_0 : decode cX7_readNumbers 0 = .ok (.iconst 0, 1) := by decide +kernel
theorem dX7_readNumbers_1 : decode cX7_readNumbers 1 = .ok (.istore_n 2, 1) := by decide +kernel
theorem dX7_readNumbers_2 : decode cX7_readNumbers 2 = .ok (.iload_n 2, 1) := by decide +kernel
theorem dX7_readNumbers_3 : decode cX7_readNumbers 3 = .ok (.iload_n 1, 1) := by decide +kernel
theorem dX7_readNumbers_4 : decode cX7_readNumbers 4 = .ok (.if_icmp .ge 132, 3) := by decide +kernel
theorem dX7_readNumbers_7 : decode cX7_readNumbers 7 = .ok (.aload_n 0, 1) := by decide +kernel
theorem dX7_readNumbers_8 : decode cX7_readNumbers 8 = .ok (.invokevirtual 86, 3) := by decide +kernel
theorem dX7_readNumbers_11 : decode cX7_readNumbers 11 = .ok (.ifCond .ne 5, 3) := by decide +kernel
theorem dX7_readNumbers_14 : decode cX7_readNumbers 14 = .ok (.iconst 0, 1) := by decide +kernel
theorem dX7_readNumbers_15 : decode cX7_readNumbers 15 = .ok (.ireturn, 1) := by decide +kernel
theorem dX7_readNumbers_16 : decode cX7_readNumbers 16 = .ok (.aload_n 0, 1) := by decide +kernel
theorem dX7_readNumbers_17 : decode cX7_readNumbers 17 = .ok (.getfield 7, 3) := by decide +kernel
theorem dX7_readNumbers_20 : decode cX7_readNumbers 20 = .ok (.aload_n 0, 1) := by decide +kernel
theorem dX7_readNumbers_21 : decode cX7_readNumbers 21 = .ok (.getfield 76, 3) := by decide +kernel
theorem dX7_readNumbers_24 : decode cX7_readNumbers 24 = .ok (.iaload, 1) := by decide +kernel
theorem dX7_readNumbers_25 : decode cX7_readNumbers 25 = .ok (.bipush 48, 2) := by decide +kernel
theorem dX7_readNumbers_27 : decode cX7_readNumbers 27 = .ok (.isub, 1) := by decide +kernel
theorem dX7_readNumbers_28 : decode cX7_readNumbers 28 = .ok (.istore_n 3, 1) := by decide +kernel
theorem dX7_readNumbers_29 : decode cX7_readNumbers 29 = .ok (.aload_n 0, 1) := by decide +kernel
theorem dX7_readNumbers_30 : decode cX7_readNumbers 30 = .ok (.dup, 1) := by decide +kernel
theorem dX7_readNumbers_31 : decode cX7_readNumbers 31 = .ok (.getfield 76, 3) := by decide +kernel
theorem dX7_readNumbers_34 : decode cX7_readNumbers 34 = .ok (.iconst 1, 1) := by decide +kernel
theorem dX7_readNumbers_35 : decode cX7_readNumbers 35 = .ok (.iadd, 1) := by decide +kernel
theorem dX7_readNumbers_36 : decode cX7_readNumbers 36 = .ok (.putfield 76, 3) := by decide +kernel
theorem dX7_readNumbers_39 : decode cX7_readNumbers 39 = .ok (.aload_n 0, 1) := by decide +kernel
theorem dX7_readNumbers_40 : decode cX7_readNumbers 40 = .ok (.invokevirtual 86, 3) := by decide +kernel
theorem dX7_readNumbers_43 : decode cX7_readNumbers 43 = .ok (.ifCond .eq 31, 3) := by decide +kernel
theorem dX7_readNumbers_46 : decode cX7_readNumbers 46 = .ok (.bipush 10, 2) := by decide +kernel
theorem dX7_readNumbers_48 : decode cX7_readNumbers 48 = .ok (.iload_n 3, 1) := by decide +kernel
theorem dX7_readNumbers_49 : decode cX7_readNumbers 49 = .ok (.imul, 1) := by decide +kernel
theorem dX7_readNumbers_50 : decode cX7_readNumbers 50 = .ok (.aload_n 0, 1) := by decide +kernel
theorem dX7_readNumbers_51 : decode cX7_readNumbers 51 = .ok (.getfield 7, 3) := by decide +kernel
theorem dX7_readNumbers_54 : decode cX7_readNumbers 54 = .ok (.aload_n 0, 1) := by decide +kernel
theorem dX7_readNumbers_55 : decode cX7_readNumbers 55 = .ok (.getfield 76, 3) := by decide +kernel
theorem dX7_readNumbers_58 : decode cX7_readNumbers 58 = .ok (.iaload, 1) := by decide +kernel
theorem dX7_readNumbers_59 : decode cX7_readNumbers 59 = .ok (.iadd, 1) := by decide +kernel
