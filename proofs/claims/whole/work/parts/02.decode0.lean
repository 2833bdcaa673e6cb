theorem dX0_init_0 : decode cX0_init 0 = .ok (.aload_n 0, 1) := by decide +kernel
theorem dX0_init_1 : decode cX0_init 1 = .ok (.invokespecial 3, 3) := by decide +kernel
theorem dX0_init_4 : decode cX0_init 4 = .ok (.aload_n 0, 1) := by decide +kernel
theorem dX0_init_5 : decode cX0_init 5 = .ok (.bipush 10, 2) := by decide +kernel
theorem dX0_init_7 : decode cX0_init 7 = .ok (.anewarray 9, 3) := by decide +kernel
theorem dX0_init_10 : decode cX0_init 10 = .ok (.putfield 11, 3) := by decide +kernel
theorem dX0_init_13 : decode cX0_init 13 = .ok (.aload_n 0, 1) := by decide +kernel
theorem dX0_init_14 : decode cX0_init 14 = .ok (.iconst 4, 1) := by decide +kernel
theorem dX0_init_15 : decode cX0_init 15 = .ok (.anewarray 17, 3) := by decide +kernel
theorem dX0_init_18 : decode cX0_init 18 = .ok (.putfield 19, 3) := by decide +kernel
theorem dX0_init_21 : decode cX0_init 21 = .ok (.iconst 0, 1) := by decide +kernel
theorem dX0_init_22 : decode cX0_init 22 = .ok (.istore_n 1, 1) := by decide +kernel
theorem dX0_init_23 : decode cX0_init 23 = .ok (.iload_n 1, 1) := by decide +kernel
theorem dX0_init_24 : decode cX0_init 24 = .ok (.bipush 10, 2) := by decide +kernel
theorem dX0_init_26 : decode cX0_init 26 = .ok (.if_icmp .ge 22, 3) := by decide +kernel
theorem dX0_init_29 : decode cX0_init 29 = .ok (.aload_n 0, 1) := by decide +kernel
theorem dX0_init_30 : decode cX0_init 30 = .ok (.getfield 11, 3) := by decide +kernel
theorem dX0_init_33 : decode cX0_init 33 = .ok (.iload_n 1, 1) := by decide +kernel
theorem dX0_init_34 : decode cX0_init 34 = .ok (.new 9, 3) := by decide +kernel
theorem dX0_init_37 : decode cX0_init 37 = .ok (.dup, 1) := by decide +kernel
theorem dX0_init_38 : decode cX0_init 38 = .ok (.invokespecial 23, 3) := by decide +kernel
theorem dX0_init_41 : decode cX0_init 41 = .ok (.aastore, 1) := by decide +kernel
theorem dX0_init_42 : decode cX0_init 42 = .ok (.iinc 1 1, 3) := by decide +kernel
theorem dX0_init_45 : decode cX0_init 45 = .ok (.goto (-22), 3) := by decide +kernel
theorem dX0_init_48 : decode cX0_init 48 = .ok (.iconst 0, 1) := by decide +kernel
theorem dX0_init_49 : decode cX0_init 49 = .ok (.istore_n 1, 1) := by decide +kernel
theorem dX0_init_50 : decode cX0_init 50 = .ok (.iload_n 1, 1) := by decide +kernel
theorem dX0_init_51 : decode cX0_init 51 = .ok (.iconst 4, 1) := by decide +kernel
theorem dX0_init_52 : decode cX0_init 52 = .ok (.if_icmp .ge 22, 3) := by decide +kernel
theorem dX0_init_55 : decode cX0_init 55 = .ok (.aload_n 0, 1) := by decide +kernel
theorem dX0_init_56 : decode cX0_init 56 = .ok (.getfield 19, 3) := by decide +kernel
theorem dX0_init_59 : decode cX0_init 59 = .ok (.iload_n 1, 1) := by decide +kernel
theorem dX0_init_60 : decode cX0_init 60 = .ok (.new 17, 3) := by decide +kernel
theorem dX0_init_63 : decode cX0_init 63 = .ok (.dup, 1) := by decide +kernel
theorem dX0_init_64 : decode cX0_init 64 = .ok (.invokespecial 24, 3) := by decide +kernel
theorem dX0_init_67 : decode cX0_init 67 = .ok (.aastore, 1) := by decide +kernel
theorem dX0_init_68 : decode cX0_init 68 = .ok (.iinc 1 1, 3) := by decide +kernel
theorem dX0_init_71 : decode cX0_init 71 = .ok (.goto (-21), 3) := by decide +kernel
theorem dX0_init_74 : decode cX0_init 74 = .ok (.return_, 1) := by decide +kernel
theorem dX0_clear_0 : decode cX0_clear 0 = .ok (.aload_n 0, 1) := by decide +kernel
theorem dX0_clear_1 : decode cX0_clear 1 = .ok (.iconst 0, 1) := by decide +kernel
theorem dX0_clear_2 : decode cX0_clear 2 = .ok (.putfield 25, 3) := by decide +kernel
theorem dX0_clear_5 : decode cX0_clear 5 = .ok (.aload_n 0, 1) := by decide +kernel
theorem dX0_clear_6 : decode cX0_clear 6 = .ok (.iconst 0, 1) := by decide +kernel
theorem dX0_clear_7 : decode cX0_clear 7 = .ok (.putfield 29, 3) := by decide +kernel
theorem dX0_clear_10 : decode cX0_clear 10 = .ok (.aload_n 0, 1) := by decide +kernel
theorem dX0_clear_11 : decode cX0_clear 11 = .ok (.iconst 0, 1) := by decide +kernel
theorem dX0_clear_12 : decode cX0_clear 12 = .ok (.putfield 32, 3) := by decide +kernel
theorem dX0_clear_15 : decode cX0_clear 15 = .ok (.aload_n 0, 1) := by decide +kernel
theorem dX0_clear_16 : decode cX0_clear 16 = .ok (.bipush 51, 2) := by decide +kernel
theorem dX0_clear_18 : decode cX0_clear 18 = .ok (.putfield 35, 3) := by decide +kernel
theorem dX0_clear_21 : decode cX0_clear 21 = .ok (.return_, 1) := by decide +kernel
theorem dX0_isSpan_0 : decode cX0_isSpan 0 = .ok (.iload_n 0, 1) := by decide +kernel
theorem dX0_isSpan_1 : decode cX0_isSpan 1 = .ok (.ifCond .lt 18, 3) := by decide +kernel
theorem dX0_isSpan_4 : decode cX0_isSpan 4 = .ok (.iload_n 0, 1) := by decide +kernel
theorem dX0_isSpan_5 : decode cX0_isSpan 5 = .ok (.iload_n 1, 1) := by decide +kernel
theorem dX0_isSpan_6 : decode cX0_isSpan 6 = .ok (.if_icmp .gt 13, 3) := by decide +kernel
theorem dX0_isSpan_9 : decode cX0_isSpan 9 = .ok (.iload_n 1, 1) := by decide +kernel
theorem dX0_isSpan_10 : decode cX0_isSpan 10 = .ok (.bipush 51, 2) := by decide +kernel
theorem dX0_isSpan_12 : decode cX0_isSpan 12 = .ok (.if_icmp .gt 7, 3) := by decide +kernel
theorem dX0_isSpan_15 : decode cX0_isSpan 15 = .ok (.iconst 1, 1) := by decide +kernel
theorem dX0_isSpan_16 : decode cX0_isSpan 16 = .ok (.goto 4, 3) := by decide +kernel
theorem dX0_isSpan_19 : decode cX0_isSpan 19 = .ok (.iconst 0, 1) := by decide +kernel
theorem dX0_isSpan_20 : decode cX0_isSpan 20 = .ok (.ireturn, 1) := by decide +kernel
theorem dX0_setTerm_0 : decode cX0_setTerm 0 = .ok (.iload_n 1, 1) := by decide +kernel
theorem dX0_setTerm_1 : decode cX0_setTerm 1 = .ok (.iload_n 2, 1) := by decide +kernel
theorem dX0_setTerm_2 : decode cX0_setTerm 2 = .ok (.invokestatic 38, 3) := by decide +kernel
theorem dX0_setTerm_5 : decode cX0_setTerm 5 = .ok (.ifCond .ne 5, 3) := by decide +kernel
theorem dX0_setTerm_8 : decode cX0_setTerm 8 = .ok (.iconst 0, 1) := by decide +kernel
theorem dX0_setTerm_9 : decode cX0_setTerm 9 = .ok (.ireturn, 1) := by decide +kernel
theorem dX0_setTerm_10 : decode cX0_setTerm 10 = .ok (.aload_n 0, 1) := by decide +kernel
theorem dX0_setTerm_11 : decode cX0_setTerm 11 = .ok (.iload_n 1, 1) := by decide +kernel
theorem dX0_setTerm_12 : decode cX0_setTerm 12 = .ok (.putfield 32, 3) := by decide +kernel
theorem dX0_setTerm_15 : decode cX0_setTerm 15 = .ok (.aload_n 0, 1) := by decide +kernel
theorem dX0_setTerm_16 : decode cX0_setTerm 16 = .ok (.iload_n 2, 1) := by decide +kernel
theorem dX0_setTerm_17 : decode cX0_setTerm 17 = .ok (.putfield 35, 3) := by decide +kernel
theorem dX0_setTerm_20 : decode cX0_setTerm 20 = .ok (.iconst 1, 1) := by decide +kernel
theorem dX0_setTerm_21 : decode cX0_setTerm 21 = .ok (.ireturn, 1) := by decide +kernel
theorem dX0_addOffer_0 : decode cX0_addOffer 0 = .ok (.aload_n 0, 1) := by decide +kernel
theorem dX0_addOffer_1 : decode cX0_addOffer 1 = .ok (.getfield 25, 3) := by decide +kernel
theorem dX0_addOffer_4 : decode cX0_addOffer 4 = .ok (.bipush 10, 2) := by decide +kernel
theorem dX0_addOffer_6 : decode cX0_addOffer 6 = .ok (.if_icmp .ge 17, 3) := by decide +kernel
theorem dX0_addOffer_9 : decode cX0_addOffer 9 = .ok (.aload_n 1, 1) := by decide +kernel
theorem dX0_addOffer_10 : decode cX0_addOffer 10 = .ok (.arraylength, 1) := by decide +kernel
theorem dX0_addOffer_11 : decode cX0_addOffer 11 = .ok (.bipush 7, 2) := by decide +kernel
theorem dX0_addOffer_13 : decode cX0_addOffer 13 = .ok (.if_icmp .lt 10, 3) := by decide +kernel
theorem dX0_addOffer_16 : decode cX0_addOffer 16 = .ok (.aload_n 1, 1) := by decide +kernel
theorem dX0_addOffer_17 : decode cX0_addOffer 17 = .ok (.invokestatic 42, 3) := by decide +kernel
theorem dX0_addOffer_20 : decode cX0_addOffer 20 = .ok (.ifCond .ne 5, 3) := by decide +kernel
theorem dX0_addOffer_23 : decode cX0_addOffer 23 = .ok (.iconst 0, 1) := by decide +kernel
theorem dX0_addOffer_24 : decode cX0_addOffer 24 = .ok (.ireturn, 1) := by decide +kernel
theorem dX0_addOffer_25 : decode cX0_addOffer 25 = .ok (.aload_n 0, 1) := by decide +kernel
theorem dX0_addOffer_26 : decode cX0_addOffer 26 = .ok (.getfield 11, 3) := by decide +kernel
theorem dX0_addOffer_29 : decode cX0_addOffer 29 = .ok (.aload_n 0, 1) := by decide +kernel
theorem dX0_addOffer_30 : decode cX0_addOffer 30 = .ok (.getfield 25, 3) := by decide +kernel
theorem dX0_addOffer_33 : decode cX0_addOffer 33 = .ok (.aaload, 1) := by decide +kernel
theorem dX0_addOffer_34 : decode cX0_addOffer 34 = .ok (.astore_n 2, 1) := by decide +kernel
theorem dX0_addOffer_35 : decode cX0_addOffer 35 = .ok (.aload_n 2, 1) := by decide +kernel
theorem dX0_addOffer_36 : decode cX0_addOffer 36 = .ok (.aload_n 1, 1) := by decide +kernel
theorem dX0_addOffer_37 : decode cX0_addOffer 37 = .ok (.iconst 0, 1) := by decide +kernel
theorem dX0_addOffer_38 : decode cX0_addOffer 38 = .ok (.iaload, 1) := by decide +kernel
theorem dX0_addOffer_39 : decode cX0_addOffer 39 = .ok (.putfield 46, 3) := by decide +kernel
theorem dX0_addOffer_42 : decode cX0_addOffer 42 = .ok (.aload_n 2, 1) := by decide +kernel
theorem dX0_addOffer_43 : decode cX0_addOffer 43 = .ok (.aload_n 1, 1) := by decide +kernel
theorem dX0_addOffer_44 : decode cX0_addOffer 44 = .ok (.iconst 1, 1) := by decide +kernel
theorem dX0_addOffer_45 : decode cX0_addOffer 45 = .ok (.iaload, 1) := by decide +kernel
theorem dX0_addOffer_46 : decode cX0_addOffer 46 = .ok (.putfield 49, 3) := by decide +kernel
theorem dX0_addOffer_49 : decode cX0_addOffer 49 = .ok (.aload_n 2, 1) := by decide +kernel
theorem dX0_addOffer_50 : decode cX0_addOffer 50 = .ok (.aload_n 1, 1) := by decide +kernel
theorem dX0_addOffer_51 : decode cX0_addOffer 51 = .ok (.iconst 2, 1) := by decide +kernel
theorem dX0_addOffer_52 : decode cX0_addOffer 52 = .ok (.iaload, 1) := by decide +kernel
theorem dX0_addOffer_53 : decode cX0_addOffer 53 = .ok (.putfield 52, 3) := by decide +kernel
theorem dX0_addOffer_56 : decode cX0_addOffer 56 = .ok (.aload_n 2, 1) := by decide +kernel
theorem dX0_addOffer_57 : decode cX0_addOffer 57 = .ok (.aload_n 1, 1) := by decide +kernel
theorem dX0_addOffer_58 : decode cX0_addOffer 58 = .ok (.iconst 3, 1) := by decide +kernel
theorem dX0_addOffer_59 : decode cX0_addOffer 59 = .ok (.iaload, 1) := by decide +kernel
theorem dX0_addOffer_60 : decode cX0_addOffer 60 = .ok (.putfield 55, 3) := by decide +kernel
theorem dX0_addOffer_63 : decode cX0_addOffer 63 = .ok (.aload_n 2, 1) := by decide +kernel
theorem dX0_addOffer_64 : decode cX0_addOffer 64 = .ok (.aload_n 1, 1) := by decide +kernel
theorem dX0_addOffer_65 : decode cX0_addOffer 65 = .ok (.iconst 4, 1) := by decide +kernel
theorem dX0_addOffer_66 : decode cX0_addOffer 66 = .ok (.iaload, 1) := by decide +kernel
theorem dX0_addOffer_67 : decode cX0_addOffer 67 = .ok (.putfield 58, 3) := by decide +kernel
theorem dX0_addOffer_70 : decode cX0_addOffer 70 = .ok (.aload_n 2, 1) := by decide +kernel
theorem dX0_addOffer_71 : decode cX0_addOffer 71 = .ok (.aload_n 1, 1) := by decide +kernel
theorem dX0_addOffer_72 : decode cX0_addOffer 72 = .ok (.iconst 5, 1) := by decide +kernel
theorem dX0_addOffer_73 : decode cX0_addOffer 73 = .ok (.iaload, 1) := by decide +kernel
theorem dX0_addOffer_74 : decode cX0_addOffer 74 = .ok (.iconst 1, 1) := by decide +kernel
theorem dX0_addOffer_75 : decode cX0_addOffer 75 = .ok (.if_icmp .ne 7, 3) := by decide +kernel
theorem dX0_addOffer_78 : decode cX0_addOffer 78 = .ok (.iconst 1, 1) := by decide +kernel
theorem dX0_addOffer_79 : decode cX0_addOffer 79 = .ok (.goto 4, 3) := by decide +kernel
theorem dX0_addOffer_82 : decode cX0_addOffer 82 = .ok (.iconst 0, 1) := by decide +kernel
theorem dX0_addOffer_83 : decode cX0_addOffer 83 = .ok (.putfield 61, 3) := by decide +kernel
theorem dX0_addOffer_86 : decode cX0_addOffer 86 = .ok (.aload_n 2, 1) := by decide +kernel
theorem dX0_addOffer_87 : decode cX0_addOffer 87 = .ok (.aload_n 1, 1) := by decide +kernel
theorem dX0_addOffer_88 : decode cX0_addOffer 88 = .ok (.bipush 6, 2) := by decide +kernel
theorem dX0_addOffer_90 : decode cX0_addOffer 90 = .ok (.iaload, 1) := by decide +kernel
theorem dX0_addOffer_91 : decode cX0_addOffer 91 = .ok (.putfield 65, 3) := by decide +kernel
theorem dX0_addOffer_94 : decode cX0_addOffer 94 = .ok (.aload_n 2, 1) := by decide +kernel
theorem dX0_addOffer_95 : decode cX0_addOffer 95 = .ok (.iconst 0, 1) := by decide +kernel
theorem dX0_addOffer_96 : decode cX0_addOffer 96 = .ok (.putfield 68, 3) := by decide +kernel
theorem dX0_addOffer_99 : decode cX0_addOffer 99 = .ok (.aload_n 0, 1) := by decide +kernel
theorem dX0_addOffer_100 : decode cX0_addOffer 100 = .ok (.dup, 1) := by decide +kernel
theorem dX0_addOffer_101 : decode cX0_addOffer 101 = .ok (.getfield 25, 3) := by decide +kernel
theorem dX0_addOffer_104 : decode cX0_addOffer 104 = .ok (.iconst 1, 1) := by decide +kernel
theorem dX0_addOffer_105 : decode cX0_addOffer 105 = .ok (.iadd, 1) := by decide +kernel
theorem dX0_addOffer_106 : decode cX0_addOffer 106 = .ok (.putfield 25, 3) := by decide +kernel
theorem dX0_addOffer_109 : decode cX0_addOffer 109 = .ok (.iconst 1, 1) := by decide +kernel
theorem dX0_addOffer_110 : decode cX0_addOffer 110 = .ok (.ireturn, 1) := by decide +kernel
theorem dX0_isOfferTold_0 : decode cX0_isOfferTold 0 = .ok (.aload_n 0, 1) := by decide +kernel
theorem dX0_isOfferTold_1 : decode cX0_isOfferTold 1 = .ok (.iconst 0, 1) := by decide +kernel
theorem dX0_isOfferTold_2 : decode cX0_isOfferTold 2 = .ok (.iaload, 1) := by decide +kernel
theorem dX0_isOfferTold_3 : decode cX0_isOfferTold 3 = .ok (.bipush 6, 2) := by decide +kernel
theorem dX0_isOfferTold_5 : decode cX0_isOfferTold 5 = .ok (.invokestatic 71, 3) := by decide +kernel
theorem dX0_isOfferTold_8 : decode cX0_isOfferTold 8 = .ok (.ifCond .eq 66, 3) := by decide +kernel
theorem dX0_isOfferTold_11 : decode cX0_isOfferTold 11 = .ok (.aload_n 0, 1) := by decide +kernel
theorem dX0_isOfferTold_12 : decode cX0_isOfferTold 12 = .ok (.iconst 1, 1) := by decide +kernel
theorem dX0_isOfferTold_13 : decode cX0_isOfferTold 13 = .ok (.iaload, 1) := by decide +kernel
theorem dX0_isOfferTold_14 : decode cX0_isOfferTold 14 = .ok (.iconst 4, 1) := by decide +kernel
theorem dX0_isOfferTold_15 : decode cX0_isOfferTold 15 = .ok (.invokestatic 71, 3) := by decide +kernel
theorem dX0_isOfferTold_18 : decode cX0_isOfferTold 18 = .ok (.ifCond .eq 56, 3) := by decide +kernel
theorem dX0_isOfferTold_21 : decode cX0_isOfferTold 21 = .ok (.aload_n 0, 1) := by decide +kernel
theorem dX0_isOfferTold_22 : decode cX0_isOfferTold 22 = .ok (.iconst 2, 1) := by decide +kernel
theorem dX0_isOfferTold_23 : decode cX0_isOfferTold 23 = .ok (.iaload, 1) := by decide +kernel
theorem dX0_isOfferTold_24 : decode cX0_isOfferTold 24 = .ok (.iconst 4, 1) := by decide +kernel
theorem dX0_isOfferTold_25 : decode cX0_isOfferTold 25 = .ok (.invokestatic 71, 3) := by decide +kernel
theorem dX0_isOfferTold_28 : decode cX0_isOfferTold 28 = .ok (.ifCond .eq 46, 3) := by decide +kernel
theorem dX0_isOfferTold_31 : decode cX0_isOfferTold 31 = .ok (.aload_n 0, 1) := by decide +kernel
theorem dX0_isOfferTold_32 : decode cX0_isOfferTold 32 = .ok (.iconst 3, 1) := by decide +kernel
theorem dX0_isOfferTold_33 : decode cX0_isOfferTold 33 = .ok (.iaload, 1) := by decide +kernel
theorem dX0_isOfferTold_34 : decode cX0_isOfferTold 34 = .ok (.aload_n 0, 1) := by decide +kernel
theorem dX0_isOfferTold_35 : decode cX0_isOfferTold 35 = .ok (.iconst 4, 1) := by decide +kernel
theorem dX0_isOfferTold_36 : decode cX0_isOfferTold 36 = .ok (.iaload, 1) := by decide +kernel
theorem dX0_isOfferTold_37 : decode cX0_isOfferTold 37 = .ok (.invokestatic 38, 3) := by decide +kernel
theorem dX0_isOfferTold_40 : decode cX0_isOfferTold 40 = .ok (.ifCond .eq 34, 3) := by decide +kernel
theorem dX0_isOfferTold_43 : decode cX0_isOfferTold 43 = .ok (.aload_n 0, 1) := by decide +kernel
theorem dX0_isOfferTold_44 : decode cX0_isOfferTold 44 = .ok (.iconst 5, 1) := by decide +kernel
theorem dX0_isOfferTold_45 : decode cX0_isOfferTold 45 = .ok (.iaload, 1) := by decide +kernel
theorem dX0_isOfferTold_46 : decode cX0_isOfferTold 46 = .ok (.iconst 2, 1) := by decide +kernel
theorem dX0_isOfferTold_47 : decode cX0_isOfferTold 47 = .ok (.invokestatic 74, 3) := by decide +kernel
theorem dX0_isOfferTold_50 : decode cX0_isOfferTold 50 = .ok (.ifCond .eq 24, 3) := by decide +kernel
theorem dX0_isOfferTold_53 : decode cX0_isOfferTold 53 = .ok (.aload_n 0, 1) := by decide +kernel
theorem dX0_isOfferTold_54 : decode cX0_isOfferTold 54 = .ok (.bipush 6, 2) := by decide +kernel
theorem dX0_isOfferTold_56 : decode cX0_isOfferTold 56 = .ok (.iaload, 1) := by decide +kernel
theorem dX0_isOfferTold_57 : decode cX0_isOfferTold 57 = .ok (.iconst 1, 1) := by decide +kernel
theorem dX0_isOfferTold_58 : decode cX0_isOfferTold 58 = .ok (.if_icmp .lt 16, 3) := by decide +kernel
theorem dX0_isOfferTold_61 : decode cX0_isOfferTold 61 = .ok (.aload_n 0, 1) := by decide +kernel
theorem dX0_isOfferTold_62 : decode cX0_isOfferTold 62 = .ok (.bipush 6, 2) := by decide +kernel
theorem dX0_isOfferTold_64 : decode cX0_isOfferTold 64 = .ok (.iaload, 1) := by decide +kernel
theorem dX0_isOfferTold_65 : decode cX0_isOfferTold 65 = .ok (.bipush 99, 2) := by decide +kernel
theorem dX0_isOfferTold_67 : decode cX0_isOfferTold 67 = .ok (.if_icmp .gt 7, 3) := by decide +kernel
theorem dX0_isOfferTold_70 : decode cX0_isOfferTold 70 = .ok (.iconst 1, 1) := by decide +kernel
theorem dX0_isOfferTold_71 : decode cX0_isOfferTold 71 = .ok (.goto 4, 3) := by decide +kernel
theorem dX0_isOfferTold_74 : decode cX0_isOfferTold 74 = .ok (.iconst 0, 1) := by decide +kernel
theorem dX0_isOfferTold_75 : decode cX0_isOfferTold 75 = .ok (.ireturn, 1) := by decide +kernel
theorem dX0_addHold_0 : decode cX0_addHold 0 = .ok (.aload_n 0, 1) := by decide +kernel
theorem dX0_addHold_1 : decode cX0_addHold 1 = .ok (.getfield 29, 3) := by decide +kernel
theorem dX0_addHold_4 : decode cX0_addHold 4 = .ok (.iconst 4, 1) := by decide +kernel
theorem dX0_addHold_5 : decode cX0_addHold 5 = .ok (.if_icmp .ge 8, 3) := by decide +kernel
theorem dX0_addHold_8 : decode cX0_addHold 8 = .ok (.iload_n 1, 1) := by decide +kernel
theorem dX0_addHold_9 : decode cX0_addHold 9 = .ok (.iload_n 2, 1) := by decide +kernel
theorem dX0_addHold_10 : decode cX0_addHold 10 = .ok (.if_icmp .ne 5, 3) := by decide +kernel
theorem dX0_addHold_13 : decode cX0_addHold 13 = .ok (.iconst 0, 1) := by decide +kernel
theorem dX0_addHold_14 : decode cX0_addHold 14 = .ok (.ireturn, 1) := by decide +kernel
theorem dX0_addHold_15 : decode cX0_addHold 15 = .ok (.iload_n 1, 1) := by decide +kernel
theorem dX0_addHold_16 : decode cX0_addHold 16 = .ok (.iconst 4, 1) := by decide +kernel
theorem dX0_addHold_17 : decode cX0_addHold 17 = .ok (.invokestatic 74, 3) := by decide +kernel
theorem dX0_addHold_20 : decode cX0_addHold 20 = .ok (.ifCond .eq 22, 3) := by decide +kernel
theorem dX0_addHold_23 : decode cX0_addHold 23 = .ok (.iload_n 2, 1) := by decide +kernel
theorem dX0_addHold_24 : decode cX0_addHold 24 = .ok (.iconst 4, 1) := by decide +kernel
theorem dX0_addHold_25 : decode cX0_addHold 25 = .ok (.invokestatic 74, 3) := by decide +kernel
theorem dX0_addHold_28 : decode cX0_addHold 28 = .ok (.ifCond .eq 14, 3) := by decide +kernel
theorem dX0_addHold_31 : decode cX0_addHold 31 = .ok (.iload_n 3, 1) := by decide +kernel
theorem dX0_addHold_32 : decode cX0_addHold 32 = .ok (.iconst 1, 1) := by decide +kernel
theorem dX0_addHold_33 : decode cX0_addHold 33 = .ok (.if_icmp .lt 9, 3) := by decide +kernel
theorem dX0_addHold_36 : decode cX0_addHold 36 = .ok (.iload_n 3, 1) := by decide +kernel
theorem dX0_addHold_37 : decode cX0_addHold 37 = .ok (.bipush 51, 2) := by decide +kernel
theorem dX0_addHold_39 : decode cX0_addHold 39 = .ok (.if_icmp .le 5, 3) := by decide +kernel
theorem dX0_addHold_42 : decode cX0_addHold 42 = .ok (.iconst 0, 1) := by decide +kernel
theorem dX0_addHold_43 : decode cX0_addHold 43 = .ok (.ireturn, 1) := by decide +kernel
theorem dX0_addHold_44 : decode cX0_addHold 44 = .ok (.aload_n 0, 1) := by decide +kernel
theorem dX0_addHold_45 : decode cX0_addHold 45 = .ok (.getfield 19, 3) := by decide +kernel
theorem dX0_addHold_48 : decode cX0_addHold 48 = .ok (.aload_n 0, 1) := by decide +kernel
theorem dX0_addHold_49 : decode cX0_addHold 49 = .ok (.getfield 29, 3) := by decide +kernel
theorem dX0_addHold_52 : decode cX0_addHold 52 = .ok (.aaload, 1) := by decide +kernel
theorem dX0_addHold_53 : decode cX0_addHold 53 = .ok (.astore 4, 2) := by decide +kernel
theorem dX0_addHold_55 : decode cX0_addHold 55 = .ok (.aload 4, 2) := by decide +kernel
theorem dX0_addHold_57 : decode cX0_addHold 57 = .ok (.iload_n 1, 1) := by decide +kernel
theorem dX0_addHold_58 : decode cX0_addHold 58 = .ok (.putfield 77, 3) := by decide +kernel
theorem dX0_addHold_61 : decode cX0_addHold 61 = .ok (.aload 4, 2) := by decide +kernel
theorem dX0_addHold_63 : decode cX0_addHold 63 = .ok (.iload_n 2, 1) := by decide +kernel
theorem dX0_addHold_64 : decode cX0_addHold 64 = .ok (.putfield 80, 3) := by decide +kernel
theorem dX0_addHold_67 : decode cX0_addHold 67 = .ok (.aload 4, 2) := by decide +kernel
theorem dX0_addHold_69 : decode cX0_addHold 69 = .ok (.iload_n 3, 1) := by decide +kernel
theorem dX0_addHold_70 : decode cX0_addHold 70 = .ok (.putfield 83, 3) := by decide +kernel
theorem dX0_addHold_73 : decode cX0_addHold 73 = .ok (.aload_n 0, 1) := by decide +kernel
theorem dX0_addHold_74 : decode cX0_addHold 74 = .ok (.dup, 1) := by decide +kernel
theorem dX0_addHold_75 : decode cX0_addHold 75 = .ok (.getfield 29, 3) := by decide +kernel
theorem dX0_addHold_78 : decode cX0_addHold 78 = .ok (.iconst 1, 1) := by decide +kernel
theorem dX0_addHold_79 : decode cX0_addHold 79 = .ok (.iadd, 1) := by decide +kernel
theorem dX0_addHold_80 : decode cX0_addHold 80 = .ok (.putfield 29, 3) := by decide +kernel
theorem dX0_addHold_83 : decode cX0_addHold 83 = .ok (.iconst 1, 1) := by decide +kernel
theorem dX0_addHold_84 : decode cX0_addHold 84 = .ok (.ireturn, 1) := by decide +kernel
theorem dX0_isWithinTerm_0 : decode cX0_isWithinTerm 0 = .ok (.aload_n 0, 1) := by decide +kernel
theorem dX0_isWithinTerm_1 : decode cX0_isWithinTerm 1 = .ok (.getfield 11, 3) := by decide +kernel
theorem dX0_isWithinTerm_4 : decode cX0_isWithinTerm 4 = .ok (.iload_n 1, 1) := by decide +kernel
theorem dX0_isWithinTerm_5 : decode cX0_isWithinTerm 5 = .ok (.aaload, 1) := by decide +kernel
theorem dX0_isWithinTerm_6 : decode cX0_isWithinTerm 6 = .ok (.invokevirtual 86, 3) := by decide +kernel
theorem dX0_isWithinTerm_9 : decode cX0_isWithinTerm 9 = .ok (.aload_n 0, 1) := by decide +kernel
theorem dX0_isWithinTerm_10 : decode cX0_isWithinTerm 10 = .ok (.getfield 32, 3) := by decide +kernel
theorem dX0_isWithinTerm_13 : decode cX0_isWithinTerm 13 = .ok (.if_icmp .lt 23, 3) := by decide +kernel
theorem dX0_isWithinTerm_16 : decode cX0_isWithinTerm 16 = .ok (.aload_n 0, 1) := by decide +kernel
theorem dX0_isWithinTerm_17 : decode cX0_isWithinTerm 17 = .ok (.getfield 11, 3) := by decide +kernel
theorem dX0_isWithinTerm_20 : decode cX0_isWithinTerm 20 = .ok (.iload_n 1, 1) := by decide +kernel
theorem dX0_isWithinTerm_21 : decode cX0_isWithinTerm 21 = .ok (.aaload, 1) := by decide +kernel
theorem dX0_isWithinTerm_22 : decode cX0_isWithinTerm 22 = .ok (.invokevirtual 90, 3) := by decide +kernel
theorem dX0_isWithinTerm_25 : decode cX0_isWithinTerm 25 = .ok (.aload_n 0, 1) := by decide +kernel
theorem dX0_isWithinTerm_26 : decode cX0_isWithinTerm 26 = .ok (.getfield 35, 3) := by decide +kernel
theorem dX0_isWithinTerm_29 : decode cX0_isWithinTerm 29 = .ok (.if_icmp .gt 7, 3) := by decide +kernel
theorem dX0_isWithinTerm_32 : decode cX0_isWithinTerm 32 = .ok (.iconst 1, 1) := by decide +kernel
theorem dX0_isWithinTerm_33 : decode cX0_isWithinTerm 33 = .ok (.goto 4, 3) := by decide +kernel
theorem dX0_isWithinTerm_36 : decode cX0_isWithinTerm 36 = .ok (.iconst 0, 1) := by decide +kernel
theorem dX0_isWithinTerm_37 : decode cX0_isWithinTerm 37 = .ok (.ireturn, 1) := by decide +kernel
theorem dX0_lowestClash_0 : decode cX0_lowestClash 0 = .ok (.iconst 0, 1) := by decide +kernel
theorem dX0_lowestClash_1 : decode cX0_lowestClash 1 = .ok (.istore_n 3, 1) := by decide +kernel
theorem dX0_lowestClash_2 : decode cX0_lowestClash 2 = .ok (.iload_n 3, 1) := by decide +kernel
theorem dX0_lowestClash_3 : decode cX0_lowestClash 3 = .ok (.aload_n 0, 1) := by decide +kernel
theorem dX0_lowestClash_4 : decode cX0_lowestClash 4 = .ok (.getfield 25, 3) := by decide +kernel
theorem dX0_lowestClash_7 : decode cX0_lowestClash 7 = .ok (.if_icmp .ge 42, 3) := by decide +kernel
theorem dX0_lowestClash_10 : decode cX0_lowestClash 10 = .ok (.iload_n 3, 1) := by decide +kernel
theorem dX0_lowestClash_11 : decode cX0_lowestClash 11 = .ok (.iload_n 1, 1) := by decide +kernel
theorem dX0_lowestClash_12 : decode cX0_lowestClash 12 = .ok (.if_icmp .eq 31, 3) := by decide +kernel
theorem dX0_lowestClash_15 : decode cX0_lowestClash 15 = .ok (.iload_n 2, 1) := by decide +kernel
theorem dX0_lowestClash_16 : decode cX0_lowestClash 16 = .ok (.iload_n 3, 1) := by decide +kernel
theorem dX0_lowestClash_17 : decode cX0_lowestClash 17 = .ok (.invokestatic 93, 3) := by decide +kernel
theorem dX0_lowestClash_20 : decode cX0_lowestClash 20 = .ok (.ifCond .eq 23, 3) := by decide +kernel
theorem dX0_lowestClash_23 : decode cX0_lowestClash 23 = .ok (.aload_n 0, 1) := by decide +kernel
theorem dX0_lowestClash_24 : decode cX0_lowestClash 24 = .ok (.getfield 11, 3) := by decide +kernel
theorem dX0_lowestClash_27 : decode cX0_lowestClash 27 = .ok (.iload_n 1, 1) := by decide +kernel
theorem dX0_lowestClash_28 : decode cX0_lowestClash 28 = .ok (.aaload, 1) := by decide +kernel
theorem dX0_lowestClash_29 : decode cX0_lowestClash 29 = .ok (.aload_n 0, 1) := by decide +kernel
theorem dX0_lowestClash_30 : decode cX0_lowestClash 30 = .ok (.getfield 11, 3) := by decide +kernel
theorem dX0_lowestClash_33 : decode cX0_lowestClash 33 = .ok (.iload_n 3, 1) := by decide +kernel
theorem dX0_lowestClash_34 : decode cX0_lowestClash 34 = .ok (.aaload, 1) := by decide +kernel
theorem dX0_lowestClash_35 : decode cX0_lowestClash 35 = .ok (.invokevirtual 96, 3) := by decide +kernel
theorem dX0_lowestClash_38 : decode cX0_lowestClash 38 = .ok (.ifCond .eq 5, 3) := by decide +kernel
theorem dX0_lowestClash_41 : decode cX0_lowestClash 41 = .ok (.iload_n 3, 1) := by decide +kernel
theorem dX0_lowestClash_42 : decode cX0_lowestClash 42 = .ok (.ireturn, 1) := by decide +kernel
theorem dX0_lowestClash_43 : decode cX0_lowestClash 43 = .ok (.iinc 3 1, 3) := by decide +kernel
theorem dX0_lowestClash_46 : decode cX0_lowestClash 46 = .ok (.goto (-44), 3) := by decide +kernel
theorem dX0_lowestClash_49 : decode cX0_lowestClash 49 = .ok (.bipush (-4), 2) := by decide +kernel
theorem dX0_lowestClash_51 : decode cX0_lowestClash 51 = .ok (.ireturn, 1) := by decide +kernel
theorem dX0_clashingPairs_0 : decode cX0_clashingPairs 0 = .ok (.iconst 0, 1) := by decide +kernel
theorem dX0_clashingPairs_1 : decode cX0_clashingPairs 1 = .ok (.istore_n 1, 1) := by decide +kernel
theorem dX0_clashingPairs_2 : decode cX0_clashingPairs 2 = .ok (.iconst 0, 1) := by decide +kernel
theorem dX0_clashingPairs_3 : decode cX0_clashingPairs 3 = .ok (.istore_n 2, 1) := by decide +kernel
theorem dX0_clashingPairs_4 : decode cX0_clashingPairs 4 = .ok (.iload_n 2, 1) := by decide +kernel
theorem dX0_clashingPairs_5 : decode cX0_clashingPairs 5 = .ok (.aload_n 0, 1) := by decide +kernel
theorem dX0_clashingPairs_6 : decode cX0_clashingPairs 6 = .ok (.getfield 25, 3) := by decide +kernel
theorem dX0_clashingPairs_9 : decode cX0_clashingPairs 9 = .ok (.if_icmp .ge 48, 3) := by decide +kernel
theorem dX0_clashingPairs_12 : decode cX0_clashingPairs 12 = .ok (.iload_n 2, 1) := by decide +kernel
theorem dX0_clashingPairs_13 : decode cX0_clashingPairs 13 = .ok (.iconst 1, 1) := by decide +kernel
theorem dX0_clashingPairs_14 : decode cX0_clashingPairs 14 = .ok (.iadd, 1) := by decide +kernel
theorem dX0_clashingPairs_15 : decode cX0_clashingPairs 15 = .ok (.istore_n 3, 1) := by decide +kernel
theorem dX0_clashingPairs_16 : decode cX0_clashingPairs 16 = .ok (.iload_n 3, 1) := by decide +kernel
theorem dX0_clashingPairs_17 : decode cX0_clashingPairs 17 = .ok (.aload_n 0, 1) := by decide +kernel
theorem dX0_clashingPairs_18 : decode cX0_clashingPairs 18 = .ok (.getfield 25, 3) := by decide +kernel
theorem dX0_clashingPairs_21 : decode cX0_clashingPairs 21 = .ok (.if_icmp .ge 30, 3) := by decide +kernel
theorem dX0_clashingPairs_24 : decode cX0_clashingPairs 24 = .ok (.aload_n 0, 1) := by decide +kernel
theorem dX0_clashingPairs_25 : decode cX0_clashingPairs 25 = .ok (.getfield 11, 3) := by decide +kernel
theorem dX0_clashingPairs_28 : decode cX0_clashingPairs 28 = .ok (.iload_n 2, 1) := by decide +kernel
theorem dX0_clashingPairs_29 : decode cX0_clashingPairs 29 = .ok (.aaload, 1) := by decide +kernel
theorem dX0_clashingPairs_30 : decode cX0_clashingPairs 30 = .ok (.aload_n 0, 1) := by decide +kernel
theorem dX0_clashingPairs_31 : decode cX0_clashingPairs 31 = .ok (.getfield 11, 3) := by decide +kernel
theorem dX0_clashingPairs_34 : decode cX0_clashingPairs 34 = .ok (.iload_n 3, 1) := by decide +kernel
theorem dX0_clashingPairs_35 : decode cX0_clashingPairs 35 = .ok (.aaload, 1) := by decide +kernel
theorem dX0_clashingPairs_36 : decode cX0_clashingPairs 36 = .ok (.invokevirtual 96, 3) := by decide +kernel
theorem dX0_clashingPairs_39 : decode cX0_clashingPairs 39 = .ok (.ifCond .eq 6, 3) := by decide +kernel
theorem dX0_clashingPairs_42 : decode cX0_clashingPairs 42 = .ok (.iinc 1 1, 3) := by decide +kernel
theorem dX0_clashingPairs_45 : decode cX0_clashingPairs 45 = .ok (.iinc 3 1, 3) := by decide +kernel
theorem dX0_clashingPairs_48 : decode cX0_clashingPairs 48 = .ok (.goto (-32), 3) := by decide +kernel
theorem dX0_clashingPairs_51 : decode cX0_clashingPairs 51 = .ok (.iinc 2 1, 3) := by decide +kernel
theorem dX0_clashingPairs_54 : decode cX0_clashingPairs 54 = .ok (.goto (-50), 3) := by decide +kernel
theorem dX0_clashingPairs_57 : decode cX0_clashingPairs 57 = .ok (.iload_n 1, 1) := by decide +kernel
theorem dX0_clashingPairs_58 : decode cX0_clashingPairs 58 = .ok (.ireturn, 1) := by decide +kernel
theorem dX0_beginOf_0 : decode cX0_beginOf 0 = .ok (.bipush (-4), 2) := by decide +kernel
theorem dX0_beginOf_2 : decode cX0_beginOf 2 = .ok (.istore 4, 2) := by decide +kernel
theorem dX0_beginOf_4 : decode cX0_beginOf 4 = .ok (.iconst 0, 1) := by decide +kernel
theorem dX0_beginOf_5 : decode cX0_beginOf 5 = .ok (.istore 5, 2) := by decide +kernel
theorem dX0_beginOf_7 : decode cX0_beginOf 7 = .ok (.iload 5, 2) := by decide +kernel
theorem dX0_beginOf_9 : decode cX0_beginOf 9 = .ok (.aload_n 0, 1) := by decide +kernel
theorem dX0_beginOf_10 : decode cX0_beginOf 10 = .ok (.getfield 25, 3) := by decide +kernel
theorem dX0_beginOf_13 : decode cX0_beginOf 13 = .ok (.if_icmp .ge 75, 3) := by decide +kernel
theorem dX0_beginOf_16 : decode cX0_beginOf 16 = .ok (.aload_n 0, 1) := by decide +kernel
theorem dX0_beginOf_17 : decode cX0_beginOf 17 = .ok (.getfield 11, 3) := by decide +kernel
theorem dX0_beginOf_20 : decode cX0_beginOf 20 = .ok (.iload 5, 2) := by decide +kernel
theorem dX0_beginOf_22 : decode cX0_beginOf 22 = .ok (.aaload, 1) := by decide +kernel
theorem dX0_beginOf_23 : decode cX0_beginOf 23 = .ok (.astore 6, 2) := by decide +kernel
theorem dX0_beginOf_25 : decode cX0_beginOf 25 = .ok (.iload_n 1, 1) := by decide +kernel
theorem dX0_beginOf_26 : decode cX0_beginOf 26 = .ok (.iload 5, 2) := by decide +kernel
theorem dX0_beginOf_28 : decode cX0_beginOf 28 = .ok (.invokestatic 93, 3) := by decide +kernel
theorem dX0_beginOf_31 : decode cX0_beginOf 31 = .ok (.ifCond .eq 51, 3) := by decide +kernel
theorem dX0_beginOf_34 : decode cX0_beginOf 34 = .ok (.aload 6, 2) := by decide +kernel
theorem dX0_beginOf_36 : decode cX0_beginOf 36 = .ok (.getfield 46, 3) := by decide +kernel
theorem dX0_beginOf_39 : decode cX0_beginOf 39 = .ok (.iload_n 2, 1) := by decide +kernel
theorem dX0_beginOf_40 : decode cX0_beginOf 40 = .ok (.invokestatic 93, 3) := by decide +kernel
theorem dX0_beginOf_43 : decode cX0_beginOf 43 = .ok (.ifCond .eq 39, 3) := by decide +kernel
theorem dX0_beginOf_46 : decode cX0_beginOf 46 = .ok (.aload 6, 2) := by decide +kernel
theorem dX0_beginOf_48 : decode cX0_beginOf 48 = .ok (.getfield 52, 3) := by decide +kernel
theorem dX0_beginOf_51 : decode cX0_beginOf 51 = .ok (.iload_n 3, 1) := by decide +kernel
theorem dX0_beginOf_52 : decode cX0_beginOf 52 = .ok (.invokestatic 93, 3) := by decide +kernel
theorem dX0_beginOf_55 : decode cX0_beginOf 55 = .ok (.ifCond .eq 27, 3) := by decide +kernel
theorem dX0_beginOf_58 : decode cX0_beginOf 58 = .ok (.iload 4, 2) := by decide +kernel
theorem dX0_beginOf_60 : decode cX0_beginOf 60 = .ok (.bipush (-4), 2) := by decide +kernel
theorem dX0_beginOf_62 : decode cX0_beginOf 62 = .ok (.if_icmp .eq 13, 3) := by decide +kernel
theorem dX0_beginOf_65 : decode cX0_beginOf 65 = .ok (.aload 6, 2) := by decide +kernel
theorem dX0_beginOf_67 : decode cX0_beginOf 67 = .ok (.invokevirtual 86, 3) := by decide +kernel
theorem dX0_beginOf_70 : decode cX0_beginOf 70 = .ok (.iload 4, 2) := by decide +kernel
theorem dX0_beginOf_72 : decode cX0_beginOf 72 = .ok (.if_icmp .ge 10, 3) := by decide +kernel
theorem dX0_beginOf_75 : decode cX0_beginOf 75 = .ok (.aload 6, 2) := by decide +kernel
theorem dX0_beginOf_77 : decode cX0_beginOf 77 = .ok (.invokevirtual 86, 3) := by decide +kernel
theorem dX0_beginOf_80 : decode cX0_beginOf 80 = .ok (.istore 4, 2) := by decide +kernel
theorem dX0_beginOf_82 : decode cX0_beginOf 82 = .ok (.iinc 5 1, 3) := by decide +kernel
theorem dX0_beginOf_85 : decode cX0_beginOf 85 = .ok (.goto (-78), 3) := by decide +kernel
theorem dX0_beginOf_88 : decode cX0_beginOf 88 = .ok (.iload 4, 2) := by decide +kernel
theorem dX0_beginOf_90 : decode cX0_beginOf 90 = .ok (.ireturn, 1) := by decide +kernel
theorem dX0_isKept_0 : decode cX0_isKept 0 = .ok (.aload_n 0, 1) := by decide +kernel
theorem dX0_isKept_1 : decode cX0_isKept 1 = .ok (.iload_n 1, 1) := by decide +kernel
theorem dX0_isKept_2 : decode cX0_isKept 2 = .ok (.iload_n 3, 1) := by decide +kernel
theorem dX0_isKept_3 : decode cX0_isKept 3 = .ok (.aload_n 2, 1) := by decide +kernel
theorem dX0_isKept_4 : decode cX0_isKept 4 = .ok (.getfield 77, 3) := by decide +kernel
theorem dX0_isKept_7 : decode cX0_isKept 7 = .ok (.invokevirtual 100, 3) := by decide +kernel
theorem dX0_isKept_10 : decode cX0_isKept 10 = .ok (.istore 4, 2) := by decide +kernel
theorem dX0_isKept_12 : decode cX0_isKept 12 = .ok (.iload 4, 2) := by decide +kernel
theorem dX0_isKept_14 : decode cX0_isKept 14 = .ok (.bipush (-4), 2) := by decide +kernel
theorem dX0_isKept_16 : decode cX0_isKept 16 = .ok (.if_icmp .ne 5, 3) := by decide +kernel
theorem dX0_isKept_19 : decode cX0_isKept 19 = .ok (.iconst 1, 1) := by decide +kernel
theorem dX0_isKept_20 : decode cX0_isKept 20 = .ok (.ireturn, 1) := by decide +kernel
theorem dX0_isKept_21 : decode cX0_isKept 21 = .ok (.aload_n 0, 1) := by decide +kernel
theorem dX0_isKept_22 : decode cX0_isKept 22 = .ok (.iload_n 1, 1) := by decide +kernel
theorem dX0_isKept_23 : decode cX0_isKept 23 = .ok (.iload_n 3, 1) := by decide +kernel
theorem dX0_isKept_24 : decode cX0_isKept 24 = .ok (.aload_n 2, 1) := by decide +kernel
theorem dX0_isKept_25 : decode cX0_isKept 25 = .ok (.getfield 80, 3) := by decide +kernel
theorem dX0_isKept_28 : decode cX0_isKept 28 = .ok (.invokevirtual 100, 3) := by decide +kernel
theorem dX0_isKept_31 : decode cX0_isKept 31 = .ok (.istore 5, 2) := by decide +kernel
theorem dX0_isKept_33 : decode cX0_isKept 33 = .ok (.iload 5, 2) := by decide +kernel
theorem dX0_isKept_35 : decode cX0_isKept 35 = .ok (.bipush (-4), 2) := by decide +kernel
theorem dX0_isKept_37 : decode cX0_isKept 37 = .ok (.if_icmp .eq 15, 3) := by decide +kernel
theorem dX0_isKept_40 : decode cX0_isKept 40 = .ok (.iload 4, 2) := by decide +kernel
theorem dX0_isKept_42 : decode cX0_isKept 42 = .ok (.iload 5, 2) := by decide +kernel
theorem dX0_isKept_44 : decode cX0_isKept 44 = .ok (.isub, 1) := by decide +kernel
theorem dX0_isKept_45 : decode cX0_isKept 45 = .ok (.aload_n 2, 1) := by decide +kernel
theorem dX0_isKept_46 : decode cX0_isKept 46 = .ok (.getfield 83, 3) := by decide +kernel
theorem dX0_isKept_49 : decode cX0_isKept 49 = .ok (.if_icmp .lt 7, 3) := by decide +kernel
theorem dX0_isKept_52 : decode cX0_isKept 52 = .ok (.iconst 1, 1) := by decide +kernel
theorem dX0_isKept_53 : decode cX0_isKept 53 = .ok (.goto 4, 3) := by decide +kernel
theorem dX0_isKept_56 : decode cX0_isKept 56 = .ok (.iconst 0, 1) := by decide +kernel
theorem dX0_isKept_57 : decode cX0_isKept 57 = .ok (.ireturn, 1) := by decide +kernel
theorem dX0_areHoldsKept_0 : decode cX0_areHoldsKept 0 = .ok (.iconst 0, 1) := by decide +kernel
theorem dX0_areHoldsKept_1 : decode cX0_areHoldsKept 1 = .ok (.istore_n 2, 1) := by decide +kernel
theorem dX0_areHoldsKept_2 : decode cX0_areHoldsKept 2 = .ok (.iload_n 2, 1) := by decide +kernel
theorem dX0_areHoldsKept_3 : decode cX0_areHoldsKept 3 = .ok (.aload_n 0, 1) := by decide +kernel
theorem dX0_areHoldsKept_4 : decode cX0_areHoldsKept 4 = .ok (.getfield 29, 3) := by decide +kernel
theorem dX0_areHoldsKept_7 : decode cX0_areHoldsKept 7 = .ok (.if_icmp .ge 40, 3) := by decide +kernel
theorem dX0_areHoldsKept_10 : decode cX0_areHoldsKept 10 = .ok (.iconst 0, 1) := by decide +kernel
theorem dX0_areHoldsKept_11 : decode cX0_areHoldsKept 11 = .ok (.istore_n 3, 1) := by decide +kernel
theorem dX0_areHoldsKept_12 : decode cX0_areHoldsKept 12 = .ok (.iload_n 3, 1) := by decide +kernel
theorem dX0_areHoldsKept_13 : decode cX0_areHoldsKept 13 = .ok (.bipush 6, 2) := by decide +kernel
theorem dX0_areHoldsKept_15 : decode cX0_areHoldsKept 15 = .ok (.if_icmp .ge 26, 3) := by decide +kernel
theorem dX0_areHoldsKept_18 : decode cX0_areHoldsKept 18 = .ok (.aload_n 0, 1) := by decide +kernel
theorem dX0_areHoldsKept_19 : decode cX0_areHoldsKept 19 = .ok (.iload_n 1, 1) := by decide +kernel
theorem dX0_areHoldsKept_20 : decode cX0_areHoldsKept 20 = .ok (.aload_n 0, 1) := by decide +kernel
theorem dX0_areHoldsKept_21 : decode cX0_areHoldsKept 21 = .ok (.getfield 19, 3) := by decide +kernel
theorem dX0_areHoldsKept_24 : decode cX0_areHoldsKept 24 = .ok (.iload_n 2, 1) := by decide +kernel
theorem dX0_areHoldsKept_25 : decode cX0_areHoldsKept 25 = .ok (.aaload, 1) := by decide +kernel
theorem dX0_areHoldsKept_26 : decode cX0_areHoldsKept 26 = .ok (.iload_n 3, 1) := by decide +kernel
theorem dX0_areHoldsKept_27 : decode cX0_areHoldsKept 27 = .ok (.invokevirtual 104, 3) := by decide +kernel
theorem dX0_areHoldsKept_30 : decode cX0_areHoldsKept 30 = .ok (.ifCond .ne 5, 3) := by decide +kernel
theorem dX0_areHoldsKept_33 : decode cX0_areHoldsKept 33 = .ok (.iconst 0, 1) := by decide +kernel
theorem dX0_areHoldsKept_34 : decode cX0_areHoldsKept 34 = .ok (.ireturn, 1) := by decide +kernel
theorem dX0_areHoldsKept_35 : decode cX0_areHoldsKept 35 = .ok (.iinc 3 1, 3) := by decide +kernel
theorem dX0_areHoldsKept_38 : decode cX0_areHoldsKept 38 = .ok (.goto (-26), 3) := by decide +kernel
theorem dX0_areHoldsKept_41 : decode cX0_areHoldsKept 41 = .ok (.iinc 2 1, 3) := by decide +kernel
theorem dX0_areHoldsKept_44 : decode cX0_areHoldsKept 44 = .ok (.goto (-42), 3) := by decide +kernel
theorem dX0_areHoldsKept_47 : decode cX0_areHoldsKept 47 = .ok (.iconst 1, 1) := by decide +kernel
theorem dX0_areHoldsKept_48 : decode cX0_areHoldsKept 48 = .ok (.ireturn, 1) := by decide +kernel
theorem dX0_brokenLands_0 : decode cX0_brokenLands 0 = .ok (.iconst 0, 1) := by decide +kernel
theorem dX0_brokenLands_1 : decode cX0_brokenLands 1 = .ok (.istore_n 3, 1) := by decide +kernel
theorem dX0_brokenLands_2 : decode cX0_brokenLands 2 = .ok (.iconst 0, 1) := by decide +kernel
theorem dX0_brokenLands_3 : decode cX0_brokenLands 3 = .ok (.istore 4, 2) := by decide +kernel
theorem dX0_brokenLands_5 : decode cX0_brokenLands 5 = .ok (.iload 4, 2) := by decide +kernel
theorem dX0_brokenLands_7 : decode cX0_brokenLands 7 = .ok (.bipush 6, 2) := by decide +kernel
theorem dX0_brokenLands_9 : decode cX0_brokenLands 9 = .ok (.if_icmp .ge 27, 3) := by decide +kernel
theorem dX0_brokenLands_12 : decode cX0_brokenLands 12 = .ok (.aload_n 0, 1) := by decide +kernel
theorem dX0_brokenLands_13 : decode cX0_brokenLands 13 = .ok (.iload_n 1, 1) := by decide +kernel
theorem dX0_brokenLands_14 : decode cX0_brokenLands 14 = .ok (.aload_n 2, 1) := by decide +kernel
theorem dX0_brokenLands_15 : decode cX0_brokenLands 15 = .ok (.iload 4, 2) := by decide +kernel
theorem dX0_brokenLands_17 : decode cX0_brokenLands 17 = .ok (.invokevirtual 104, 3) := by decide +kernel
theorem dX0_brokenLands_20 : decode cX0_brokenLands 20 = .ok (.ifCond .ne 10, 3) := by decide +kernel
theorem dX0_brokenLands_23 : decode cX0_brokenLands 23 = .ok (.iload_n 3, 1) := by decide +kernel
theorem dX0_brokenLands_24 : decode cX0_brokenLands 24 = .ok (.iconst 1, 1) := by decide +kernel
theorem dX0_brokenLands_25 : decode cX0_brokenLands 25 = .ok (.iload 4, 2) := by decide +kernel
theorem dX0_brokenLands_27 : decode cX0_brokenLands 27 = .ok (.ishl, 1) := by decide +kernel
theorem dX0_brokenLands_28 : decode cX0_brokenLands 28 = .ok (.ior, 1) := by decide +kernel
theorem dX0_brokenLands_29 : decode cX0_brokenLands 29 = .ok (.istore_n 3, 1) := by decide +kernel
theorem dX0_brokenLands_30 : decode cX0_brokenLands 30 = .ok (.iinc 4 1, 3) := by decide +kernel
theorem dX0_brokenLands_33 : decode cX0_brokenLands 33 = .ok (.goto (-28), 3) := by decide +kernel
theorem dX0_brokenLands_36 : decode cX0_brokenLands 36 = .ok (.iload_n 3, 1) := by decide +kernel
theorem dX0_brokenLands_37 : decode cX0_brokenLands 37 = .ok (.ireturn, 1) := by decide +kernel
theorem dX0_priceOf_0 : decode cX0_priceOf 0 = .ok (.iconst 0, 1) := by decide +kernel
theorem dX0_priceOf_1 : decode cX0_priceOf 1 = .ok (.istore_n 2, 1) := by decide +kernel
theorem dX0_priceOf_2 : decode cX0_priceOf 2 = .ok (.iconst 0, 1) := by decide +kernel
theorem dX0_priceOf_3 : decode cX0_priceOf 3 = .ok (.istore_n 3, 1) := by decide +kernel
theorem dX0_priceOf_4 : decode cX0_priceOf 4 = .ok (.iload_n 3, 1) := by decide +kernel
theorem dX0_priceOf_5 : decode cX0_priceOf 5 = .ok (.aload_n 0, 1) := by decide +kernel
theorem dX0_priceOf_6 : decode cX0_priceOf 6 = .ok (.getfield 25, 3) := by decide +kernel
theorem dX0_priceOf_9 : decode cX0_priceOf 9 = .ok (.if_icmp .ge 29, 3) := by decide +kernel
theorem dX0_priceOf_12 : decode cX0_priceOf 12 = .ok (.iload_n 1, 1) := by decide +kernel
theorem dX0_priceOf_13 : decode cX0_priceOf 13 = .ok (.iload_n 3, 1) := by decide +kernel
theorem dX0_priceOf_14 : decode cX0_priceOf 14 = .ok (.invokestatic 93, 3) := by decide +kernel
theorem dX0_priceOf_17 : decode cX0_priceOf 17 = .ok (.ifCond .eq 15, 3) := by decide +kernel
theorem dX0_priceOf_20 : decode cX0_priceOf 20 = .ok (.iload_n 2, 1) := by decide +kernel
theorem dX0_priceOf_21 : decode cX0_priceOf 21 = .ok (.aload_n 0, 1) := by decide +kernel
theorem dX0_priceOf_22 : decode cX0_priceOf 22 = .ok (.getfield 11, 3) := by decide +kernel
theorem dX0_priceOf_25 : decode cX0_priceOf 25 = .ok (.iload_n 3, 1) := by decide +kernel
theorem dX0_priceOf_26 : decode cX0_priceOf 26 = .ok (.aaload, 1) := by decide +kernel
theorem dX0_priceOf_27 : decode cX0_priceOf 27 = .ok (.getfield 65, 3) := by decide +kernel
theorem dX0_priceOf_30 : decode cX0_priceOf 30 = .ok (.iadd, 1) := by decide +kernel
theorem dX0_priceOf_31 : decode cX0_priceOf 31 = .ok (.istore_n 2, 1) := by decide +kernel
theorem dX0_priceOf_32 : decode cX0_priceOf 32 = .ok (.iinc 3 1, 3) := by decide +kernel
theorem dX0_priceOf_35 : decode cX0_priceOf 35 = .ok (.goto (-31), 3) := by decide +kernel
theorem dX0_priceOf_38 : decode cX0_priceOf 38 = .ok (.iload_n 2, 1) := by decide +kernel
theorem dX0_priceOf_39 : decode cX0_priceOf 39 = .ok (.ireturn, 1) := by decide +kernel
theorem dX0_bestSet_0 : decode cX0_bestSet 0 = .ok (.aload_n 0, 1) := by decide +kernel
theorem dX0_bestSet_1 : decode cX0_bestSet 1 = .ok (.invokevirtual 108, 3) := by decide +kernel
theorem dX0_bestSet_4 : decode cX0_bestSet 4 = .ok (.istore_n 1, 1) := by decide +kernel
theorem dX0_bestSet_5 : decode cX0_bestSet 5 = .ok (.iconst 0, 1) := by decide +kernel
theorem dX0_bestSet_6 : decode cX0_bestSet 6 = .ok (.istore_n 2, 1) := by decide +kernel
theorem dX0_bestSet_7 : decode cX0_bestSet 7 = .ok (.iconst 0, 1) := by decide +kernel
theorem dX0_bestSet_8 : decode cX0_bestSet 8 = .ok (.istore_n 3, 1) := by decide +kernel
theorem dX0_bestSet_9 : decode cX0_bestSet 9 = .ok (.iconst 1, 1) := by decide +kernel
theorem dX0_bestSet_10 : decode cX0_bestSet 10 = .ok (.istore 4, 2) := by decide +kernel
theorem dX0_bestSet_12 : decode cX0_bestSet 12 = .ok (.iload 4, 2) := by decide +kernel
theorem dX0_bestSet_14 : decode cX0_bestSet 14 = .ok (.iconst 1, 1) := by decide +kernel
theorem dX0_bestSet_15 : decode cX0_bestSet 15 = .ok (.aload_n 0, 1) := by decide +kernel
theorem dX0_bestSet_16 : decode cX0_bestSet 16 = .ok (.getfield 25, 3) := by decide +kernel
theorem dX0_bestSet_19 : decode cX0_bestSet 19 = .ok (.ishl, 1) := by decide +kernel
theorem dX0_bestSet_20 : decode cX0_bestSet 20 = .ok (.if_icmp .ge 87, 3) := by decide +kernel
theorem dX0_bestSet_23 : decode cX0_bestSet 23 = .ok (.iload 4, 2) := by decide +kernel
theorem dX0_bestSet_25 : decode cX0_bestSet 25 = .ok (.iload_n 1, 1) := by decide +kernel
theorem dX0_bestSet_26 : decode cX0_bestSet 26 = .ok (.iand, 1) := by decide +kernel
theorem dX0_bestSet_27 : decode cX0_bestSet 27 = .ok (.ifCond .eq 6, 3) := by decide +kernel
theorem dX0_bestSet_30 : decode cX0_bestSet 30 = .ok (.goto 71, 3) := by decide +kernel
theorem dX0_bestSet_33 : decode cX0_bestSet 33 = .ok (.aload_n 0, 1) := by decide +kernel
theorem dX0_bestSet_34 : decode cX0_bestSet 34 = .ok (.iload 4, 2) := by decide +kernel
theorem dX0_bestSet_36 : decode cX0_bestSet 36 = .ok (.invokevirtual 111, 3) := by decide +kernel
theorem dX0_bestSet_39 : decode cX0_bestSet 39 = .ok (.istore 5, 2) := by decide +kernel
theorem dX0_bestSet_41 : decode cX0_bestSet 41 = .ok (.iload 5, 2) := by decide +kernel
theorem dX0_bestSet_43 : decode cX0_bestSet 43 = .ok (.iload_n 3, 1) := by decide +kernel
theorem dX0_bestSet_44 : decode cX0_bestSet 44 = .ok (.if_icmp .gt 21, 3) := by decide +kernel
theorem dX0_bestSet_47 : decode cX0_bestSet 47 = .ok (.iload 5, 2) := by decide +kernel
theorem dX0_bestSet_49 : decode cX0_bestSet 49 = .ok (.iload_n 3, 1) := by decide +kernel
theorem dX0_bestSet_50 : decode cX0_bestSet 50 = .ok (.if_icmp .ne 19, 3) := by decide +kernel
theorem dX0_bestSet_53 : decode cX0_bestSet 53 = .ok (.iload 4, 2) := by decide +kernel
theorem dX0_bestSet_55 : decode cX0_bestSet 55 = .ok (.invokestatic 115, 3) := by decide +kernel
theorem dX0_bestSet_58 : decode cX0_bestSet 58 = .ok (.iload_n 2, 1) := by decide +kernel
theorem dX0_bestSet_59 : decode cX0_bestSet 59 = .ok (.invokestatic 115, 3) := by decide +kernel
theorem dX0_bestSet_62 : decode cX0_bestSet 62 = .ok (.if_icmp .ge 7, 3) := by decide +kernel
theorem dX0_bestSet_65 : decode cX0_bestSet 65 = .ok (.iconst 1, 1) := by decide +kernel
theorem dX0_bestSet_66 : decode cX0_bestSet 66 = .ok (.goto 4, 3) := by decide +kernel
theorem dX0_bestSet_69 : decode cX0_bestSet 69 = .ok (.iconst 0, 1) := by decide +kernel
theorem dX0_bestSet_70 : decode cX0_bestSet 70 = .ok (.istore 6, 2) := by decide +kernel
theorem dX0_bestSet_72 : decode cX0_bestSet 72 = .ok (.iload 6, 2) := by decide +kernel
theorem dX0_bestSet_74 : decode cX0_bestSet 74 = .ok (.ifCond .eq 27, 3) := by decide +kernel
theorem dX0_bestSet_77 : decode cX0_bestSet 77 = .ok (.aload_n 0, 1) := by decide +kernel
theorem dX0_bestSet_78 : decode cX0_bestSet 78 = .ok (.iload 4, 2) := by decide +kernel
theorem dX0_bestSet_80 : decode cX0_bestSet 80 = .ok (.invokevirtual 120, 3) := by decide +kernel
theorem dX0_bestSet_83 : decode cX0_bestSet 83 = .ok (.ifCond .eq 18, 3) := by decide +kernel
theorem dX0_bestSet_86 : decode cX0_bestSet 86 = .ok (.aload_n 0, 1) := by decide +kernel
theorem dX0_bestSet_87 : decode cX0_bestSet 87 = .ok (.iload 4, 2) := by decide +kernel
theorem dX0_bestSet_89 : decode cX0_bestSet 89 = .ok (.invokevirtual 124, 3) := by decide +kernel
theorem dX0_bestSet_92 : decode cX0_bestSet 92 = .ok (.ifCond .eq 9, 3) := by decide +kernel
theorem dX0_bestSet_95 : decode cX0_bestSet 95 = .ok (.iload 4, 2) := by decide +kernel
theorem dX0_bestSet_97 : decode cX0_bestSet 97 = .ok (.istore_n 2, 1) := by decide +kernel
theorem dX0_bestSet_98 : decode cX0_bestSet 98 = .ok (.iload 5, 2) := by decide +kernel
theorem dX0_bestSet_100 : decode cX0_bestSet 100 = .ok (.istore_n 3, 1) := by decide +kernel
theorem dX0_bestSet_101 : decode cX0_bestSet 101 = .ok (.iinc 4 1, 3) := by decide +kernel
theorem dX0_bestSet_104 : decode cX0_bestSet 104 = .ok (.goto (-92), 3) := by decide +kernel
theorem dX0_bestSet_107 : decode cX0_bestSet 107 = .ok (.iload_n 2, 1) := by decide +kernel
theorem dX0_bestSet_108 : decode cX0_bestSet 108 = .ok (.ireturn, 1) := by decide +kernel
theorem dX0_outsideTerm_0 : decode cX0_outsideTerm 0 = .ok (.iconst 0, 1) := by decide +kernel
theorem dX0_outsideTerm_1 : decode cX0_outsideTerm 1 = .ok (.istore_n 1, 1) := by decide +kernel
theorem dX0_outsideTerm_2 : decode cX0_outsideTerm 2 = .ok (.iconst 0, 1) := by decide +kernel
theorem dX0_outsideTerm_3 : decode cX0_outsideTerm 3 = .ok (.istore_n 2, 1) := by decide +kernel
theorem dX0_outsideTerm_4 : decode cX0_outsideTerm 4 = .ok (.iload_n 2, 1) := by decide +kernel
theorem dX0_outsideTerm_5 : decode cX0_outsideTerm 5 = .ok (.aload_n 0, 1) := by decide +kernel
theorem dX0_outsideTerm_6 : decode cX0_outsideTerm 6 = .ok (.getfield 25, 3) := by decide +kernel
theorem dX0_outsideTerm_9 : decode cX0_outsideTerm 9 = .ok (.if_icmp .ge 23, 3) := by decide +kernel
theorem dX0_outsideTerm_12 : decode cX0_outsideTerm 12 = .ok (.aload_n 0, 1) := by decide +kernel
theorem dX0_outsideTerm_13 : decode cX0_outsideTerm 13 = .ok (.iload_n 2, 1) := by decide +kernel
theorem dX0_outsideTerm_14 : decode cX0_outsideTerm 14 = .ok (.invokevirtual 127, 3) := by decide +kernel
theorem dX0_outsideTerm_17 : decode cX0_outsideTerm 17 = .ok (.ifCond .ne 9, 3) := by decide +kernel
theorem dX0_outsideTerm_20 : decode cX0_outsideTerm 20 = .ok (.iload_n 1, 1) := by decide +kernel
theorem dX0_outsideTerm_21 : decode cX0_outsideTerm 21 = .ok (.iconst 1, 1) := by decide +kernel
theorem dX0_outsideTerm_22 : decode cX0_outsideTerm 22 = .ok (.iload_n 2, 1) := by decide +kernel
theorem dX0_outsideTerm_23 : decode cX0_outsideTerm 23 = .ok (.ishl, 1) := by decide +kernel
theorem dX0_outsideTerm_24 : decode cX0_outsideTerm 24 = .ok (.ior, 1) := by decide +kernel
theorem dX0_outsideTerm_25 : decode cX0_outsideTerm 25 = .ok (.istore_n 1, 1) := by decide +kernel
theorem dX0_outsideTerm_26 : decode cX0_outsideTerm 26 = .ok (.iinc 2 1, 3) := by decide +kernel
theorem dX0_outsideTerm_29 : decode cX0_outsideTerm 29 = .ok (.goto (-25), 3) := by decide +kernel
theorem dX0_outsideTerm_32 : decode cX0_outsideTerm 32 = .ok (.iload_n 1, 1) := by decide +kernel
theorem dX0_outsideTerm_33 : decode cX0_outsideTerm 33 = .ok (.ireturn, 1) := by decide +kernel
theorem dX0_isWithoutClash_0 : decode cX0_isWithoutClash 0 = .ok (.iconst 0, 1) := by decide +kernel
theorem dX0_isWithoutClash_1 : decode cX0_isWithoutClash 1 = .ok (.istore_n 2, 1) := by decide +kernel
theorem dX0_isWithoutClash_2 : decode cX0_isWithoutClash 2 = .ok (.iload_n 2, 1) := by decide +kernel
theorem dX0_isWithoutClash_3 : decode cX0_isWithoutClash 3 = .ok (.aload_n 0, 1) := by decide +kernel
theorem dX0_isWithoutClash_4 : decode cX0_isWithoutClash 4 = .ok (.getfield 25, 3) := by decide +kernel
theorem dX0_isWithoutClash_7 : decode cX0_isWithoutClash 7 = .ok (.if_icmp .ge 30, 3) := by decide +kernel
theorem dX0_isWithoutClash_10 : decode cX0_isWithoutClash 10 = .ok (.iload_n 1, 1) := by decide +kernel
theorem dX0_isWithoutClash_11 : decode cX0_isWithoutClash 11 = .ok (.iload_n 2, 1) := by decide +kernel
theorem dX0_isWithoutClash_12 : decode cX0_isWithoutClash 12 = .ok (.invokestatic 93, 3) := by decide +kernel
theorem dX0_isWithoutClash_15 : decode cX0_isWithoutClash 15 = .ok (.ifCond .eq 16, 3) := by decide +kernel
theorem dX0_isWithoutClash_18 : decode cX0_isWithoutClash 18 = .ok (.aload_n 0, 1) := by decide +kernel
theorem dX0_isWithoutClash_19 : decode cX0_isWithoutClash 19 = .ok (.iload_n 2, 1) := by decide +kernel
theorem dX0_isWithoutClash_20 : decode cX0_isWithoutClash 20 = .ok (.iload_n 1, 1) := by decide +kernel
theorem dX0_isWithoutClash_21 : decode cX0_isWithoutClash 21 = .ok (.invokevirtual 130, 3) := by decide +kernel
theorem dX0_isWithoutClash_24 : decode cX0_isWithoutClash 24 = .ok (.bipush (-4), 2) := by decide +kernel
theorem dX0_isWithoutClash_26 : decode cX0_isWithoutClash 26 = .ok (.if_icmp .eq 5, 3) := by decide +kernel
theorem dX0_isWithoutClash_29 : decode cX0_isWithoutClash 29 = .ok (.iconst 0, 1) := by decide +kernel
theorem dX0_isWithoutClash_30 : decode cX0_isWithoutClash 30 = .ok (.ireturn, 1) := by decide +kernel
theorem dX0_isWithoutClash_31 : decode cX0_isWithoutClash 31 = .ok (.iinc 2 1, 3) := by decide +kernel
theorem dX0_isWithoutClash_34 : decode cX0_isWithoutClash 34 = .ok (.goto (-32), 3) := by decide +kernel
theorem dX0_isWithoutClash_37 : decode cX0_isWithoutClash 37 = .ok (.iconst 1, 1) := by decide +kernel
theorem dX0_isWithoutClash_38 : decode cX0_isWithoutClash 38 = .ok (.ireturn, 1) := by decide +kernel
theorem dX1_init_0 : decode cX1_init 0 = .ok (.aload_n 0, 1) := by decide +kernel
theorem dX1_init_1 : decode cX1_init 1 = .ok (.invokespecial 1, 3) := by decide +kernel
theorem dX1_init_4 : decode cX1_init 4 = .ok (.return_, 1) := by decide +kernel
theorem dX2_init_0 : decode cX2_init 0 = .ok (.aload_n 0, 1) := by decide +kernel
theorem dX2_init_1 : decode cX2_init 1 = .ok (.invokespecial 3, 3) := by decide +kernel
theorem dX2_init_4 : decode cX2_init 4 = .ok (.aload_n 0, 1) := by decide +kernel
theorem dX2_init_5 : decode cX2_init 5 = .ok (.bipush 6, 2) := by decide +kernel
theorem dX2_init_7 : decode cX2_init 7 = .ok (.anewarray 9, 3) := by decide +kernel
theorem dX2_init_10 : decode cX2_init 10 = .ok (.putfield 11, 3) := by decide +kernel
theorem dX2_init_13 : decode cX2_init 13 = .ok (.iconst 0, 1) := by decide +kernel
theorem dX2_init_14 : decode cX2_init 14 = .ok (.istore_n 1, 1) := by decide +kernel
theorem dX2_init_15 : decode cX2_init 15 = .ok (.iload_n 1, 1) := by decide +kernel
theorem dX2_init_16 : decode cX2_init 16 = .ok (.bipush 6, 2) := by decide +kernel
theorem dX2_init_18 : decode cX2_init 18 = .ok (.if_icmp .ge 22, 3) := by decide +kernel
theorem dX2_init_21 : decode cX2_init 21 = .ok (.aload_n 0, 1) := by decide +kernel
theorem dX2_init_22 : decode cX2_init 22 = .ok (.getfield 11, 3) := by decide +kernel
theorem dX2_init_25 : decode cX2_init 25 = .ok (.iload_n 1, 1) := by decide +kernel
theorem dX2_init_26 : decode cX2_init 26 = .ok (.new 9, 3) := by decide +kernel
theorem dX2_init_29 : decode cX2_init 29 = .ok (.dup, 1) := by decide +kernel
theorem dX2_init_30 : decode cX2_init 30 = .ok (.invokespecial 17, 3) := by decide +kernel
theorem dX2_init_33 : decode cX2_init 33 = .ok (.aastore, 1) := by decide +kernel
theorem dX2_init_34 : decode cX2_init 34 = .ok (.iinc 1 1, 3) := by decide +kernel
theorem dX2_init_37 : decode cX2_init 37 = .ok (.goto (-22), 3) := by decide +kernel
theorem dX2_init_40 : decode cX2_init 40 = .ok (.return_, 1) := by decide +kernel
theorem dX2_forget_0 : decode cX2_forget 0 = .ok (.aload_n 0, 1) := by decide +kernel
theorem dX2_forget_1 : decode cX2_forget 1 = .ok (.iconst 0, 1) := by decide +kernel
theorem dX2_forget_2 : decode cX2_forget 2 = .ok (.putfield 18, 3) := by decide +kernel
theorem dX2_forget_5 : decode cX2_forget 5 = .ok (.return_, 1) := by decide +kernel
theorem dX2_add_0 : decode cX2_add 0 = .ok (.aload_n 0, 1) := by decide +kernel
theorem dX2_add_1 : decode cX2_add 1 = .ok (.getfield 18, 3) := by decide +kernel
theorem dX2_add_4 : decode cX2_add 4 = .ok (.bipush 6, 2) := by decide +kernel
theorem dX2_add_6 : decode cX2_add 6 = .ok (.if_icmp .lt 7, 3) := by decide +kernel
theorem dX2_add_9 : decode cX2_add 9 = .ok (.aload_n 0, 1) := by decide +kernel
theorem dX2_add_10 : decode cX2_add 10 = .ok (.invokevirtual 22, 3) := by decide +kernel
theorem dX2_add_13 : decode cX2_add 13 = .ok (.aload_n 0, 1) := by decide +kernel
theorem dX2_add_14 : decode cX2_add 14 = .ok (.getfield 11, 3) := by decide +kernel
theorem dX2_add_17 : decode cX2_add 17 = .ok (.aload_n 0, 1) := by decide +kernel
theorem dX2_add_18 : decode cX2_add 18 = .ok (.getfield 18, 3) := by decide +kernel
theorem dX2_add_21 : decode cX2_add 21 = .ok (.aaload, 1) := by decide +kernel
theorem dX2_add_22 : decode cX2_add 22 = .ok (.astore 4, 2) := by decide +kernel
theorem dX2_add_24 : decode cX2_add 24 = .ok (.aload 4, 2) := by decide +kernel
theorem dX2_add_26 : decode cX2_add 26 = .ok (.iload_n 1, 1) := by decide +kernel
theorem dX2_add_27 : decode cX2_add 27 = .ok (.putfield 25, 3) := by decide +kernel
theorem dX2_add_30 : decode cX2_add 30 = .ok (.aload 4, 2) := by decide +kernel
theorem dX2_add_32 : decode cX2_add 32 = .ok (.iload_n 2, 1) := by decide +kernel
theorem dX2_add_33 : decode cX2_add 33 = .ok (.putfield 28, 3) := by decide +kernel
theorem dX2_add_36 : decode cX2_add 36 = .ok (.aload 4, 2) := by decide +kernel
theorem dX2_add_38 : decode cX2_add 38 = .ok (.iload_n 3, 1) := by decide +kernel
theorem dX2_add_39 : decode cX2_add 39 = .ok (.putfield 31, 3) := by decide +kernel
theorem dX2_add_42 : decode cX2_add 42 = .ok (.aload_n 0, 1) := by decide +kernel
theorem dX2_add_43 : decode cX2_add 43 = .ok (.dup, 1) := by decide +kernel
theorem dX2_add_44 : decode cX2_add 44 = .ok (.getfield 18, 3) := by decide +kernel
theorem dX2_add_47 : decode cX2_add 47 = .ok (.iconst 1, 1) := by decide +kernel
theorem dX2_add_48 : decode cX2_add 48 = .ok (.iadd, 1) := by decide +kernel
theorem dX2_add_49 : decode cX2_add 49 = .ok (.putfield 18, 3) := by decide +kernel
theorem dX2_add_52 : decode cX2_add 52 = .ok (.return_, 1) := by decide +kernel
theorem dX2_loseOldest_0 : decode cX2_loseOldest 0 = .ok (.aload_n 0, 1) := by decide +kernel
theorem dX2_loseOldest_1 : decode cX2_loseOldest 1 = .ok (.getfield 11, 3) := by decide +kernel
theorem dX2_loseOldest_4 : decode cX2_loseOldest 4 = .ok (.iconst 0, 1) := by decide +kernel
theorem dX2_loseOldest_5 : decode cX2_loseOldest 5 = .ok (.aaload, 1) := by decide +kernel
theorem dX2_loseOldest_6 : decode cX2_loseOldest 6 = .ok (.astore_n 1, 1) := by decide +kernel
theorem dX2_loseOldest_7 : decode cX2_loseOldest 7 = .ok (.iconst 1, 1) := by decide +kernel
theorem dX2_loseOldest_8 : decode cX2_loseOldest 8 = .ok (.istore_n 2, 1) := by decide +kernel
theorem dX2_loseOldest_9 : decode cX2_loseOldest 9 = .ok (.iload_n 2, 1) := by decide +kernel
theorem dX2_loseOldest_10 : decode cX2_loseOldest 10 = .ok (.bipush 6, 2) := by decide +kernel
theorem dX2_loseOldest_12 : decode cX2_loseOldest 12 = .ok (.if_icmp .ge 23, 3) := by decide +kernel
theorem dX2_loseOldest_15 : decode cX2_loseOldest 15 = .ok (.aload_n 0, 1) := by decide +kernel
theorem dX2_loseOldest_16 : decode cX2_loseOldest 16 = .ok (.getfield 11, 3) := by decide +kernel
theorem dX2_loseOldest_19 : decode cX2_loseOldest 19 = .ok (.iload_n 2, 1) := by decide +kernel
theorem dX2_loseOldest_20 : decode cX2_loseOldest 20 = .ok (.iconst 1, 1) := by decide +kernel
theorem dX2_loseOldest_21 : decode cX2_loseOldest 21 = .ok (.isub, 1) := by decide +kernel
theorem dX2_loseOldest_22 : decode cX2_loseOldest 22 = .ok (.aload_n 0, 1) := by decide +kernel
theorem dX2_loseOldest_23 : decode cX2_loseOldest 23 = .ok (.getfield 11, 3) := by decide +kernel
theorem dX2_loseOldest_26 : decode cX2_loseOldest 26 = .ok (.iload_n 2, 1) := by decide +kernel
theorem dX2_loseOldest_27 : decode cX2_loseOldest 27 = .ok (.aaload, 1) := by decide +kernel
theorem dX2_loseOldest_28 : decode cX2_loseOldest 28 = .ok (.aastore, 1) := by decide +kernel
theorem dX2_loseOldest_29 : decode cX2_loseOldest 29 = .ok (.iinc 2 1, 3) := by decide +kernel
theorem dX2_loseOldest_32 : decode cX2_loseOldest 32 = .ok (.goto (-23), 3) := by decide +kernel
theorem dX2_loseOldest_35 : decode cX2_loseOldest 35 = .ok (.aload_n 0, 1) := by decide +kernel
theorem dX2_loseOldest_36 : decode cX2_loseOldest 36 = .ok (.getfield 11, 3) := by decide +kernel
theorem dX2_loseOldest_39 : decode cX2_loseOldest 39 = .ok (.iconst 5, 1) := by decide +kernel
theorem dX2_loseOldest_40 : decode cX2_loseOldest 40 = .ok (.aload_n 1, 1) := by decide +kernel
theorem dX2_loseOldest_41 : decode cX2_loseOldest 41 = .ok (.aastore, 1) := by decide +kernel
theorem dX2_loseOldest_42 : decode cX2_loseOldest 42 = .ok (.aload_n 0, 1) := by decide +kernel
theorem dX2_loseOldest_43 : decode cX2_loseOldest 43 = .ok (.iconst 5, 1) := by decide +kernel
theorem dX2_loseOldest_44 : decode cX2_loseOldest 44 = .ok (.putfield 18, 3) := by decide +kernel
theorem dX2_loseOldest_47 : decode cX2_loseOldest 47 = .ok (.return_, 1) := by decide +kernel
theorem dX2_takeLatest_0 : decode cX2_takeLatest 0 = .ok (.aload_n 0, 1) := by decide +kernel
theorem dX2_takeLatest_1 : decode cX2_takeLatest 1 = .ok (.getfield 18, 3) := by decide +kernel
theorem dX2_takeLatest_4 : decode cX2_takeLatest 4 = .ok (.ifCond .gt 5, 3) := by decide +kernel
theorem dX2_takeLatest_7 : decode cX2_takeLatest 7 = .ok (.aconst_null, 1) := by decide +kernel
theorem dX2_takeLatest_8 : decode cX2_takeLatest 8 = .ok (.areturn, 1) := by decide +kernel
theorem dX2_takeLatest_9 : decode cX2_takeLatest 9 = .ok (.aload_n 0, 1) := by decide +kernel
theorem dX2_takeLatest_10 : decode cX2_takeLatest 10 = .ok (.dup, 1) := by decide +kernel
theorem dX2_takeLatest_11 : decode cX2_takeLatest 11 = .ok (.getfield 18, 3) := by decide +kernel
theorem dX2_takeLatest_14 : decode cX2_takeLatest 14 = .ok (.iconst 1, 1) := by decide +kernel
theorem dX2_takeLatest_15 : decode cX2_takeLatest 15 = .ok (.isub, 1) := by decide +kernel
theorem dX2_takeLatest_16 : decode cX2_takeLatest 16 = .ok (.putfield 18, 3) := by decide +kernel
theorem dX2_takeLatest_19 : decode cX2_takeLatest 19 = .ok (.aload_n 0, 1) := by decide +kernel
theorem dX2_takeLatest_20 : decode cX2_takeLatest 20 = .ok (.getfield 11, 3) := by decide +kernel
theorem dX2_takeLatest_23 : decode cX2_takeLatest 23 = .ok (.aload_n 0, 1) := by decide +kernel
theorem dX2_takeLatest_24 : decode cX2_takeLatest 24 = .ok (.getfield 18, 3) := by decide +kernel
theorem dX2_takeLatest_27 : decode cX2_takeLatest 27 = .ok (.aaload, 1) := by decide +kernel
theorem dX2_takeLatest_28 : decode cX2_takeLatest 28 = .ok (.areturn, 1) := by decide +kernel
theorem dX3_init_0 : decode cX3_init 0 = .ok (.aload_n 0, 1) := by decide +kernel
theorem dX3_init_1 : decode cX3_init 1 = .ok (.invokespecial 1, 3) := by decide +kernel
theorem dX3_init_4 : decode cX3_init 4 = .ok (.return_, 1) := by decide +kernel
theorem dX4_init_0 : decode cX4_init 0 = .ok (.aload_n 0, 1) := by decide +kernel
theorem dX4_init_1 : decode cX4_init 1 = .ok (.invokespecial 3, 3) := by decide +kernel
theorem dX4_init_4 : decode cX4_init 4 = .ok (.return_, 1) := by decide +kernel
theorem dX4_firstNow_0 : decode cX4_firstNow 0 = .ok (.aload_n 0, 1) := by decide +kernel
theorem dX4_firstNow_1 : decode cX4_firstNow 1 = .ok (.getfield 9, 3) := by decide +kernel
theorem dX4_firstNow_4 : decode cX4_firstNow 4 = .ok (.aload_n 0, 1) := by decide +kernel
theorem dX4_firstNow_5 : decode cX4_firstNow 5 = .ok (.getfield 15, 3) := by decide +kernel
theorem dX4_firstNow_8 : decode cX4_firstNow 8 = .ok (.iadd, 1) := by decide +kernel
theorem dX4_firstNow_9 : decode cX4_firstNow 9 = .ok (.ireturn, 1) := by decide +kernel
theorem dX4_lastNow_0 : decode cX4_lastNow 0 = .ok (.aload_n 0, 1) := by decide +kernel
theorem dX4_lastNow_1 : decode cX4_lastNow 1 = .ok (.getfield 18, 3) := by decide +kernel
theorem dX4_lastNow_4 : decode cX4_lastNow 4 = .ok (.aload_n 0, 1) := by decide +kernel
theorem dX4_lastNow_5 : decode cX4_lastNow 5 = .ok (.getfield 15, 3) := by decide +kernel
theorem dX4_lastNow_8 : decode cX4_lastNow 8 = .ok (.iadd, 1) := by decide +kernel
theorem dX4_lastNow_9 : decode cX4_lastNow 9 = .ok (.ireturn, 1) := by decide +kernel
theorem dX4_farthestMove_0 : decode cX4_farthestMove 0 = .ok (.bipush 51, 2) := by decide +kernel
theorem dX4_farthestMove_2 : decode cX4_farthestMove 2 = .ok (.aload_n 0, 1) := by decide +kernel
theorem dX4_farthestMove_3 : decode cX4_farthestMove 3 = .ok (.getfield 18, 3) := by decide +kernel
theorem dX4_farthestMove_6 : decode cX4_farthestMove 6 = .ok (.isub, 1) := by decide +kernel
theorem dX4_farthestMove_7 : decode cX4_farthestMove 7 = .ok (.ireturn, 1) := by decide +kernel
theorem dX4_weeksNow_0 : decode cX4_weeksNow 0 = .ok (.aload_n 0, 1) := by decide +kernel
theorem dX4_weeksNow_1 : decode cX4_weeksNow 1 = .ok (.invokevirtual 21, 3) := by decide +kernel
theorem dX4_weeksNow_4 : decode cX4_weeksNow 4 = .ok (.aload_n 0, 1) := by decide +kernel
theorem dX4_weeksNow_5 : decode cX4_weeksNow 5 = .ok (.invokevirtual 25, 3) := by decide +kernel
theorem dX4_weeksNow_8 : decode cX4_weeksNow 8 = .ok (.invokestatic 28, 3) := by decide +kernel
theorem dX4_weeksNow_11 : decode cX4_weeksNow 11 = .ok (.lreturn, 1) := by decide +kernel
theorem dX4_hasCell_0 : decode cX4_hasCell 0 = .ok (.aload_n 0, 1) := by decide +kernel
theorem dX4_hasCell_1 : decode cX4_hasCell 1 = .ok (.getfield 32, 3) := by decide +kernel
theorem dX4_hasCell_4 : decode cX4_hasCell 4 = .ok (.iload_n 1, 1) := by decide +kernel
theorem dX4_hasCell_5 : decode cX4_hasCell 5 = .ok (.invokestatic 35, 3) := by decide +kernel
theorem dX4_hasCell_8 : decode cX4_hasCell 8 = .ok (.invokestatic 39, 3) := by decide +kernel
theorem dX4_hasCell_11 : decode cX4_hasCell 11 = .ok (.ifCond .eq 35, 3) := by decide +kernel
theorem dX4_hasCell_14 : decode cX4_hasCell 14 = .ok (.aload_n 0, 1) := by decide +kernel
theorem dX4_hasCell_15 : decode cX4_hasCell 15 = .ok (.getfield 43, 3) := by decide +kernel
theorem dX4_hasCell_18 : decode cX4_hasCell 18 = .ok (.iload_n 1, 1) := by decide +kernel
theorem dX4_hasCell_19 : decode cX4_hasCell 19 = .ok (.invokestatic 46, 3) := by decide +kernel
theorem dX4_hasCell_22 : decode cX4_hasCell 22 = .ok (.invokestatic 39, 3) := by decide +kernel
theorem dX4_hasCell_25 : decode cX4_hasCell 25 = .ok (.ifCond .eq 21, 3) := by decide +kernel
theorem dX4_hasCell_28 : decode cX4_hasCell 28 = .ok (.aload_n 0, 1) := by decide +kernel
theorem dX4_hasCell_29 : decode cX4_hasCell 29 = .ok (.getfield 49, 3) := by decide +kernel
theorem dX4_hasCell_32 : decode cX4_hasCell 32 = .ok (.iload_n 1, 1) := by decide +kernel
theorem dX4_hasCell_33 : decode cX4_hasCell 33 = .ok (.invokestatic 52, 3) := by decide +kernel
theorem dX4_hasCell_36 : decode cX4_hasCell 36 = .ok (.invokestatic 39, 3) := by decide +kernel
theorem dX4_hasCell_39 : decode cX4_hasCell 39 = .ok (.ifCond .eq 7, 3) := by decide +kernel
theorem dX4_hasCell_42 : decode cX4_hasCell 42 = .ok (.iconst 1, 1) := by decide +kernel
theorem dX4_hasCell_43 : decode cX4_hasCell 43 = .ok (.goto 4, 3) := by decide +kernel
theorem dX4_hasCell_46 : decode cX4_hasCell 46 = .ok (.iconst 0, 1) := by decide +kernel
theorem dX4_hasCell_47 : decode cX4_hasCell 47 = .ok (.ireturn, 1) := by decide +kernel
theorem dX4_commonPoints_0 : decode cX4_commonPoints 0 = .ok (.aload_n 0, 1) := by decide +kernel
theorem dX4_commonPoints_1 : decode cX4_commonPoints 1 = .ok (.getfield 32, 3) := by decide +kernel
theorem dX4_commonPoints_4 : decode cX4_commonPoints 4 = .ok (.aload_n 1, 1) := by decide +kernel
theorem dX4_commonPoints_5 : decode cX4_commonPoints 5 = .ok (.getfield 32, 3) := by decide +kernel
theorem dX4_commonPoints_8 : decode cX4_commonPoints 8 = .ok (.iand, 1) := by decide +kernel
theorem dX4_commonPoints_9 : decode cX4_commonPoints 9 = .ok (.invokestatic 55, 3) := by decide +kernel
theorem dX4_commonPoints_12 : decode cX4_commonPoints 12 = .ok (.aload_n 0, 1) := by decide +kernel
theorem dX4_commonPoints_13 : decode cX4_commonPoints 13 = .ok (.getfield 43, 3) := by decide +kernel
theorem dX4_commonPoints_16 : decode cX4_commonPoints 16 = .ok (.aload_n 1, 1) := by decide +kernel
theorem dX4_commonPoints_17 : decode cX4_commonPoints 17 = .ok (.getfield 43, 3) := by decide +kernel
theorem dX4_commonPoints_20 : decode cX4_commonPoints 20 = .ok (.iand, 1) := by decide +kernel
theorem dX4_commonPoints_21 : decode cX4_commonPoints 21 = .ok (.invokestatic 55, 3) := by decide +kernel
theorem dX4_commonPoints_24 : decode cX4_commonPoints 24 = .ok (.imul, 1) := by decide +kernel
theorem dX4_commonPoints_25 : decode cX4_commonPoints 25 = .ok (.aload_n 0, 1) := by decide +kernel
theorem dX4_commonPoints_26 : decode cX4_commonPoints 26 = .ok (.getfield 49, 3) := by decide +kernel
theorem dX4_commonPoints_29 : decode cX4_commonPoints 29 = .ok (.aload_n 1, 1) := by decide +kernel
theorem dX4_commonPoints_30 : decode cX4_commonPoints 30 = .ok (.getfield 49, 3) := by decide +kernel
theorem dX4_commonPoints_33 : decode cX4_commonPoints 33 = .ok (.iand, 1) := by decide +kernel
theorem dX4_commonPoints_34 : decode cX4_commonPoints 34 = .ok (.invokestatic 55, 3) := by decide +kernel
theorem dX4_commonPoints_37 : decode cX4_commonPoints 37 = .ok (.imul, 1) := by decide +kernel
theorem dX4_commonPoints_38 : decode cX4_commonPoints 38 = .ok (.aload_n 0, 1) := by decide +kernel
theorem dX4_commonPoints_39 : decode cX4_commonPoints 39 = .ok (.invokevirtual 60, 3) := by decide +kernel
theorem dX4_commonPoints_42 : decode cX4_commonPoints 42 = .ok (.aload_n 1, 1) := by decide +kernel
theorem dX4_commonPoints_43 : decode cX4_commonPoints 43 = .ok (.invokevirtual 60, 3) := by decide +kernel
theorem dX4_commonPoints_46 : decode cX4_commonPoints 46 = .ok (.land, 1) := by decide +kernel
theorem dX4_commonPoints_47 : decode cX4_commonPoints 47 = .ok (.invokestatic 64, 3) := by decide +kernel
theorem dX4_commonPoints_50 : decode cX4_commonPoints 50 = .ok (.imul, 1) := by decide +kernel
theorem dX4_commonPoints_51 : decode cX4_commonPoints 51 = .ok (.ireturn, 1) := by decide +kernel
theorem dX4_meets_0 : decode cX4_meets 0 = .ok (.aload_n 0, 1) := by decide +kernel
theorem dX4_meets_1 : decode cX4_meets 1 = .ok (.getfield 32, 3) := by decide +kernel
theorem dX4_meets_4 : decode cX4_meets 4 = .ok (.aload_n 1, 1) := by decide +kernel
theorem dX4_meets_5 : decode cX4_meets 5 = .ok (.getfield 32, 3) := by decide +kernel
theorem dX4_meets_8 : decode cX4_meets 8 = .ok (.iand, 1) := by decide +kernel
theorem dX4_meets_9 : decode cX4_meets 9 = .ok (.ifCond .eq 53, 3) := by decide +kernel
theorem dX4_meets_12 : decode cX4_meets 12 = .ok (.aload_n 0, 1) := by decide +kernel
theorem dX4_meets_13 : decode cX4_meets 13 = .ok (.getfield 43, 3) := by decide +kernel
theorem dX4_meets_16 : decode cX4_meets 16 = .ok (.aload_n 1, 1) := by decide +kernel
theorem dX4_meets_17 : decode cX4_meets 17 = .ok (.getfield 43, 3) := by decide +kernel
theorem dX4_meets_20 : decode cX4_meets 20 = .ok (.iand, 1) := by decide +kernel
theorem dX4_meets_21 : decode cX4_meets 21 = .ok (.ifCond .eq 41, 3) := by decide +kernel
theorem dX4_meets_24 : decode cX4_meets 24 = .ok (.aload_n 0, 1) := by decide +kernel
theorem dX4_meets_25 : decode cX4_meets 25 = .ok (.getfield 49, 3) := by decide +kernel
theorem dX4_meets_28 : decode cX4_meets 28 = .ok (.aload_n 1, 1) := by decide +kernel
theorem dX4_meets_29 : decode cX4_meets 29 = .ok (.getfield 49, 3) := by decide +kernel
theorem dX4_meets_32 : decode cX4_meets 32 = .ok (.iand, 1) := by decide +kernel
theorem dX4_meets_33 : decode cX4_meets 33 = .ok (.ifCond .eq 29, 3) := by decide +kernel
theorem dX4_meets_36 : decode cX4_meets 36 = .ok (.aload_n 0, 1) := by decide +kernel
theorem dX4_meets_37 : decode cX4_meets 37 = .ok (.invokevirtual 21, 3) := by decide +kernel
theorem dX4_meets_40 : decode cX4_meets 40 = .ok (.aload_n 1, 1) := by decide +kernel
theorem dX4_meets_41 : decode cX4_meets 41 = .ok (.invokevirtual 25, 3) := by decide +kernel
theorem dX4_meets_44 : decode cX4_meets 44 = .ok (.if_icmp .gt 18, 3) := by decide +kernel
theorem dX4_meets_47 : decode cX4_meets 47 = .ok (.aload_n 1, 1) := by decide +kernel
theorem dX4_meets_48 : decode cX4_meets 48 = .ok (.invokevirtual 21, 3) := by decide +kernel
theorem dX4_meets_51 : decode cX4_meets 51 = .ok (.aload_n 0, 1) := by decide +kernel
theorem dX4_meets_52 : decode cX4_meets 52 = .ok (.invokevirtual 25, 3) := by decide +kernel
theorem dX4_meets_55 : decode cX4_meets 55 = .ok (.if_icmp .gt 7, 3) := by decide +kernel
theorem dX4_meets_58 : decode cX4_meets 58 = .ok (.iconst 1, 1) := by decide +kernel
theorem dX4_meets_59 : decode cX4_meets 59 = .ok (.goto 4, 3) := by decide +kernel
theorem dX4_meets_62 : decode cX4_meets 62 = .ok (.iconst 0, 1) := by decide +kernel
theorem dX4_meets_63 : decode cX4_meets 63 = .ok (.ireturn, 1) := by decide +kernel
theorem dX4_clashesWith_0 : decode cX4_clashesWith 0 = .ok (.aload_n 0, 1) := by decide +kernel
theorem dX4_clashesWith_1 : decode cX4_clashesWith 1 = .ok (.getfield 69, 3) := by decide +kernel
theorem dX4_clashesWith_4 : decode cX4_clashesWith 4 = .ok (.ifCond .ne 10, 3) := by decide +kernel
theorem dX4_clashesWith_7 : decode cX4_clashesWith 7 = .ok (.aload_n 1, 1) := by decide +kernel
theorem dX4_clashesWith_8 : decode cX4_clashesWith 8 = .ok (.getfield 69, 3) := by decide +kernel
theorem dX4_clashesWith_11 : decode cX4_clashesWith 11 = .ok (.ifCond .eq 15, 3) := by decide +kernel
theorem dX4_clashesWith_14 : decode cX4_clashesWith 14 = .ok (.aload_n 0, 1) := by decide +kernel
theorem dX4_clashesWith_15 : decode cX4_clashesWith 15 = .ok (.aload_n 1, 1) := by decide +kernel
theorem dX4_clashesWith_16 : decode cX4_clashesWith 16 = .ok (.invokevirtual 73, 3) := by decide +kernel
theorem dX4_clashesWith_19 : decode cX4_clashesWith 19 = .ok (.ifCond .eq 7, 3) := by decide +kernel
theorem dX4_clashesWith_22 : decode cX4_clashesWith 22 = .ok (.iconst 1, 1) := by decide +kernel
theorem dX4_clashesWith_23 : decode cX4_clashesWith 23 = .ok (.goto 4, 3) := by decide +kernel
theorem dX4_clashesWith_26 : decode cX4_clashesWith 26 = .ok (.iconst 0, 1) := by decide +kernel
theorem dX4_clashesWith_27 : decode cX4_clashesWith 27 = .ok (.ireturn, 1) := by decide +kernel
theorem dX5_init_0 : decode cX5_init 0 = .ok (.aload_n 0, 1) := by decide +kernel
theorem dX5_init_1 : decode cX5_init 1 = .ok (.invokespecial 3, 3) := by decide +kernel
theorem dX5_init_4 : decode cX5_init 4 = .ok (.aload_n 0, 1) := by decide +kernel
theorem dX5_init_5 : decode cX5_init 5 = .ok (.bipush 7, 2) := by decide +kernel
theorem dX5_init_7 : decode cX5_init 7 = .ok (.newarray .int, 2) := by decide +kernel
theorem dX5_init_9 : decode cX5_init 9 = .ok (.putfield 9, 3) := by decide +kernel
theorem dX5_init_12 : decode cX5_init 12 = .ok (.return_, 1) := by decide +kernel
theorem dX5_readInto_0 : decode cX5_readInto 0 = .ok (.aload_n 1, 1) := by decide +kernel
theorem dX5_readInto_1 : decode cX5_readInto 1 = .ok (.invokevirtual 15, 3) := by decide +kernel
theorem dX5_readInto_4 : decode cX5_readInto 4 = .ok (.iconst 0, 1) := by decide +kernel
theorem dX5_readInto_5 : decode cX5_readInto 5 = .ok (.istore 4, 2) := by decide +kernel
theorem dX5_readInto_7 : decode cX5_readInto 7 = .ok (.iconst 0, 1) := by decide +kernel
theorem dX5_readInto_8 : decode cX5_readInto 8 = .ok (.istore 5, 2) := by decide +kernel
theorem dX5_readInto_10 : decode cX5_readInto 10 = .ok (.iload 5, 2) := by decide +kernel
theorem dX5_readInto_12 : decode cX5_readInto 12 = .ok (.iload_n 3, 1) := by decide +kernel
theorem dX5_readInto_13 : decode cX5_readInto 13 = .ok (.if_icmp .ge 40, 3) := by decide +kernel
theorem dX5_readInto_16 : decode cX5_readInto 16 = .ok (.aload_n 2, 1) := by decide +kernel
theorem dX5_readInto_17 : decode cX5_readInto 17 = .ok (.iload 5, 2) := by decide +kernel
theorem dX5_readInto_19 : decode cX5_readInto 19 = .ok (.caload, 1) := by decide +kernel
theorem dX5_readInto_20 : decode cX5_readInto 20 = .ok (.bipush 59, 2) := by decide +kernel
theorem dX5_readInto_22 : decode cX5_readInto 22 = .ok (.if_icmp .ne 25, 3) := by decide +kernel
theorem dX5_readInto_25 : decode cX5_readInto 25 = .ok (.aload_n 0, 1) := by decide +kernel
theorem dX5_readInto_26 : decode cX5_readInto 26 = .ok (.aload_n 1, 1) := by decide +kernel
theorem dX5_readInto_27 : decode cX5_readInto 27 = .ok (.aload_n 2, 1) := by decide +kernel
theorem dX5_readInto_28 : decode cX5_readInto 28 = .ok (.iload 4, 2) := by decide +kernel
theorem dX5_readInto_30 : decode cX5_readInto 30 = .ok (.iload 5, 2) := by decide +kernel
theorem dX5_readInto_32 : decode cX5_readInto 32 = .ok (.invokevirtual 20, 3) := by decide +kernel
theorem dX5_readInto_35 : decode cX5_readInto 35 = .ok (.ifCond .ne 6, 3) := by decide +kernel
theorem dX5_readInto_38 : decode cX5_readInto 38 = .ok (.iload 4, 2) := by decide +kernel
theorem dX5_readInto_40 : decode cX5_readInto 40 = .ok (.ireturn, 1) := by decide +kernel
theorem dX5_readInto_41 : decode cX5_readInto 41 = .ok (.iload 5, 2) := by decide +kernel
theorem dX5_readInto_43 : decode cX5_readInto 43 = .ok (.iconst 1, 1) := by decide +kernel
theorem dX5_readInto_44 : decode cX5_readInto 44 = .ok (.iadd, 1) := by decide +kernel
theorem dX5_readInto_45 : decode cX5_readInto 45 = .ok (.istore 4, 2) := by decide +kernel
theorem dX5_readInto_47 : decode cX5_readInto 47 = .ok (.iinc 5 1, 3) := by decide +kernel
theorem dX5_readInto_50 : decode cX5_readInto 50 = .ok (.goto (-40), 3) := by decide +kernel
theorem dX5_readInto_53 : decode cX5_readInto 53 = .ok (.iload 4, 2) := by decide +kernel
theorem dX5_readInto_55 : decode cX5_readInto 55 = .ok (.iload_n 3, 1) := by decide +kernel
theorem dX5_readInto_56 : decode cX5_readInto 56 = .ok (.if_icmp .ge 8, 3) := by decide +kernel
theorem dX5_readInto_59 : decode cX5_readInto 59 = .ok (.iload 4, 2) := by decide +kernel
theorem dX5_readInto_61 : decode cX5_readInto 61 = .ok (.goto 5, 3) := by decide +kernel
theorem dX5_readInto_64 : decode cX5_readInto 64 = .ok (.bipush (-4), 2) := by decide +kernel
theorem dX5_readInto_66 : decode cX5_readInto 66 = .ok (.ireturn, 1) := by decide +kernel
theorem dX5_readItem_0 : decode cX5_readItem 0 = .ok (.aload_n 2, 1) := by decide +kernel
theorem dX5_readItem_1 : decode cX5_readItem 1 = .ok (.iload_n 3, 1) := by decide +kernel
theorem dX5_readItem_2 : decode cX5_readItem 2 = .ok (.caload, 1) := by decide +kernel
theorem dX5_readItem_3 : decode cX5_readItem 3 = .ok (.istore 5, 2) := by decide +kernel
theorem dX5_readItem_5 : decode cX5_readItem 5 = .ok (.aload_n 0, 1) := by decide +kernel
theorem dX5_readItem_6 : decode cX5_readItem 6 = .ok (.aload_n 2, 1) := by decide +kernel
theorem dX5_readItem_7 : decode cX5_readItem 7 = .ok (.iload_n 3, 1) := by decide +kernel
theorem dX5_readItem_8 : decode cX5_readItem 8 = .ok (.iconst 1, 1) := by decide +kernel
theorem dX5_readItem_9 : decode cX5_readItem 9 = .ok (.iadd, 1) := by decide +kernel
theorem dX5_readItem_10 : decode cX5_readItem 10 = .ok (.iload 4, 2) := by decide +kernel
theorem dX5_readItem_12 : decode cX5_readItem 12 = .ok (.invokevirtual 24, 3) := by decide +kernel
theorem dX5_readItem_15 : decode cX5_readItem 15 = .ok (.istore 6, 2) := by decide +kernel
theorem dX5_readItem_17 : decode cX5_readItem 17 = .ok (.iload 5, 2) := by decide +kernel
theorem dX5_readItem_19 : decode cX5_readItem 19 = .ok (.bipush 116, 2) := by decide +kernel
theorem dX5_readItem_21 : decode cX5_readItem 21 = .ok (.if_icmp .ne 34, 3) := by decide +kernel
theorem dX5_readItem_24 : decode cX5_readItem 24 = .ok (.iload 6, 2) := by decide +kernel
theorem dX5_readItem_26 : decode cX5_readItem 26 = .ok (.iconst 2, 1) := by decide +kernel
theorem dX5_readItem_27 : decode cX5_readItem 27 = .ok (.if_icmp .ne 26, 3) := by decide +kernel
theorem dX5_readItem_30 : decode cX5_readItem 30 = .ok (.aload_n 1, 1) := by decide +kernel
theorem dX5_readItem_31 : decode cX5_readItem 31 = .ok (.aload_n 0, 1) := by decide +kernel
theorem dX5_readItem_32 : decode cX5_readItem 32 = .ok (.getfield 9, 3) := by decide +kernel
theorem dX5_readItem_35 : decode cX5_readItem 35 = .ok (.iconst 0, 1) := by decide +kernel
theorem dX5_readItem_36 : decode cX5_readItem 36 = .ok (.iaload, 1) := by decide +kernel
theorem dX5_readItem_37 : decode cX5_readItem 37 = .ok (.aload_n 0, 1) := by decide +kernel
theorem dX5_readItem_38 : decode cX5_readItem 38 = .ok (.getfield 9, 3) := by decide +kernel
theorem dX5_readItem_41 : decode cX5_readItem 41 = .ok (.iconst 1, 1) := by decide +kernel
theorem dX5_readItem_42 : decode cX5_readItem 42 = .ok (.iaload, 1) := by decide +kernel
theorem dX5_readItem_43 : decode cX5_readItem 43 = .ok (.invokevirtual 28, 3) := by decide +kernel
theorem dX5_readItem_46 : decode cX5_readItem 46 = .ok (.ifCond .eq 7, 3) := by decide +kernel
theorem dX5_readItem_49 : decode cX5_readItem 49 = .ok (.iconst 1, 1) := by decide +kernel
theorem dX5_readItem_50 : decode cX5_readItem 50 = .ok (.goto 4, 3) := by decide +kernel
theorem dX5_readItem_53 : decode cX5_readItem 53 = .ok (.iconst 0, 1) := by decide +kernel
theorem dX5_readItem_54 : decode cX5_readItem 54 = .ok (.ireturn, 1) := by decide +kernel
theorem dX5_readItem_55 : decode cX5_readItem 55 = .ok (.iload 5, 2) := by decide +kernel
theorem dX5_readItem_57 : decode cX5_readItem 57 = .ok (.bipush 111, 2) := by decide +kernel
theorem dX5_readItem_59 : decode cX5_readItem 59 = .ok (.if_icmp .ne 27, 3) := by decide +kernel
theorem dX5_readItem_62 : decode cX5_readItem 62 = .ok (.iload 6, 2) := by decide +kernel
theorem dX5_readItem_64 : decode cX5_readItem 64 = .ok (.bipush 7, 2) := by decide +kernel
theorem dX5_readItem_66 : decode cX5_readItem 66 = .ok (.if_icmp .ne 18, 3) := by decide +kernel
theorem dX5_readItem_69 : decode cX5_readItem 69 = .ok (.aload_n 1, 1) := by decide +kernel
theorem dX5_readItem_70 : decode cX5_readItem 70 = .ok (.aload_n 0, 1) := by decide +kernel
theorem dX5_readItem_71 : decode cX5_readItem 71 = .ok (.getfield 9, 3) := by decide +kernel
theorem dX5_readItem_74 : decode cX5_readItem 74 = .ok (.invokevirtual 32, 3) := by decide +kernel
theorem dX5_readItem_77 : decode cX5_readItem 77 = .ok (.ifCond .eq 7, 3) := by decide +kernel
theorem dX5_readItem_80 : decode cX5_readItem 80 = .ok (.iconst 1, 1) := by decide +kernel
theorem dX5_readItem_81 : decode cX5_readItem 81 = .ok (.goto 4, 3) := by decide +kernel
theorem dX5_readItem_84 : decode cX5_readItem 84 = .ok (.iconst 0, 1) := by decide +kernel
theorem dX5_readItem_85 : decode cX5_readItem 85 = .ok (.ireturn, 1) := by decide +kernel
theorem dX5_readItem_86 : decode cX5_readItem 86 = .ok (.iload 5, 2) := by decide +kernel
theorem dX5_readItem_88 : decode cX5_readItem 88 = .ok (.bipush 104, 2) := by decide +kernel
theorem dX5_readItem_90 : decode cX5_readItem 90 = .ok (.if_icmp .ne 40, 3) := by decide +kernel
theorem dX5_readItem_93 : decode cX5_readItem 93 = .ok (.iload 6, 2) := by decide +kernel
theorem dX5_readItem_95 : decode cX5_readItem 95 = .ok (.iconst 3, 1) := by decide +kernel
theorem dX5_readItem_96 : decode cX5_readItem 96 = .ok (.if_icmp .ne 32, 3) := by decide +kernel
theorem dX5_readItem_99 : decode cX5_readItem 99 = .ok (.aload_n 1, 1) := by decide +kernel
theorem dX5_readItem_100 : decode cX5_readItem 100 = .ok (.aload_n 0, 1) := by decide +kernel
theorem dX5_readItem_101 : decode cX5_readItem 101 = .ok (.getfield 9, 3) := by decide +kernel
theorem dX5_readItem_104 : decode cX5_readItem 104 = .ok (.iconst 0, 1) := by decide +kernel
theorem dX5_readItem_105 : decode cX5_readItem 105 = .ok (.iaload, 1) := by decide +kernel
theorem dX5_readItem_106 : decode cX5_readItem 106 = .ok (.aload_n 0, 1) := by decide +kernel
theorem dX5_readItem_107 : decode cX5_readItem 107 = .ok (.getfield 9, 3) := by decide +kernel
theorem dX5_readItem_110 : decode cX5_readItem 110 = .ok (.iconst 1, 1) := by decide +kernel
theorem dX5_readItem_111 : decode cX5_readItem 111 = .ok (.iaload, 1) := by decide +kernel
theorem dX5_readItem_112 : decode cX5_readItem 112 = .ok (.aload_n 0, 1) := by decide +kernel
theorem dX5_readItem_113 : decode cX5_readItem 113 = .ok (.getfield 9, 3) := by decide +kernel
theorem dX5_readItem_116 : decode cX5_readItem 116 = .ok (.iconst 2, 1) := by decide +kernel
theorem dX5_readItem_117 : decode cX5_readItem 117 = .ok (.iaload, 1) := by decide +kernel
theorem dX5_readItem_118 : decode cX5_readItem 118 = .ok (.invokevirtual 36, 3) := by decide +kernel
theorem dX5_readItem_121 : decode cX5_readItem 121 = .ok (.ifCond .eq 7, 3) := by decide +kernel
theorem dX5_readItem_124 : decode cX5_readItem 124 = .ok (.iconst 1, 1) := by decide +kernel
theorem dX5_readItem_125 : decode cX5_readItem 125 = .ok (.goto 4, 3) := by decide +kernel
theorem dX5_readItem_128 : decode cX5_readItem 128 = .ok (.iconst 0, 1) := by decide +kernel
theorem dX5_readItem_129 : decode cX5_readItem 129 = .ok (.ireturn, 1) := by decide +kernel
theorem dX5_readItem_130 : decode cX5_readItem 130 = .ok (.iconst 0, 1) := by decide +kernel
theorem dX5_readItem_131 : decode cX5_readItem 131 = .ok (.ireturn, 1) := by decide +kernel
theorem dX5_readNumbers_0 : decode cX5_readNumbers 0 = .ok (.iconst 0, 1) := by decide +kernel
theorem dX5_readNumbers_1 : decode cX5_readNumbers 1 = .ok (.istore 4, 2) := by decide +kernel
theorem dX5_readNumbers_3 : decode cX5_readNumbers 3 = .ok (.iconst 0, 1) := by decide +kernel
theorem dX5_readNumbers_4 : decode cX5_readNumbers 4 = .ok (.istore 5, 2) := by decide +kernel
theorem dX5_readNumbers_6 : decode cX5_readNumbers 6 = .ok (.iconst 0, 1) := by decide +kernel
theorem dX5_readNumbers_7 : decode cX5_readNumbers 7 = .ok (.istore 6, 2) := by decide +kernel
theorem dX5_readNumbers_9 : decode cX5_readNumbers 9 = .ok (.iload_n 2, 1) := by decide +kernel
theorem dX5_readNumbers_10 : decode cX5_readNumbers 10 = .ok (.istore 7, 2) := by decide +kernel
theorem dX5_readNumbers_12 : decode cX5_readNumbers 12 = .ok (.iload 7, 2) := by decide +kernel
theorem dX5_readNumbers_14 : decode cX5_readNumbers 14 = .ok (.iload_n 3, 1) := by decide +kernel
theorem dX5_readNumbers_15 : decode cX5_readNumbers 15 = .ok (.if_icmp .ge 96, 3) := by decide +kernel
theorem dX5_readNumbers_18 : decode cX5_readNumbers 18 = .ok (.aload_n 1, 1) := by decide +kernel
theorem dX5_readNumbers_19 : decode cX5_readNumbers 19 = .ok (.iload 7, 2) := by decide +kernel
theorem dX5_readNumbers_21 : decode cX5_readNumbers 21 = .ok (.caload, 1) := by decide +kernel
theorem dX5_readNumbers_22 : decode cX5_readNumbers 22 = .ok (.istore 8, 2) := by decide +kernel
theorem dX5_readNumbers_24 : decode cX5_readNumbers 24 = .ok (.iload 8, 2) := by decide +kernel
theorem dX5_readNumbers_26 : decode cX5_readNumbers 26 = .ok (.bipush 48, 2) := by decide +kernel
theorem dX5_readNumbers_28 : decode cX5_readNumbers 28 = .ok (.if_icmp .lt 35, 3) := by decide +kernel
theorem dX5_readNumbers_31 : decode cX5_readNumbers 31 = .ok (.iload 8, 2) := by decide +kernel
theorem dX5_readNumbers_33 : decode cX5_readNumbers 33 = .ok (.bipush 57, 2) := by decide +kernel
theorem dX5_readNumbers_35 : decode cX5_readNumbers 35 = .ok (.if_icmp .gt 28, 3) := by decide +kernel
theorem dX5_readNumbers_38 : decode cX5_readNumbers 38 = .ok (.iload 5, 2) := by decide +kernel
theorem dX5_readNumbers_40 : decode cX5_readNumbers 40 = .ok (.iconst 2, 1) := by decide +kernel
theorem dX5_readNumbers_41 : decode cX5_readNumbers 41 = .ok (.if_icmp .ge 22, 3) := by decide +kernel
theorem dX5_readNumbers_44 : decode cX5_readNumbers 44 = .ok (.iload 6, 2) := by decide +kernel
theorem dX5_readNumbers_46 : decode cX5_readNumbers 46 = .ok (.bipush 10, 2) := by decide +kernel
theorem dX5_readNumbers_48 : decode cX5_readNumbers 48 = .ok (.imul, 1) := by decide +kernel
theorem dX5_readNumbers_49 : decode cX5_readNumbers 49 = .ok (.iload 8, 2) := by decide +kernel
theorem dX5_readNumbers_51 : decode cX5_readNumbers 51 = .ok (.bipush 48, 2) := by decide +kernel
theorem dX5_readNumbers_53 : decode cX5_readNumbers 53 = .ok (.isub, 1) := by decide +kernel
theorem dX5_readNumbers_54 : decode cX5_readNumbers 54 = .ok (.iadd, 1) := by decide +kernel
theorem dX5_readNumbers_55 : decode cX5_readNumbers 55 = .ok (.istore 6, 2) := by decide +kernel
theorem dX5_readNumbers_57 : decode cX5_readNumbers 57 = .ok (.iinc 5 1, 3) := by decide +kernel
theorem dX5_readNumbers_60 : decode cX5_readNumbers 60 = .ok (.goto 45, 3) := by decide +kernel
theorem dX5_readNumbers_63 : decode cX5_readNumbers 63 = .ok (.iload 8, 2) := by decide +kernel
theorem dX5_readNumbers_65 : decode cX5_readNumbers 65 = .ok (.bipush 44, 2) := by decide +kernel
theorem dX5_readNumbers_67 : decode cX5_readNumbers 67 = .ok (.if_icmp .ne 36, 3) := by decide +kernel
theorem dX5_readNumbers_70 : decode cX5_readNumbers 70 = .ok (.iload 5, 2) := by decide +kernel
theorem dX5_readNumbers_72 : decode cX5_readNumbers 72 = .ok (.ifCond .le 31, 3) := by decide +kernel
theorem dX5_readNumbers_75 : decode cX5_readNumbers 75 = .ok (.iload 4, 2) := by decide +kernel
theorem dX5_readNumbers_77 : decode cX5_readNumbers 77 = .ok (.bipush 6, 2) := by decide +kernel
theorem dX5_readNumbers_79 : decode cX5_readNumbers 79 = .ok (.if_icmp .ge 24, 3) := by decide +kernel
theorem dX5_readNumbers_82 : decode cX5_readNumbers 82 = .ok (.aload_n 0, 1) := by decide +kernel
theorem dX5_readNumbers_83 : decode cX5_readNumbers 83 = .ok (.getfield 9, 3) := by decide +kernel
theorem dX5_readNumbers_86 : decode cX5_readNumbers 86 = .ok (.iload 4, 2) := by decide +kernel
theorem dX5_readNumbers_88 : decode cX5_readNumbers 88 = .ok (.iload 6, 2) := by decide +kernel
theorem dX5_readNumbers_90 : decode cX5_readNumbers 90 = .ok (.iastore, 1) := by decide +kernel
theorem dX5_readNumbers_91 : decode cX5_readNumbers 91 = .ok (.iinc 4 1, 3) := by decide +kernel
theorem dX5_readNumbers_94 : decode cX5_readNumbers 94 = .ok (.iconst 0, 1) := by decide +kernel
theorem dX5_readNumbers_95 : decode cX5_readNumbers 95 = .ok (.istore 5, 2) := by decide +kernel
theorem dX5_readNumbers_97 : decode cX5_readNumbers 97 = .ok (.iconst 0, 1) := by decide +kernel
theorem dX5_readNumbers_98 : decode cX5_readNumbers 98 = .ok (.istore 6, 2) := by decide +kernel
theorem dX5_readNumbers_100 : decode cX5_readNumbers 100 = .ok (.goto 5, 3) := by decide +kernel
theorem dX5_readNumbers_103 : decode cX5_readNumbers 103 = .ok (.iconst 0, 1) := by decide +kernel
theorem dX5_readNumbers_104 : decode cX5_readNumbers 104 = .ok (.ireturn, 1) := by decide +kernel
theorem dX5_readNumbers_105 : decode cX5_readNumbers 105 = .ok (.iinc 7 1, 3) := by decide +kernel
theorem dX5_readNumbers_108 : decode cX5_readNumbers 108 = .ok (.goto (-96), 3) := by decide +kernel
theorem dX5_readNumbers_111 : decode cX5_readNumbers 111 = .ok (.iload 5, 2) := by decide +kernel
theorem dX5_readNumbers_113 : decode cX5_readNumbers 113 = .ok (.ifCond .ne 5, 3) := by decide +kernel
theorem dX5_readNumbers_116 : decode cX5_readNumbers 116 = .ok (.iconst 0, 1) := by decide +kernel
theorem dX5_readNumbers_117 : decode cX5_readNumbers 117 = .ok (.ireturn, 1) := by decide +kernel
theorem dX5_readNumbers_118 : decode cX5_readNumbers 118 = .ok (.aload_n 0, 1) := by decide +kernel
theorem dX5_readNumbers_119 : decode cX5_readNumbers 119 = .ok (.getfield 9, 3) := by decide +kernel
theorem dX5_readNumbers_122 : decode cX5_readNumbers 122 = .ok (.iload 4, 2) := by decide +kernel
theorem dX5_readNumbers_124 : decode cX5_readNumbers 124 = .ok (.iload 6, 2) := by decide +kernel
theorem dX5_readNumbers_126 : decode cX5_readNumbers 126 = .ok (.iastore, 1) := by decide +kernel
theorem dX5_readNumbers_127 : decode cX5_readNumbers 127 = .ok (.iload 4, 2) := by decide +kernel
theorem dX5_readNumbers_129 : decode cX5_readNumbers 129 = .ok (.iconst 1, 1) := by decide +kernel
theorem dX5_readNumbers_130 : decode cX5_readNumbers 130 = .ok (.iadd, 1) := by decide +kernel
theorem dX5_readNumbers_131 : decode cX5_readNumbers 131 = .ok (.ireturn, 1) := by decide +kernel
theorem dX6_init_0 : decode cX6_init 0 = .ok (.aload_n 0, 1) := by decide +kernel
theorem dX6_init_1 : decode cX6_init 1 = .ok (.invokespecial 3, 3) := by decide +kernel
theorem dX6_init_4 : decode cX6_init 4 = .ok (.aload_n 0, 1) := by decide +kernel
theorem dX6_init_5 : decode cX6_init 5 = .ok (.sipush 200, 3) := by decide +kernel
theorem dX6_init_8 : decode cX6_init 8 = .ok (.newarray .char, 2) := by decide +kernel
theorem dX6_init_10 : decode cX6_init 10 = .ok (.putfield 9, 3) := by decide +kernel
theorem dX6_init_13 : decode cX6_init 13 = .ok (.aload_n 0, 1) := by decide +kernel
theorem dX6_init_14 : decode cX6_init 14 = .ok (.new 13, 3) := by decide +kernel
theorem dX6_init_17 : decode cX6_init 17 = .ok (.dup, 1) := by decide +kernel
theorem dX6_init_18 : decode cX6_init 18 = .ok (.invokespecial 15, 3) := by decide +kernel
theorem dX6_init_21 : decode cX6_init 21 = .ok (.putfield 16, 3) := by decide +kernel
theorem dX6_init_24 : decode cX6_init 24 = .ok (.aload_n 0, 1) := by decide +kernel
theorem dX6_init_25 : decode cX6_init 25 = .ok (.new 20, 3) := by decide +kernel
theorem dX6_init_28 : decode cX6_init 28 = .ok (.dup, 1) := by decide +kernel
theorem dX6_init_29 : decode cX6_init 29 = .ok (.invokespecial 22, 3) := by decide +kernel
theorem dX6_init_32 : decode cX6_init 32 = .ok (.putfield 23, 3) := by decide +kernel
theorem dX6_init_35 : decode cX6_init 35 = .ok (.aload_n 0, 1) := by decide +kernel
theorem dX6_init_36 : decode cX6_init 36 = .ok (.new 20, 3) := by decide +kernel
theorem dX6_init_39 : decode cX6_init 39 = .ok (.dup, 1) := by decide +kernel
theorem dX6_init_40 : decode cX6_init 40 = .ok (.invokespecial 22, 3) := by decide +kernel
theorem dX6_init_43 : decode cX6_init 43 = .ok (.putfield 27, 3) := by decide +kernel
theorem dX6_init_46 : decode cX6_init 46 = .ok (.aload_n 0, 1) := by decide +kernel
theorem dX6_init_47 : decode cX6_init 47 = .ok (.new 30, 3) := by decide +kernel
theorem dX6_init_50 : decode cX6_init 50 = .ok (.dup, 1) := by decide +kernel
theorem dX6_init_51 : decode cX6_init 51 = .ok (.invokespecial 32, 3) := by decide +kernel
theorem dX6_init_54 : decode cX6_init 54 = .ok (.putfield 33, 3) := by decide +kernel
theorem dX6_init_57 : decode cX6_init 57 = .ok (.iconst 0, 1) := by decide +kernel
theorem dX6_init_58 : decode cX6_init 58 = .ok (.istore_n 1, 1) := by decide +kernel
theorem dX6_init_59 : decode cX6_init 59 = .ok (.iload_n 1, 1) := by decide +kernel
theorem dX6_init_60 : decode cX6_init 60 = .ok (.ldc 37, 2) := by decide +kernel
theorem dX6_init_62 : decode cX6_init 62 = .ok (.invokevirtual 39, 3) := by decide +kernel
theorem dX6_init_65 : decode cX6_init 65 = .ok (.if_icmp .ge 35, 3) := by decide +kernel
theorem dX6_init_68 : decode cX6_init 68 = .ok (.iload_n 1, 1) := by decide +kernel
theorem dX6_init_69 : decode cX6_init 69 = .ok (.sipush 200, 3) := by decide +kernel
theorem dX6_init_72 : decode cX6_init 72 = .ok (.if_icmp .ge 28, 3) := by decide +kernel
theorem dX6_init_75 : decode cX6_init 75 = .ok (.aload_n 0, 1) := by decide +kernel
theorem dX6_init_76 : decode cX6_init 76 = .ok (.getfield 9, 3) := by decide +kernel
theorem dX6_init_79 : decode cX6_init 79 = .ok (.iload_n 1, 1) := by decide +kernel
theorem dX6_init_80 : decode cX6_init 80 = .ok (.ldc 37, 2) := by decide +kernel
theorem dX6_init_82 : decode cX6_init 82 = .ok (.iload_n 1, 1) := by decide +kernel
theorem dX6_init_83 : decode cX6_init 83 = .ok (.invokevirtual 45, 3) := by decide +kernel
theorem dX6_init_86 : decode cX6_init 86 = .ok (.castore, 1) := by decide +kernel
theorem dX6_init_87 : decode cX6_init 87 = .ok (.aload_n 0, 1) := by decide +kernel
theorem dX6_init_88 : decode cX6_init 88 = .ok (.iload_n 1, 1) := by decide +kernel
theorem dX6_init_89 : decode cX6_init 89 = .ok (.iconst 1, 1) := by decide +kernel
theorem dX6_init_90 : decode cX6_init 90 = .ok (.iadd, 1) := by decide +kernel
theorem dX6_init_91 : decode cX6_init 91 = .ok (.putfield 49, 3) := by decide +kernel
theorem dX6_init_94 : decode cX6_init 94 = .ok (.iinc 1 1, 3) := by decide +kernel
theorem dX6_init_97 : decode cX6_init 97 = .ok (.goto (-38), 3) := by decide +kernel
theorem dX6_init_100 : decode cX6_init 100 = .ok (.aload_n 0, 1) := by decide +kernel
theorem dX6_init_101 : decode cX6_init 101 = .ok (.invokevirtual 53, 3) := by decide +kernel
theorem dX6_init_104 : decode cX6_init 104 = .ok (.pop, 1) := by decide +kernel
theorem dX6_init_105 : decode cX6_init 105 = .ok (.aload_n 0, 1) := by decide +kernel
theorem dX6_init_106 : decode cX6_init 106 = .ok (.iconst 0, 1) := by decide +kernel
theorem dX6_init_107 : decode cX6_init 107 = .ok (.putfield 49, 3) := by decide +kernel
theorem dX6_init_110 : decode cX6_init 110 = .ok (.return_, 1) := by decide +kernel
theorem dX6_write_0 : decode cX6_write 0 = .ok (.iload_n 1, 1) := by decide +kernel
theorem dX6_write_1 : decode cX6_write 1 = .ok (.bipush 32, 2) := by decide +kernel
theorem dX6_write_3 : decode cX6_write 3 = .ok (.if_icmp .lt 9, 3) := by decide +kernel
theorem dX6_write_6 : decode cX6_write 6 = .ok (.iload_n 1, 1) := by decide +kernel
theorem dX6_write_7 : decode cX6_write 7 = .ok (.bipush 126, 2) := by decide +kernel
theorem dX6_write_9 : decode cX6_write 9 = .ok (.if_icmp .le 5, 3) := by decide +kernel
theorem dX6_write_12 : decode cX6_write 12 = .ok (.iconst (-1), 1) := by decide +kernel
theorem dX6_write_13 : decode cX6_write 13 = .ok (.ireturn, 1) := by decide +kernel
theorem dX6_write_14 : decode cX6_write 14 = .ok (.aload_n 0, 1) := by decide +kernel
theorem dX6_write_15 : decode cX6_write 15 = .ok (.getfield 49, 3) := by decide +kernel
theorem dX6_write_18 : decode cX6_write 18 = .ok (.sipush 200, 3) := by decide +kernel
theorem dX6_write_21 : decode cX6_write 21 = .ok (.if_icmp .lt 6, 3) := by decide +kernel
theorem dX6_write_24 : decode cX6_write 24 = .ok (.bipush (-3), 2) := by decide +kernel
theorem dX6_write_26 : decode cX6_write 26 = .ok (.ireturn, 1) := by decide +kernel
theorem dX6_write_27 : decode cX6_write 27 = .ok (.aload_n 0, 1) := by decide +kernel
theorem dX6_write_28 : decode cX6_write 28 = .ok (.getfield 9, 3) := by decide +kernel
theorem dX6_write_31 : decode cX6_write 31 = .ok (.aload_n 0, 1) := by decide +kernel
theorem dX6_write_32 : decode cX6_write 32 = .ok (.getfield 49, 3) := by decide +kernel
theorem dX6_write_35 : decode cX6_write 35 = .ok (.iload_n 1, 1) := by decide +kernel
theorem dX6_write_36 : decode cX6_write 36 = .ok (.i2c, 1) := by decide +kernel
theorem dX6_write_37 : decode cX6_write 37 = .ok (.castore, 1) := by decide +kernel
theorem dX6_write_38 : decode cX6_write 38 = .ok (.aload_n 0, 1) := by decide +kernel
theorem dX6_write_39 : decode cX6_write 39 = .ok (.dup, 1) := by decide +kernel
theorem dX6_write_40 : decode cX6_write 40 = .ok (.getfield 49, 3) := by decide +kernel
theorem dX6_write_43 : decode cX6_write 43 = .ok (.iconst 1, 1) := by decide +kernel
theorem dX6_write_44 : decode cX6_write 44 = .ok (.iadd, 1) := by decide +kernel
theorem dX6_write_45 : decode cX6_write 45 = .ok (.putfield 49, 3) := by decide +kernel
theorem dX6_write_48 : decode cX6_write 48 = .ok (.aload_n 0, 1) := by decide +kernel
theorem dX6_write_49 : decode cX6_write 49 = .ok (.getfield 49, 3) := by decide +kernel
theorem dX6_write_52 : decode cX6_write 52 = .ok (.ireturn, 1) := by decide +kernel
theorem dX6_wipe_0 : decode cX6_wipe 0 = .ok (.aload_n 0, 1) := by decide +kernel
theorem dX6_wipe_1 : decode cX6_wipe 1 = .ok (.getfield 49, 3) := by decide +kernel
theorem dX6_wipe_4 : decode cX6_wipe 4 = .ok (.istore_n 1, 1) := by decide +kernel
theorem dX6_wipe_5 : decode cX6_wipe 5 = .ok (.aload_n 0, 1) := by decide +kernel
theorem dX6_wipe_6 : decode cX6_wipe 6 = .ok (.iconst 0, 1) := by decide +kernel
theorem dX6_wipe_7 : decode cX6_wipe 7 = .ok (.putfield 49, 3) := by decide +kernel
theorem dX6_wipe_10 : decode cX6_wipe 10 = .ok (.iload_n 1, 1) := by decide +kernel
theorem dX6_wipe_11 : decode cX6_wipe 11 = .ok (.ireturn, 1) := by decide +kernel
theorem dX6_fault_0 : decode cX6_fault 0 = .ok (.aload_n 0, 1) := by decide +kernel
theorem dX6_fault_1 : decode cX6_fault 1 = .ok (.getfield 16, 3) := by decide +kernel
theorem dX6_fault_4 : decode cX6_fault 4 = .ok (.aload_n 0, 1) := by decide +kernel
theorem dX6_fault_5 : decode cX6_fault 5 = .ok (.getfield 27, 3) := by decide +kernel
theorem dX6_fault_8 : decode cX6_fault 8 = .ok (.aload_n 0, 1) := by decide +kernel
theorem dX6_fault_9 : decode cX6_fault 9 = .ok (.getfield 9, 3) := by decide +kernel
theorem dX6_fault_12 : decode cX6_fault 12 = .ok (.aload_n 0, 1) := by decide +kernel
theorem dX6_fault_13 : decode cX6_fault 13 = .ok (.getfield 49, 3) := by decide +kernel
theorem dX6_fault_16 : decode cX6_fault 16 = .ok (.invokevirtual 56, 3) := by decide +kernel
theorem dX6_fault_19 : decode cX6_fault 19 = .ok (.ireturn, 1) := by decide +kernel
theorem dX6_lay_0 : decode cX6_lay 0 = .ok (.aload_n 0, 1) := by decide +kernel
theorem dX6_lay_1 : decode cX6_lay 1 = .ok (.invokevirtual 53, 3) := by decide +kernel
theorem dX6_lay_4 : decode cX6_lay 4 = .ok (.ireturn, 1) := by decide +kernel
theorem dX6_layText_0 : decode cX6_layText 0 = .ok (.aload_n 0, 1) := by decide +kernel
theorem dX6_layText_1 : decode cX6_layText 1 = .ok (.getfield 16, 3) := by decide +kernel
theorem dX6_layText_4 : decode cX6_layText 4 = .ok (.aload_n 0, 1) := by decide +kernel
theorem dX6_layText_5 : decode cX6_layText 5 = .ok (.getfield 27, 3) := by decide +kernel
theorem dX6_layText_8 : decode cX6_layText 8 = .ok (.aload_n 0, 1) := by decide +kernel
theorem dX6_layText_9 : decode cX6_layText 9 = .ok (.getfield 9, 3) := by decide +kernel
theorem dX6_layText_12 : decode cX6_layText 12 = .ok (.aload_n 0, 1) := by decide +kernel
theorem dX6_layText_13 : decode cX6_layText 13 = .ok (.getfield 49, 3) := by decide +kernel
theorem dX6_layText_16 : decode cX6_layText 16 = .ok (.invokevirtual 56, 3) := by decide +kernel
theorem dX6_layText_19 : decode cX6_layText 19 = .ok (.bipush (-4), 2) := by decide +kernel
theorem dX6_layText_21 : decode cX6_layText 21 = .ok (.if_icmp .ne 13, 3) := by decide +kernel
theorem dX6_layText_24 : decode cX6_layText 24 = .ok (.aload_n 0, 1) := by decide +kernel
theorem dX6_layText_25 : decode cX6_layText 25 = .ok (.getfield 27, 3) := by decide +kernel
theorem dX6_layText_28 : decode cX6_layText 28 = .ok (.getfield 60, 3) := by decide +kernel
theorem dX6_layText_31 : decode cX6_layText 31 = .ok (.ifCond .ne 6, 3) := by decide +kernel
theorem dX6_layText_34 : decode cX6_layText 34 = .ok (.bipush (-2), 2) := by decide +kernel
theorem dX6_layText_36 : decode cX6_layText 36 = .ok (.ireturn, 1) := by decide +kernel
theorem dX6_layText_37 : decode cX6_layText 37 = .ok (.aload_n 0, 1) := by decide +kernel
theorem dX6_layText_38 : decode cX6_layText 38 = .ok (.getfield 23, 3) := by decide +kernel
theorem dX6_layText_41 : decode cX6_layText 41 = .ok (.astore_n 1, 1) := by decide +kernel
theorem dX6_layText_42 : decode cX6_layText 42 = .ok (.aload_n 0, 1) := by decide +kernel
theorem dX6_layText_43 : decode cX6_layText 43 = .ok (.aload_n 0, 1) := by decide +kernel
theorem dX6_layText_44 : decode cX6_layText 44 = .ok (.getfield 27, 3) := by decide +kernel
theorem dX6_layText_47 : decode cX6_layText 47 = .ok (.putfield 23, 3) := by decide +kernel
theorem dX6_layText_50 : decode cX6_layText 50 = .ok (.aload_n 0, 1) := by decide +kernel
theorem dX6_layText_51 : decode cX6_layText 51 = .ok (.aload_n 1, 1) := by decide +kernel
theorem dX6_layText_52 : decode cX6_layText 52 = .ok (.putfield 27, 3) := by decide +kernel
theorem dX6_layText_55 : decode cX6_layText 55 = .ok (.aload_n 0, 1) := by decide +kernel
theorem dX6_layText_56 : decode cX6_layText 56 = .ok (.iconst 0, 1) := by decide +kernel
theorem dX6_layText_57 : decode cX6_layText 57 = .ok (.putfield 63, 3) := by decide +kernel
theorem dX6_layText_60 : decode cX6_layText 60 = .ok (.aload_n 0, 1) := by decide +kernel
theorem dX6_layText_61 : decode cX6_layText 61 = .ok (.getfield 33, 3) := by decide +kernel
theorem dX6_layText_64 : decode cX6_layText 64 = .ok (.invokevirtual 66, 3) := by decide +kernel
theorem dX6_layText_67 : decode cX6_layText 67 = .ok (.aload_n 0, 1) := by decide +kernel
theorem dX6_layText_68 : decode cX6_layText 68 = .ok (.getfield 23, 3) := by decide +kernel
theorem dX6_layText_71 : decode cX6_layText 71 = .ok (.getfield 60, 3) := by decide +kernel
theorem dX6_layText_74 : decode cX6_layText 74 = .ok (.ireturn, 1) := by decide +kernel
theorem dX6_sign_0 : decode cX6_sign 0 = .ok (.aload_n 0, 1) := by decide +kernel
theorem dX6_sign_1 : decode cX6_sign 1 = .ok (.iload_n 1, 1) := by decide +kernel
theorem dX6_sign_2 : decode cX6_sign 2 = .ok (.invokevirtual 69, 3) := by decide +kernel
theorem dX6_sign_5 : decode cX6_sign 5 = .ok (.ifCond .ne 5, 3) := by decide +kernel
theorem dX6_sign_8 : decode cX6_sign 8 = .ok (.iconst (-1), 1) := by decide +kernel
theorem dX6_sign_9 : decode cX6_sign 9 = .ok (.ireturn, 1) := by decide +kernel
theorem dX6_sign_10 : decode cX6_sign 10 = .ok (.aload_n 0, 1) := by decide +kernel
theorem dX6_sign_11 : decode cX6_sign 11 = .ok (.iload_n 1, 1) := by decide +kernel
theorem dX6_sign_12 : decode cX6_sign 12 = .ok (.invokevirtual 73, 3) := by decide +kernel
theorem dX6_sign_15 : decode cX6_sign 15 = .ok (.ifCond .eq 6, 3) := by decide +kernel
theorem dX6_sign_18 : decode cX6_sign 18 = .ok (.bipush (-2), 2) := by decide +kernel
theorem dX6_sign_20 : decode cX6_sign 20 = .ok (.ireturn, 1) := by decide +kernel
theorem dX6_sign_21 : decode cX6_sign 21 = .ok (.aload_n 0, 1) := by decide +kernel
theorem dX6_sign_22 : decode cX6_sign 22 = .ok (.iload_n 1, 1) := by decide +kernel
theorem dX6_sign_23 : decode cX6_sign 23 = .ok (.invokevirtual 77, 3) := by decide +kernel
theorem dX6_sign_26 : decode cX6_sign 26 = .ok (.aload_n 0, 1) := by decide +kernel
theorem dX6_sign_27 : decode cX6_sign 27 = .ok (.dup, 1) := by decide +kernel
theorem dX6_sign_28 : decode cX6_sign 28 = .ok (.getfield 63, 3) := by decide +kernel
theorem dX6_sign_31 : decode cX6_sign 31 = .ok (.iconst 1, 1) := by decide +kernel
theorem dX6_sign_32 : decode cX6_sign 32 = .ok (.iload_n 1, 1) := by decide +kernel
theorem dX6_sign_33 : decode cX6_sign 33 = .ok (.ishl, 1) := by decide +kernel
theorem dX6_sign_34 : decode cX6_sign 34 = .ok (.ior, 1) := by decide +kernel
theorem dX6_sign_35 : decode cX6_sign 35 = .ok (.putfield 63, 3) := by decide +kernel
theorem dX6_sign_38 : decode cX6_sign 38 = .ok (.aload_n 0, 1) := by decide +kernel
theorem dX6_sign_39 : decode cX6_sign 39 = .ok (.getfield 63, 3) := by decide +kernel
theorem dX6_sign_42 : decode cX6_sign 42 = .ok (.invokestatic 81, 3) := by decide +kernel
theorem dX6_sign_45 : decode cX6_sign 45 = .ok (.ireturn, 1) := by decide +kernel
theorem dX6_why_0 : decode cX6_why 0 = .ok (.aload_n 0, 1) := by decide +kernel
theorem dX6_why_1 : decode cX6_why 1 = .ok (.iload_n 1, 1) := by decide +kernel
theorem dX6_why_2 : decode cX6_why 2 = .ok (.invokevirtual 69, 3) := by decide +kernel
theorem dX6_why_5 : decode cX6_why 5 = .ok (.ifCond .ne 5, 3) := by decide +kernel
theorem dX6_why_8 : decode cX6_why 8 = .ok (.iconst (-1), 1) := by decide +kernel
theorem dX6_why_9 : decode cX6_why 9 = .ok (.ireturn, 1) := by decide +kernel
theorem dX6_why_10 : decode cX6_why 10 = .ok (.aload_n 0, 1) := by decide +kernel
theorem dX6_why_11 : decode cX6_why 11 = .ok (.iload_n 1, 1) := by decide +kernel
theorem dX6_why_12 : decode cX6_why 12 = .ok (.invokevirtual 73, 3) := by decide +kernel
theorem dX6_why_15 : decode cX6_why 15 = .ok (.ireturn, 1) := by decide +kernel
theorem dX6_clash_0 : decode cX6_clash 0 = .ok (.aload_n 0, 1) := by decide +kernel
theorem dX6_clash_1 : decode cX6_clash 1 = .ok (.iload_n 1, 1) := by decide +kernel
theorem dX6_clash_2 : decode cX6_clash 2 = .ok (.invokevirtual 69, 3) := by decide +kernel
theorem dX6_clash_5 : decode cX6_clash 5 = .ok (.ifCond .ne 5, 3) := by decide +kernel
theorem dX6_clash_8 : decode cX6_clash 8 = .ok (.iconst (-1), 1) := by decide +kernel
theorem dX6_clash_9 : decode cX6_clash 9 = .ok (.ireturn, 1) := by decide +kernel
theorem dX6_clash_10 : decode cX6_clash 10 = .ok (.aload_n 0, 1) := by decide +kernel
theorem dX6_clash_11 : decode cX6_clash 11 = .ok (.getfield 23, 3) := by decide +kernel
theorem dX6_clash_14 : decode cX6_clash 14 = .ok (.iload_n 1, 1) := by decide +kernel
theorem dX6_clash_15 : decode cX6_clash 15 = .ok (.aload_n 0, 1) := by decide +kernel
theorem dX6_clash_16 : decode cX6_clash 16 = .ok (.getfield 63, 3) := by decide +kernel
theorem dX6_clash_19 : decode cX6_clash 19 = .ok (.invokevirtual 86, 3) := by decide +kernel
theorem dX6_clash_22 : decode cX6_clash 22 = .ok (.ireturn, 1) := by decide +kernel
theorem dX6_drop_0 : decode cX6_drop 0 = .ok (.aload_n 0, 1) := by decide +kernel
theorem dX6_drop_1 : decode cX6_drop 1 = .ok (.iload_n 1, 1) := by decide +kernel
theorem dX6_drop_2 : decode cX6_drop 2 = .ok (.invokevirtual 69, 3) := by decide +kernel
theorem dX6_drop_5 : decode cX6_drop 5 = .ok (.ifCond .ne 5, 3) := by decide +kernel
theorem dX6_drop_8 : decode cX6_drop 8 = .ok (.iconst (-1), 1) := by decide +kernel
theorem dX6_drop_9 : decode cX6_drop 9 = .ok (.ireturn, 1) := by decide +kernel
theorem dX6_drop_10 : decode cX6_drop 10 = .ok (.aload_n 0, 1) := by decide +kernel
theorem dX6_drop_11 : decode cX6_drop 11 = .ok (.iload_n 1, 1) := by decide +kernel
theorem dX6_drop_12 : decode cX6_drop 12 = .ok (.invokevirtual 90, 3) := by decide +kernel
theorem dX6_drop_15 : decode cX6_drop 15 = .ok (.ifCond .ne 6, 3) := by decide +kernel
theorem dX6_drop_18 : decode cX6_drop 18 = .ok (.bipush (-2), 2) := by decide +kernel
theorem dX6_drop_20 : decode cX6_drop 20 = .ok (.ireturn, 1) := by decide +kernel
theorem dX6_drop_21 : decode cX6_drop 21 = .ok (.aload_n 0, 1) := by decide +kernel
theorem dX6_drop_22 : decode cX6_drop 22 = .ok (.iload_n 1, 1) := by decide +kernel
theorem dX6_drop_23 : decode cX6_drop 23 = .ok (.invokevirtual 77, 3) := by decide +kernel
theorem dX6_drop_26 : decode cX6_drop 26 = .ok (.aload_n 0, 1) := by decide +kernel
