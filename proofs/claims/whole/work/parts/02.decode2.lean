theorem dX7_readNumbers_60 : decode cX7_readNumbers 60 = .ok (.bipush 48, 2) := by decide +kernel
theorem dX7_readNumbers_62 : decode cX7_readNumbers 62 = .ok (.isub, 1) := by decide +kernel
theorem dX7_readNumbers_63 : decode cX7_readNumbers 63 = .ok (.istore_n 3, 1) := by decide +kernel
theorem dX7_readNumbers_64 : decode cX7_readNumbers 64 = .ok (.aload_n 0, 1) := by decide +kernel
theorem dX7_readNumbers_65 : decode cX7_readNumbers 65 = .ok (.dup, 1) := by decide +kernel
theorem dX7_readNumbers_66 : decode cX7_readNumbers 66 = .ok (.getfield 76, 3) := by decide +kernel
theorem dX7_readNumbers_69 : decode cX7_readNumbers 69 = .ok (.iconst 1, 1) := by decide +kernel
theorem dX7_readNumbers_70 : decode cX7_readNumbers 70 = .ok (.iadd, 1) := by decide +kernel
theorem dX7_readNumbers_71 : decode cX7_readNumbers 71 = .ok (.putfield 76, 3) := by decide +kernel
theorem dX7_readNumbers_74 : decode cX7_readNumbers 74 = .ok (.aload_n 0, 1) := by decide +kernel
theorem dX7_readNumbers_75 : decode cX7_readNumbers 75 = .ok (.getfield 31, 3) := by decide +kernel
theorem dX7_readNumbers_78 : decode cX7_readNumbers 78 = .ok (.iload_n 2, 1) := by decide +kernel
theorem dX7_readNumbers_79 : decode cX7_readNumbers 79 = .ok (.iload_n 3, 1) := by decide +kernel
theorem dX7_readNumbers_80 : decode cX7_readNumbers 80 = .ok (.iastore, 1) := by decide +kernel
theorem dX7_readNumbers_81 : decode cX7_readNumbers 81 = .ok (.aload_n 0, 1) := by decide +kernel
theorem dX7_readNumbers_82 : decode cX7_readNumbers 82 = .ok (.getfield 76, 3) := by decide +kernel
theorem dX7_readNumbers_85 : decode cX7_readNumbers 85 = .ok (.aload_n 0, 1) := by decide +kernel
theorem dX7_readNumbers_86 : decode cX7_readNumbers 86 = .ok (.getfield 79, 3) := by decide +kernel
theorem dX7_readNumbers_89 : decode cX7_readNumbers 89 = .ok (.if_icmp .eq 29, 3) := by decide +kernel
theorem dX7_readNumbers_92 : decode cX7_readNumbers 92 = .ok (.aload_n 0, 1) := by decide +kernel
theorem dX7_readNumbers_93 : decode cX7_readNumbers 93 = .ok (.getfield 7, 3) := by decide +kernel
theorem dX7_readNumbers_96 : decode cX7_readNumbers 96 = .ok (.aload_n 0, 1) := by decide +kernel
theorem dX7_readNumbers_97 : decode cX7_readNumbers 97 = .ok (.getfield 76, 3) := by decide +kernel
theorem dX7_readNumbers_100 : decode cX7_readNumbers 100 = .ok (.iaload, 1) := by decide +kernel
theorem dX7_readNumbers_101 : decode cX7_readNumbers 101 = .ok (.iload_n 2, 1) := by decide +kernel
theorem dX7_readNumbers_102 : decode cX7_readNumbers 102 = .ok (.iconst 1, 1) := by decide +kernel
theorem dX7_readNumbers_103 : decode cX7_readNumbers 103 = .ok (.iadd, 1) := by decide +kernel
theorem dX7_readNumbers_104 : decode cX7_readNumbers 104 = .ok (.iload_n 1, 1) := by decide +kernel
theorem dX7_readNumbers_105 : decode cX7_readNumbers 105 = .ok (.if_icmp .ne 8, 3) := by decide +kernel
theorem dX7_readNumbers_108 : decode cX7_readNumbers 108 = .ok (.bipush 59, 2) := by decide +kernel
theorem dX7_readNumbers_110 : decode cX7_readNumbers 110 = .ok (.goto 5, 3) := by decide +kernel
theorem dX7_readNumbers_113 : decode cX7_readNumbers 113 = .ok (.bipush 44, 2) := by decide +kernel
theorem dX7_readNumbers_115 : decode cX7_readNumbers 115 = .ok (.if_icmp .eq 5, 3) := by decide +kernel
theorem dX7_readNumbers_118 : decode cX7_readNumbers 118 = .ok (.iconst 0, 1) := by decide +kernel
theorem dX7_readNumbers_119 : decode cX7_readNumbers 119 = .ok (.ireturn, 1) := by decide +kernel
theorem dX7_readNumbers_120 : decode cX7_readNumbers 120 = .ok (.aload_n 0, 1) := by decide +kernel
theorem dX7_readNumbers_121 : decode cX7_readNumbers 121 = .ok (.dup, 1) := by decide +kernel
theorem dX7_readNumbers_122 : decode cX7_readNumbers 122 = .ok (.getfield 76, 3) := by decide +kernel
theorem dX7_readNumbers_125 : decode cX7_readNumbers 125 = .ok (.iconst 1, 1) := by decide +kernel
theorem dX7_readNumbers_126 : decode cX7_readNumbers 126 = .ok (.iadd, 1) := by decide +kernel
theorem dX7_readNumbers_127 : decode cX7_readNumbers 127 = .ok (.putfield 76, 3) := by decide +kernel
theorem dX7_readNumbers_130 : decode cX7_readNumbers 130 = .ok (.iinc 2 1, 3) := by decide +kernel
theorem dX7_readNumbers_133 : decode cX7_readNumbers 133 = .ok (.goto (-131), 3) := by decide +kernel
theorem dX7_readNumbers_136 : decode cX7_readNumbers 136 = .ok (.iconst 1, 1) := by decide +kernel
theorem dX7_readNumbers_137 : decode cX7_readNumbers 137 = .ok (.ireturn, 1) := by decide +kernel
theorem dX7_readTerm_0 : decode cX7_readTerm 0 = .ok (.aload_n 0, 1) := by decide +kernel
theorem dX7_readTerm_1 : decode cX7_readTerm 1 = .ok (.iconst 2, 1) := by decide +kernel
theorem dX7_readTerm_2 : decode cX7_readTerm 2 = .ok (.invokevirtual 90, 3) := by decide +kernel
theorem dX7_readTerm_5 : decode cX7_readTerm 5 = .ok (.ifCond .eq 29, 3) := by decide +kernel
theorem dX7_readTerm_8 : decode cX7_readTerm 8 = .ok (.aload_n 0, 1) := by decide +kernel
theorem dX7_readTerm_9 : decode cX7_readTerm 9 = .ok (.getfield 31, 3) := by decide +kernel
theorem dX7_readTerm_12 : decode cX7_readTerm 12 = .ok (.iconst 1, 1) := by decide +kernel
theorem dX7_readTerm_13 : decode cX7_readTerm 13 = .ok (.iaload, 1) := by decide +kernel
theorem dX7_readTerm_14 : decode cX7_readTerm 14 = .ok (.bipush 51, 2) := by decide +kernel
theorem dX7_readTerm_16 : decode cX7_readTerm 16 = .ok (.if_icmp .gt 18, 3) := by decide +kernel
theorem dX7_readTerm_19 : decode cX7_readTerm 19 = .ok (.aload_n 0, 1) := by decide +kernel
theorem dX7_readTerm_20 : decode cX7_readTerm 20 = .ok (.getfield 31, 3) := by decide +kernel
theorem dX7_readTerm_23 : decode cX7_readTerm 23 = .ok (.iconst 0, 1) := by decide +kernel
theorem dX7_readTerm_24 : decode cX7_readTerm 24 = .ok (.iaload, 1) := by decide +kernel
theorem dX7_readTerm_25 : decode cX7_readTerm 25 = .ok (.aload_n 0, 1) := by decide +kernel
theorem dX7_readTerm_26 : decode cX7_readTerm 26 = .ok (.getfield 31, 3) := by decide +kernel
theorem dX7_readTerm_29 : decode cX7_readTerm 29 = .ok (.iconst 1, 1) := by decide +kernel
theorem dX7_readTerm_30 : decode cX7_readTerm 30 = .ok (.iaload, 1) := by decide +kernel
theorem dX7_readTerm_31 : decode cX7_readTerm 31 = .ok (.if_icmp .le 5, 3) := by decide +kernel
theorem dX7_readTerm_34 : decode cX7_readTerm 34 = .ok (.iconst 0, 1) := by decide +kernel
theorem dX7_readTerm_35 : decode cX7_readTerm 35 = .ok (.ireturn, 1) := by decide +kernel
theorem dX7_readTerm_36 : decode cX7_readTerm 36 = .ok (.aload_n 0, 1) := by decide +kernel
theorem dX7_readTerm_37 : decode cX7_readTerm 37 = .ok (.aload_n 0, 1) := by decide +kernel
theorem dX7_readTerm_38 : decode cX7_readTerm 38 = .ok (.getfield 31, 3) := by decide +kernel
theorem dX7_readTerm_41 : decode cX7_readTerm 41 = .ok (.iconst 0, 1) := by decide +kernel
theorem dX7_readTerm_42 : decode cX7_readTerm 42 = .ok (.iaload, 1) := by decide +kernel
theorem dX7_readTerm_43 : decode cX7_readTerm 43 = .ok (.putfield 37, 3) := by decide +kernel
theorem dX7_readTerm_46 : decode cX7_readTerm 46 = .ok (.aload_n 0, 1) := by decide +kernel
theorem dX7_readTerm_47 : decode cX7_readTerm 47 = .ok (.aload_n 0, 1) := by decide +kernel
theorem dX7_readTerm_48 : decode cX7_readTerm 48 = .ok (.getfield 31, 3) := by decide +kernel
theorem dX7_readTerm_51 : decode cX7_readTerm 51 = .ok (.iconst 1, 1) := by decide +kernel
theorem dX7_readTerm_52 : decode cX7_readTerm 52 = .ok (.iaload, 1) := by decide +kernel
theorem dX7_readTerm_53 : decode cX7_readTerm 53 = .ok (.putfield 41, 3) := by decide +kernel
theorem dX7_readTerm_56 : decode cX7_readTerm 56 = .ok (.iconst 1, 1) := by decide +kernel
theorem dX7_readTerm_57 : decode cX7_readTerm 57 = .ok (.ireturn, 1) := by decide +kernel
theorem dX7_readOffer_0 : decode cX7_readOffer 0 = .ok (.aload_n 0, 1) := by decide +kernel
theorem dX7_readOffer_1 : decode cX7_readOffer 1 = .ok (.getfield 55, 3) := by decide +kernel
theorem dX7_readOffer_4 : decode cX7_readOffer 4 = .ok (.bipush 10, 2) := by decide +kernel
theorem dX7_readOffer_6 : decode cX7_readOffer 6 = .ok (.if_icmp .eq 57, 3) := by decide +kernel
theorem dX7_readOffer_9 : decode cX7_readOffer 9 = .ok (.aload_n 0, 1) := by decide +kernel
theorem dX7_readOffer_10 : decode cX7_readOffer 10 = .ok (.bipush 7, 2) := by decide +kernel
theorem dX7_readOffer_12 : decode cX7_readOffer 12 = .ok (.invokevirtual 90, 3) := by decide +kernel
theorem dX7_readOffer_15 : decode cX7_readOffer 15 = .ok (.ifCond .eq 48, 3) := by decide +kernel
theorem dX7_readOffer_18 : decode cX7_readOffer 18 = .ok (.aload_n 0, 1) := by decide +kernel
theorem dX7_readOffer_19 : decode cX7_readOffer 19 = .ok (.getfield 31, 3) := by decide +kernel
theorem dX7_readOffer_22 : decode cX7_readOffer 22 = .ok (.iconst 0, 1) := by decide +kernel
theorem dX7_readOffer_23 : decode cX7_readOffer 23 = .ok (.iaload, 1) := by decide +kernel
theorem dX7_readOffer_24 : decode cX7_readOffer 24 = .ok (.iconst 1, 1) := by decide +kernel
theorem dX7_readOffer_25 : decode cX7_readOffer 25 = .ok (.bipush 63, 2) := by decide +kernel
theorem dX7_readOffer_27 : decode cX7_readOffer 27 = .ok (.invokestatic 82, 3) := by decide +kernel
theorem dX7_readOffer_30 : decode cX7_readOffer 30 = .ok (.ifCond .eq 33, 3) := by decide +kernel
theorem dX7_readOffer_33 : decode cX7_readOffer 33 = .ok (.aload_n 0, 1) := by decide +kernel
theorem dX7_readOffer_34 : decode cX7_readOffer 34 = .ok (.getfield 31, 3) := by decide +kernel
theorem dX7_readOffer_37 : decode cX7_readOffer 37 = .ok (.iconst 1, 1) := by decide +kernel
theorem dX7_readOffer_38 : decode cX7_readOffer 38 = .ok (.iaload, 1) := by decide +kernel
theorem dX7_readOffer_39 : decode cX7_readOffer 39 = .ok (.iconst 1, 1) := by decide +kernel
theorem dX7_readOffer_40 : decode cX7_readOffer 40 = .ok (.bipush 15, 2) := by decide +kernel
theorem dX7_readOffer_42 : decode cX7_readOffer 42 = .ok (.invokestatic 82, 3) := by decide +kernel
theorem dX7_readOffer_45 : decode cX7_readOffer 45 = .ok (.ifCond .eq 18, 3) := by decide +kernel
theorem dX7_readOffer_48 : decode cX7_readOffer 48 = .ok (.aload_n 0, 1) := by decide +kernel
theorem dX7_readOffer_49 : decode cX7_readOffer 49 = .ok (.getfield 31, 3) := by decide +kernel
theorem dX7_readOffer_52 : decode cX7_readOffer 52 = .ok (.iconst 2, 1) := by decide +kernel
theorem dX7_readOffer_53 : decode cX7_readOffer 53 = .ok (.iaload, 1) := by decide +kernel
theorem dX7_readOffer_54 : decode cX7_readOffer 54 = .ok (.iconst 1, 1) := by decide +kernel
theorem dX7_readOffer_55 : decode cX7_readOffer 55 = .ok (.bipush 15, 2) := by decide +kernel
theorem dX7_readOffer_57 : decode cX7_readOffer 57 = .ok (.invokestatic 82, 3) := by decide +kernel
theorem dX7_readOffer_60 : decode cX7_readOffer 60 = .ok (.ifCond .ne 5, 3) := by decide +kernel
theorem dX7_readOffer_63 : decode cX7_readOffer 63 = .ok (.iconst 0, 1) := by decide +kernel
theorem dX7_readOffer_64 : decode cX7_readOffer 64 = .ok (.ireturn, 1) := by decide +kernel
theorem dX7_readOffer_65 : decode cX7_readOffer 65 = .ok (.aload_n 0, 1) := by decide +kernel
theorem dX7_readOffer_66 : decode cX7_readOffer 66 = .ok (.getfield 31, 3) := by decide +kernel
theorem dX7_readOffer_69 : decode cX7_readOffer 69 = .ok (.iconst 4, 1) := by decide +kernel
theorem dX7_readOffer_70 : decode cX7_readOffer 70 = .ok (.iaload, 1) := by decide +kernel
theorem dX7_readOffer_71 : decode cX7_readOffer 71 = .ok (.bipush 51, 2) := by decide +kernel
theorem dX7_readOffer_73 : decode cX7_readOffer 73 = .ok (.if_icmp .gt 39, 3) := by decide +kernel
theorem dX7_readOffer_76 : decode cX7_readOffer 76 = .ok (.aload_n 0, 1) := by decide +kernel
theorem dX7_readOffer_77 : decode cX7_readOffer 77 = .ok (.getfield 31, 3) := by decide +kernel
theorem dX7_readOffer_80 : decode cX7_readOffer 80 = .ok (.iconst 3, 1) := by decide +kernel
theorem dX7_readOffer_81 : decode cX7_readOffer 81 = .ok (.iaload, 1) := by decide +kernel
theorem dX7_readOffer_82 : decode cX7_readOffer 82 = .ok (.aload_n 0, 1) := by decide +kernel
theorem dX7_readOffer_83 : decode cX7_readOffer 83 = .ok (.getfield 31, 3) := by decide +kernel
theorem dX7_readOffer_86 : decode cX7_readOffer 86 = .ok (.iconst 4, 1) := by decide +kernel
theorem dX7_readOffer_87 : decode cX7_readOffer 87 = .ok (.iaload, 1) := by decide +kernel
theorem dX7_readOffer_88 : decode cX7_readOffer 88 = .ok (.if_icmp .gt 24, 3) := by decide +kernel
theorem dX7_readOffer_91 : decode cX7_readOffer 91 = .ok (.aload_n 0, 1) := by decide +kernel
theorem dX7_readOffer_92 : decode cX7_readOffer 92 = .ok (.getfield 31, 3) := by decide +kernel
theorem dX7_readOffer_95 : decode cX7_readOffer 95 = .ok (.iconst 5, 1) := by decide +kernel
theorem dX7_readOffer_96 : decode cX7_readOffer 96 = .ok (.iaload, 1) := by decide +kernel
theorem dX7_readOffer_97 : decode cX7_readOffer 97 = .ok (.iconst 1, 1) := by decide +kernel
theorem dX7_readOffer_98 : decode cX7_readOffer 98 = .ok (.if_icmp .gt 14, 3) := by decide +kernel
theorem dX7_readOffer_101 : decode cX7_readOffer 101 = .ok (.aload_n 0, 1) := by decide +kernel
theorem dX7_readOffer_102 : decode cX7_readOffer 102 = .ok (.getfield 31, 3) := by decide +kernel
theorem dX7_readOffer_105 : decode cX7_readOffer 105 = .ok (.bipush 6, 2) := by decide +kernel
theorem dX7_readOffer_107 : decode cX7_readOffer 107 = .ok (.iaload, 1) := by decide +kernel
theorem dX7_readOffer_108 : decode cX7_readOffer 108 = .ok (.iconst 1, 1) := by decide +kernel
theorem dX7_readOffer_109 : decode cX7_readOffer 109 = .ok (.if_icmp .ge 5, 3) := by decide +kernel
theorem dX7_readOffer_112 : decode cX7_readOffer 112 = .ok (.iconst 0, 1) := by decide +kernel
theorem dX7_readOffer_113 : decode cX7_readOffer 113 = .ok (.ireturn, 1) := by decide +kernel
theorem dX7_readOffer_114 : decode cX7_readOffer 114 = .ok (.aload_n 0, 1) := by decide +kernel
theorem dX7_readOffer_115 : decode cX7_readOffer 115 = .ok (.aload_n 0, 1) := by decide +kernel
theorem dX7_readOffer_116 : decode cX7_readOffer 116 = .ok (.getfield 31, 3) := by decide +kernel
theorem dX7_readOffer_119 : decode cX7_readOffer 119 = .ok (.iconst 0, 1) := by decide +kernel
theorem dX7_readOffer_120 : decode cX7_readOffer 120 = .ok (.iaload, 1) := by decide +kernel
theorem dX7_readOffer_121 : decode cX7_readOffer 121 = .ok (.aload_n 0, 1) := by decide +kernel
theorem dX7_readOffer_122 : decode cX7_readOffer 122 = .ok (.getfield 31, 3) := by decide +kernel
theorem dX7_readOffer_125 : decode cX7_readOffer 125 = .ok (.iconst 1, 1) := by decide +kernel
theorem dX7_readOffer_126 : decode cX7_readOffer 126 = .ok (.iaload, 1) := by decide +kernel
theorem dX7_readOffer_127 : decode cX7_readOffer 127 = .ok (.aload_n 0, 1) := by decide +kernel
theorem dX7_readOffer_128 : decode cX7_readOffer 128 = .ok (.getfield 31, 3) := by decide +kernel
theorem dX7_readOffer_131 : decode cX7_readOffer 131 = .ok (.iconst 2, 1) := by decide +kernel
theorem dX7_readOffer_132 : decode cX7_readOffer 132 = .ok (.iaload, 1) := by decide +kernel
theorem dX7_readOffer_133 : decode cX7_readOffer 133 = .ok (.aload_n 0, 1) := by decide +kernel
theorem dX7_readOffer_134 : decode cX7_readOffer 134 = .ok (.getfield 31, 3) := by decide +kernel
theorem dX7_readOffer_137 : decode cX7_readOffer 137 = .ok (.iconst 3, 1) := by decide +kernel
theorem dX7_readOffer_138 : decode cX7_readOffer 138 = .ok (.iaload, 1) := by decide +kernel
theorem dX7_readOffer_139 : decode cX7_readOffer 139 = .ok (.aload_n 0, 1) := by decide +kernel
theorem dX7_readOffer_140 : decode cX7_readOffer 140 = .ok (.getfield 31, 3) := by decide +kernel
theorem dX7_readOffer_143 : decode cX7_readOffer 143 = .ok (.iconst 4, 1) := by decide +kernel
theorem dX7_readOffer_144 : decode cX7_readOffer 144 = .ok (.iaload, 1) := by decide +kernel
theorem dX7_readOffer_145 : decode cX7_readOffer 145 = .ok (.aload_n 0, 1) := by decide +kernel
theorem dX7_readOffer_146 : decode cX7_readOffer 146 = .ok (.getfield 31, 3) := by decide +kernel
theorem dX7_readOffer_149 : decode cX7_readOffer 149 = .ok (.iconst 5, 1) := by decide +kernel
theorem dX7_readOffer_150 : decode cX7_readOffer 150 = .ok (.iaload, 1) := by decide +kernel
theorem dX7_readOffer_151 : decode cX7_readOffer 151 = .ok (.aload_n 0, 1) := by decide +kernel
theorem dX7_readOffer_152 : decode cX7_readOffer 152 = .ok (.getfield 31, 3) := by decide +kernel
theorem dX7_readOffer_155 : decode cX7_readOffer 155 = .ok (.bipush 6, 2) := by decide +kernel
theorem dX7_readOffer_157 : decode cX7_readOffer 157 = .ok (.iaload, 1) := by decide +kernel
theorem dX7_readOffer_158 : decode cX7_readOffer 158 = .ok (.invokevirtual 44, 3) := by decide +kernel
theorem dX7_readOffer_161 : decode cX7_readOffer 161 = .ok (.iconst 1, 1) := by decide +kernel
theorem dX7_readOffer_162 : decode cX7_readOffer 162 = .ok (.ireturn, 1) := by decide +kernel
theorem dX7_readHold_0 : decode cX7_readHold 0 = .ok (.aload_n 0, 1) := by decide +kernel
theorem dX7_readHold_1 : decode cX7_readHold 1 = .ok (.getfield 58, 3) := by decide +kernel
theorem dX7_readHold_4 : decode cX7_readHold 4 = .ok (.iconst 4, 1) := by decide +kernel
theorem dX7_readHold_5 : decode cX7_readHold 5 = .ok (.if_icmp .eq 61, 3) := by decide +kernel
theorem dX7_readHold_8 : decode cX7_readHold 8 = .ok (.aload_n 0, 1) := by decide +kernel
theorem dX7_readHold_9 : decode cX7_readHold 9 = .ok (.iconst 3, 1) := by decide +kernel
theorem dX7_readHold_10 : decode cX7_readHold 10 = .ok (.invokevirtual 90, 3) := by decide +kernel
theorem dX7_readHold_13 : decode cX7_readHold 13 = .ok (.ifCond .eq 53, 3) := by decide +kernel
theorem dX7_readHold_16 : decode cX7_readHold 16 = .ok (.aload_n 0, 1) := by decide +kernel
theorem dX7_readHold_17 : decode cX7_readHold 17 = .ok (.getfield 31, 3) := by decide +kernel
theorem dX7_readHold_20 : decode cX7_readHold 20 = .ok (.iconst 0, 1) := by decide +kernel
theorem dX7_readHold_21 : decode cX7_readHold 21 = .ok (.iaload, 1) := by decide +kernel
theorem dX7_readHold_22 : decode cX7_readHold 22 = .ok (.iconst 3, 1) := by decide +kernel
theorem dX7_readHold_23 : decode cX7_readHold 23 = .ok (.if_icmp .gt 43, 3) := by decide +kernel
theorem dX7_readHold_26 : decode cX7_readHold 26 = .ok (.aload_n 0, 1) := by decide +kernel
theorem dX7_readHold_27 : decode cX7_readHold 27 = .ok (.getfield 31, 3) := by decide +kernel
theorem dX7_readHold_30 : decode cX7_readHold 30 = .ok (.iconst 1, 1) := by decide +kernel
theorem dX7_readHold_31 : decode cX7_readHold 31 = .ok (.iaload, 1) := by decide +kernel
theorem dX7_readHold_32 : decode cX7_readHold 32 = .ok (.iconst 3, 1) := by decide +kernel
theorem dX7_readHold_33 : decode cX7_readHold 33 = .ok (.if_icmp .gt 33, 3) := by decide +kernel
theorem dX7_readHold_36 : decode cX7_readHold 36 = .ok (.aload_n 0, 1) := by decide +kernel
theorem dX7_readHold_37 : decode cX7_readHold 37 = .ok (.getfield 31, 3) := by decide +kernel
theorem dX7_readHold_40 : decode cX7_readHold 40 = .ok (.iconst 0, 1) := by decide +kernel
theorem dX7_readHold_41 : decode cX7_readHold 41 = .ok (.iaload, 1) := by decide +kernel
theorem dX7_readHold_42 : decode cX7_readHold 42 = .ok (.aload_n 0, 1) := by decide +kernel
theorem dX7_readHold_43 : decode cX7_readHold 43 = .ok (.getfield 31, 3) := by decide +kernel
theorem dX7_readHold_46 : decode cX7_readHold 46 = .ok (.iconst 1, 1) := by decide +kernel
theorem dX7_readHold_47 : decode cX7_readHold 47 = .ok (.iaload, 1) := by decide +kernel
theorem dX7_readHold_48 : decode cX7_readHold 48 = .ok (.if_icmp .eq 18, 3) := by decide +kernel
theorem dX7_readHold_51 : decode cX7_readHold 51 = .ok (.aload_n 0, 1) := by decide +kernel
theorem dX7_readHold_52 : decode cX7_readHold 52 = .ok (.getfield 31, 3) := by decide +kernel
theorem dX7_readHold_55 : decode cX7_readHold 55 = .ok (.iconst 2, 1) := by decide +kernel
theorem dX7_readHold_56 : decode cX7_readHold 56 = .ok (.iaload, 1) := by decide +kernel
theorem dX7_readHold_57 : decode cX7_readHold 57 = .ok (.iconst 1, 1) := by decide +kernel
theorem dX7_readHold_58 : decode cX7_readHold 58 = .ok (.bipush 51, 2) := by decide +kernel
theorem dX7_readHold_60 : decode cX7_readHold 60 = .ok (.invokestatic 82, 3) := by decide +kernel
theorem dX7_readHold_63 : decode cX7_readHold 63 = .ok (.ifCond .ne 5, 3) := by decide +kernel
theorem dX7_readHold_66 : decode cX7_readHold 66 = .ok (.iconst 0, 1) := by decide +kernel
theorem dX7_readHold_67 : decode cX7_readHold 67 = .ok (.ireturn, 1) := by decide +kernel
theorem dX7_readHold_68 : decode cX7_readHold 68 = .ok (.aload_n 0, 1) := by decide +kernel
theorem dX7_readHold_69 : decode cX7_readHold 69 = .ok (.aload_n 0, 1) := by decide +kernel
theorem dX7_readHold_70 : decode cX7_readHold 70 = .ok (.getfield 31, 3) := by decide +kernel
theorem dX7_readHold_73 : decode cX7_readHold 73 = .ok (.iconst 0, 1) := by decide +kernel
theorem dX7_readHold_74 : decode cX7_readHold 74 = .ok (.iaload, 1) := by decide +kernel
theorem dX7_readHold_75 : decode cX7_readHold 75 = .ok (.aload_n 0, 1) := by decide +kernel
theorem dX7_readHold_76 : decode cX7_readHold 76 = .ok (.getfield 31, 3) := by decide +kernel
theorem dX7_readHold_79 : decode cX7_readHold 79 = .ok (.iconst 1, 1) := by decide +kernel
theorem dX7_readHold_80 : decode cX7_readHold 80 = .ok (.iaload, 1) := by decide +kernel
theorem dX7_readHold_81 : decode cX7_readHold 81 = .ok (.aload_n 0, 1) := by decide +kernel
theorem dX7_readHold_82 : decode cX7_readHold 82 = .ok (.getfield 31, 3) := by decide +kernel
theorem dX7_readHold_85 : decode cX7_readHold 85 = .ok (.iconst 2, 1) := by decide +kernel
theorem dX7_readHold_86 : decode cX7_readHold 86 = .ok (.iaload, 1) := by decide +kernel
theorem dX7_readHold_87 : decode cX7_readHold 87 = .ok (.invokevirtual 48, 3) := by decide +kernel
theorem dX7_readHold_90 : decode cX7_readHold 90 = .ok (.iconst 1, 1) := by decide +kernel
theorem dX7_readHold_91 : decode cX7_readHold 91 = .ok (.ireturn, 1) := by decide +kernel
theorem dX7_readText_0 : decode cX7_readText 0 = .ok (.aload_n 0, 1) := by decide +kernel
theorem dX7_readText_1 : decode cX7_readText 1 = .ok (.invokevirtual 34, 3) := by decide +kernel
theorem dX7_readText_4 : decode cX7_readText 4 = .ok (.aload_n 0, 1) := by decide +kernel
theorem dX7_readText_5 : decode cX7_readText 5 = .ok (.iconst 0, 1) := by decide +kernel
theorem dX7_readText_6 : decode cX7_readText 6 = .ok (.putfield 76, 3) := by decide +kernel
theorem dX7_readText_9 : decode cX7_readText 9 = .ok (.aload_n 0, 1) := by decide +kernel
theorem dX7_readText_10 : decode cX7_readText 10 = .ok (.getfield 76, 3) := by decide +kernel
theorem dX7_readText_13 : decode cX7_readText 13 = .ok (.aload_n 0, 1) := by decide +kernel
theorem dX7_readText_14 : decode cX7_readText 14 = .ok (.getfield 79, 3) := by decide +kernel
theorem dX7_readText_17 : decode cX7_readText 17 = .ok (.if_icmp .ge 82, 3) := by decide +kernel
theorem dX7_readText_20 : decode cX7_readText 20 = .ok (.aload_n 0, 1) := by decide +kernel
theorem dX7_readText_21 : decode cX7_readText 21 = .ok (.getfield 76, 3) := by decide +kernel
theorem dX7_readText_24 : decode cX7_readText 24 = .ok (.istore_n 1, 1) := by decide +kernel
theorem dX7_readText_25 : decode cX7_readText 25 = .ok (.aload_n 0, 1) := by decide +kernel
theorem dX7_readText_26 : decode cX7_readText 26 = .ok (.getfield 7, 3) := by decide +kernel
theorem dX7_readText_29 : decode cX7_readText 29 = .ok (.aload_n 0, 1) := by decide +kernel
theorem dX7_readText_30 : decode cX7_readText 30 = .ok (.getfield 76, 3) := by decide +kernel
theorem dX7_readText_33 : decode cX7_readText 33 = .ok (.iaload, 1) := by decide +kernel
theorem dX7_readText_34 : decode cX7_readText 34 = .ok (.istore_n 2, 1) := by decide +kernel
theorem dX7_readText_35 : decode cX7_readText 35 = .ok (.aload_n 0, 1) := by decide +kernel
theorem dX7_readText_36 : decode cX7_readText 36 = .ok (.dup, 1) := by decide +kernel
theorem dX7_readText_37 : decode cX7_readText 37 = .ok (.getfield 76, 3) := by decide +kernel
theorem dX7_readText_40 : decode cX7_readText 40 = .ok (.iconst 1, 1) := by decide +kernel
theorem dX7_readText_41 : decode cX7_readText 41 = .ok (.iadd, 1) := by decide +kernel
theorem dX7_readText_42 : decode cX7_readText 42 = .ok (.putfield 76, 3) := by decide +kernel
theorem dX7_readText_45 : decode cX7_readText 45 = .ok (.iload_n 2, 1) := by decide +kernel
theorem dX7_readText_46 : decode cX7_readText 46 = .ok (.bipush 116, 2) := by decide +kernel
theorem dX7_readText_48 : decode cX7_readText 48 = .ok (.if_icmp .ne 10, 3) := by decide +kernel
theorem dX7_readText_51 : decode cX7_readText 51 = .ok (.aload_n 0, 1) := by decide +kernel
theorem dX7_readText_52 : decode cX7_readText 52 = .ok (.invokevirtual 94, 3) := by decide +kernel
theorem dX7_readText_55 : decode cX7_readText 55 = .ok (.goto 34, 3) := by decide +kernel
theorem dX7_readText_58 : decode cX7_readText 58 = .ok (.iload_n 2, 1) := by decide +kernel
theorem dX7_readText_59 : decode cX7_readText 59 = .ok (.bipush 111, 2) := by decide +kernel
theorem dX7_readText_61 : decode cX7_readText 61 = .ok (.if_icmp .ne 10, 3) := by decide +kernel
theorem dX7_readText_64 : decode cX7_readText 64 = .ok (.aload_n 0, 1) := by decide +kernel
theorem dX7_readText_65 : decode cX7_readText 65 = .ok (.invokevirtual 97, 3) := by decide +kernel
theorem dX7_readText_68 : decode cX7_readText 68 = .ok (.goto 21, 3) := by decide +kernel
theorem dX7_readText_71 : decode cX7_readText 71 = .ok (.iload_n 2, 1) := by decide +kernel
theorem dX7_readText_72 : decode cX7_readText 72 = .ok (.bipush 104, 2) := by decide +kernel
theorem dX7_readText_74 : decode cX7_readText 74 = .ok (.if_icmp .ne 14, 3) := by decide +kernel
theorem dX7_readText_77 : decode cX7_readText 77 = .ok (.aload_n 0, 1) := by decide +kernel
theorem dX7_readText_78 : decode cX7_readText 78 = .ok (.invokevirtual 100, 3) := by decide +kernel
theorem dX7_readText_81 : decode cX7_readText 81 = .ok (.ifCond .eq 7, 3) := by decide +kernel
theorem dX7_readText_84 : decode cX7_readText 84 = .ok (.iconst 1, 1) := by decide +kernel
theorem dX7_readText_85 : decode cX7_readText 85 = .ok (.goto 4, 3) := by decide +kernel
theorem dX7_readText_88 : decode cX7_readText 88 = .ok (.iconst 0, 1) := by decide +kernel
theorem dX7_readText_89 : decode cX7_readText 89 = .ok (.istore_n 3, 1) := by decide +kernel
theorem dX7_readText_90 : decode cX7_readText 90 = .ok (.iload_n 3, 1) := by decide +kernel
theorem dX7_readText_91 : decode cX7_readText 91 = .ok (.ifCond .ne 5, 3) := by decide +kernel
theorem dX7_readText_94 : decode cX7_readText 94 = .ok (.iload_n 1, 1) := by decide +kernel
theorem dX7_readText_95 : decode cX7_readText 95 = .ok (.ireturn, 1) := by decide +kernel
theorem dX7_readText_96 : decode cX7_readText 96 = .ok (.goto (-87), 3) := by decide +kernel
theorem dX7_readText_99 : decode cX7_readText 99 = .ok (.bipush (-4), 2) := by decide +kernel
theorem dX7_readText_101 : decode cX7_readText 101 = .ok (.ireturn, 1) := by decide +kernel
theorem dX7_write_0 : decode cX7_write 0 = .ok (.iload_n 1, 1) := by decide +kernel
theorem dX7_write_1 : decode cX7_write 1 = .ok (.bipush 32, 2) := by decide +kernel
theorem dX7_write_3 : decode cX7_write 3 = .ok (.bipush 126, 2) := by decide +kernel
theorem dX7_write_5 : decode cX7_write 5 = .ok (.invokestatic 82, 3) := by decide +kernel
theorem dX7_write_8 : decode cX7_write 8 = .ok (.ifCond .ne 5, 3) := by decide +kernel
theorem dX7_write_11 : decode cX7_write 11 = .ok (.iconst (-1), 1) := by decide +kernel
theorem dX7_write_12 : decode cX7_write 12 = .ok (.ireturn, 1) := by decide +kernel
theorem dX7_write_13 : decode cX7_write 13 = .ok (.aload_n 0, 1) := by decide +kernel
theorem dX7_write_14 : decode cX7_write 14 = .ok (.getfield 79, 3) := by decide +kernel
theorem dX7_write_17 : decode cX7_write 17 = .ok (.sipush 200, 3) := by decide +kernel
theorem dX7_write_20 : decode cX7_write 20 = .ok (.if_icmp .ne 6, 3) := by decide +kernel
theorem dX7_write_23 : decode cX7_write 23 = .ok (.bipush (-3), 2) := by decide +kernel
theorem dX7_write_25 : decode cX7_write 25 = .ok (.ireturn, 1) := by decide +kernel
theorem dX7_write_26 : decode cX7_write 26 = .ok (.aload_n 0, 1) := by decide +kernel
theorem dX7_write_27 : decode cX7_write 27 = .ok (.getfield 7, 3) := by decide +kernel
theorem dX7_write_30 : decode cX7_write 30 = .ok (.aload_n 0, 1) := by decide +kernel
theorem dX7_write_31 : decode cX7_write 31 = .ok (.getfield 79, 3) := by decide +kernel
theorem dX7_write_34 : decode cX7_write 34 = .ok (.iload_n 1, 1) := by decide +kernel
theorem dX7_write_35 : decode cX7_write 35 = .ok (.iastore, 1) := by decide +kernel
theorem dX7_write_36 : decode cX7_write 36 = .ok (.aload_n 0, 1) := by decide +kernel
theorem dX7_write_37 : decode cX7_write 37 = .ok (.dup, 1) := by decide +kernel
theorem dX7_write_38 : decode cX7_write 38 = .ok (.getfield 79, 3) := by decide +kernel
theorem dX7_write_41 : decode cX7_write 41 = .ok (.iconst 1, 1) := by decide +kernel
theorem dX7_write_42 : decode cX7_write 42 = .ok (.iadd, 1) := by decide +kernel
theorem dX7_write_43 : decode cX7_write 43 = .ok (.putfield 79, 3) := by decide +kernel
theorem dX7_write_46 : decode cX7_write 46 = .ok (.aload_n 0, 1) := by decide +kernel
theorem dX7_write_47 : decode cX7_write 47 = .ok (.getfield 79, 3) := by decide +kernel
theorem dX7_write_50 : decode cX7_write 50 = .ok (.ireturn, 1) := by decide +kernel
theorem dX7_wipe_0 : decode cX7_wipe 0 = .ok (.aload_n 0, 1) := by decide +kernel
theorem dX7_wipe_1 : decode cX7_wipe 1 = .ok (.getfield 79, 3) := by decide +kernel
theorem dX7_wipe_4 : decode cX7_wipe 4 = .ok (.istore_n 1, 1) := by decide +kernel
theorem dX7_wipe_5 : decode cX7_wipe 5 = .ok (.aload_n 0, 1) := by decide +kernel
theorem dX7_wipe_6 : decode cX7_wipe 6 = .ok (.iconst 0, 1) := by decide +kernel
theorem dX7_wipe_7 : decode cX7_wipe 7 = .ok (.putfield 79, 3) := by decide +kernel
theorem dX7_wipe_10 : decode cX7_wipe 10 = .ok (.iload_n 1, 1) := by decide +kernel
theorem dX7_wipe_11 : decode cX7_wipe 11 = .ok (.ireturn, 1) := by decide +kernel
theorem dX7_fault_0 : decode cX7_fault 0 = .ok (.aload_n 0, 1) := by decide +kernel
theorem dX7_fault_1 : decode cX7_fault 1 = .ok (.invokevirtual 103, 3) := by decide +kernel
theorem dX7_fault_4 : decode cX7_fault 4 = .ok (.ireturn, 1) := by decide +kernel
theorem dX7_lay_0 : decode cX7_lay 0 = .ok (.aload_n 0, 1) := by decide +kernel
theorem dX7_lay_1 : decode cX7_lay 1 = .ok (.invokevirtual 103, 3) := by decide +kernel
theorem dX7_lay_4 : decode cX7_lay 4 = .ok (.bipush (-4), 2) := by decide +kernel
theorem dX7_lay_6 : decode cX7_lay 6 = .ok (.if_icmp .ne 10, 3) := by decide +kernel
theorem dX7_lay_9 : decode cX7_lay 9 = .ok (.aload_n 0, 1) := by decide +kernel
theorem dX7_lay_10 : decode cX7_lay 10 = .ok (.getfield 55, 3) := by decide +kernel
theorem dX7_lay_13 : decode cX7_lay 13 = .ok (.ifCond .ne 6, 3) := by decide +kernel
theorem dX7_lay_16 : decode cX7_lay 16 = .ok (.bipush (-2), 2) := by decide +kernel
theorem dX7_lay_18 : decode cX7_lay 18 = .ok (.ireturn, 1) := by decide +kernel
theorem dX7_lay_19 : decode cX7_lay 19 = .ok (.aload_n 0, 1) := by decide +kernel
theorem dX7_lay_20 : decode cX7_lay 20 = .ok (.invokevirtual 52, 3) := by decide +kernel
theorem dX7_lay_23 : decode cX7_lay 23 = .ok (.aload_n 0, 1) := by decide +kernel
theorem dX7_lay_24 : decode cX7_lay 24 = .ok (.getfield 61, 3) := by decide +kernel
theorem dX7_lay_27 : decode cX7_lay 27 = .ok (.ireturn, 1) := by decide +kernel
theorem dX7_isOffer_0 : decode cX7_isOffer 0 = .ok (.iload_n 1, 1) := by decide +kernel
theorem dX7_isOffer_1 : decode cX7_isOffer 1 = .ok (.iconst 0, 1) := by decide +kernel
theorem dX7_isOffer_2 : decode cX7_isOffer 2 = .ok (.aload_n 0, 1) := by decide +kernel
theorem dX7_isOffer_3 : decode cX7_isOffer 3 = .ok (.getfield 61, 3) := by decide +kernel
theorem dX7_isOffer_6 : decode cX7_isOffer 6 = .ok (.iconst 1, 1) := by decide +kernel
theorem dX7_isOffer_7 : decode cX7_isOffer 7 = .ok (.isub, 1) := by decide +kernel
theorem dX7_isOffer_8 : decode cX7_isOffer 8 = .ok (.invokestatic 82, 3) := by decide +kernel
theorem dX7_isOffer_11 : decode cX7_isOffer 11 = .ok (.ireturn, 1) := by decide +kernel
theorem dX7_of_0 : decode cX7_of 0 = .ok (.aload_n 0, 1) := by decide +kernel
theorem dX7_of_1 : decode cX7_of 1 = .ok (.getfield 19, 3) := by decide +kernel
theorem dX7_of_4 : decode cX7_of 4 = .ok (.bipush 7, 2) := by decide +kernel
theorem dX7_of_6 : decode cX7_of 6 = .ok (.iload_n 1, 1) := by decide +kernel
theorem dX7_of_7 : decode cX7_of 7 = .ok (.imul, 1) := by decide +kernel
theorem dX7_of_8 : decode cX7_of 8 = .ok (.iload_n 2, 1) := by decide +kernel
theorem dX7_of_9 : decode cX7_of 9 = .ok (.iadd, 1) := by decide +kernel
theorem dX7_of_10 : decode cX7_of 10 = .ok (.iaload, 1) := by decide +kernel
theorem dX7_of_11 : decode cX7_of 11 = .ok (.istore_n 3, 1) := by decide +kernel
theorem dX7_of_12 : decode cX7_of 12 = .ok (.iload_n 2, 1) := by decide +kernel
theorem dX7_of_13 : decode cX7_of 13 = .ok (.iconst 3, 1) := by decide +kernel
theorem dX7_of_14 : decode cX7_of 14 = .ok (.if_icmp .eq 8, 3) := by decide +kernel
theorem dX7_of_17 : decode cX7_of 17 = .ok (.iload_n 2, 1) := by decide +kernel
theorem dX7_of_18 : decode cX7_of 18 = .ok (.iconst 4, 1) := by decide +kernel
theorem dX7_of_19 : decode cX7_of 19 = .ok (.if_icmp .ne 14, 3) := by decide +kernel
theorem dX7_of_22 : decode cX7_of 22 = .ok (.iload_n 3, 1) := by decide +kernel
theorem dX7_of_23 : decode cX7_of 23 = .ok (.aload_n 0, 1) := by decide +kernel
theorem dX7_of_24 : decode cX7_of 24 = .ok (.getfield 25, 3) := by decide +kernel
theorem dX7_of_27 : decode cX7_of 27 = .ok (.iload_n 1, 1) := by decide +kernel
theorem dX7_of_28 : decode cX7_of 28 = .ok (.iaload, 1) := by decide +kernel
theorem dX7_of_29 : decode cX7_of 29 = .ok (.iadd, 1) := by decide +kernel
theorem dX7_of_30 : decode cX7_of 30 = .ok (.goto 4, 3) := by decide +kernel
theorem dX7_of_33 : decode cX7_of 33 = .ok (.iload_n 3, 1) := by decide +kernel
theorem dX7_of_34 : decode cX7_of 34 = .ok (.ireturn, 1) := by decide +kernel
theorem dX7_isSigned_0 : decode cX7_isSigned 0 = .ok (.aload_n 0, 1) := by decide +kernel
theorem dX7_isSigned_1 : decode cX7_isSigned 1 = .ok (.getfield 25, 3) := by decide +kernel
theorem dX7_isSigned_4 : decode cX7_isSigned 4 = .ok (.bipush 10, 2) := by decide +kernel
theorem dX7_isSigned_6 : decode cX7_isSigned 6 = .ok (.iaload, 1) := by decide +kernel
theorem dX7_isSigned_7 : decode cX7_isSigned 7 = .ok (.iload_n 1, 1) := by decide +kernel
theorem dX7_isSigned_8 : decode cX7_isSigned 8 = .ok (.ishr, 1) := by decide +kernel
theorem dX7_isSigned_9 : decode cX7_isSigned 9 = .ok (.iconst 1, 1) := by decide +kernel
theorem dX7_isSigned_10 : decode cX7_isSigned 10 = .ok (.iand, 1) := by decide +kernel
theorem dX7_isSigned_11 : decode cX7_isSigned 11 = .ok (.iconst 1, 1) := by decide +kernel
theorem dX7_isSigned_12 : decode cX7_isSigned 12 = .ok (.if_icmp .ne 7, 3) := by decide +kernel
theorem dX7_isSigned_15 : decode cX7_isSigned 15 = .ok (.iconst 1, 1) := by decide +kernel
theorem dX7_isSigned_16 : decode cX7_isSigned 16 = .ok (.goto 4, 3) := by decide +kernel
theorem dX7_isSigned_19 : decode cX7_isSigned 19 = .ok (.iconst 0, 1) := by decide +kernel
theorem dX7_isSigned_20 : decode cX7_isSigned 20 = .ok (.ireturn, 1) := by decide +kernel
theorem dX7_ones_0 : decode cX7_ones 0 = .ok (.iconst 0, 1) := by decide +kernel
theorem dX7_ones_1 : decode cX7_ones 1 = .ok (.istore_n 1, 1) := by decide +kernel
theorem dX7_ones_2 : decode cX7_ones 2 = .ok (.iconst 0, 1) := by decide +kernel
theorem dX7_ones_3 : decode cX7_ones 3 = .ok (.istore_n 2, 1) := by decide +kernel
theorem dX7_ones_4 : decode cX7_ones 4 = .ok (.iload_n 2, 1) := by decide +kernel
theorem dX7_ones_5 : decode cX7_ones 5 = .ok (.bipush 10, 2) := by decide +kernel
theorem dX7_ones_7 : decode cX7_ones 7 = .ok (.if_icmp .ge 17, 3) := by decide +kernel
theorem dX7_ones_10 : decode cX7_ones 10 = .ok (.iload_n 1, 1) := by decide +kernel
theorem dX7_ones_11 : decode cX7_ones 11 = .ok (.iload_n 0, 1) := by decide +kernel
theorem dX7_ones_12 : decode cX7_ones 12 = .ok (.iload_n 2, 1) := by decide +kernel
theorem dX7_ones_13 : decode cX7_ones 13 = .ok (.ishr, 1) := by decide +kernel
theorem dX7_ones_14 : decode cX7_ones 14 = .ok (.iconst 1, 1) := by decide +kernel
theorem dX7_ones_15 : decode cX7_ones 15 = .ok (.iand, 1) := by decide +kernel
theorem dX7_ones_16 : decode cX7_ones 16 = .ok (.iadd, 1) := by decide +kernel
theorem dX7_ones_17 : decode cX7_ones 17 = .ok (.istore_n 1, 1) := by decide +kernel
theorem dX7_ones_18 : decode cX7_ones 18 = .ok (.iinc 2 1, 3) := by decide +kernel
theorem dX7_ones_21 : decode cX7_ones 21 = .ok (.goto (-17), 3) := by decide +kernel
theorem dX7_ones_24 : decode cX7_ones 24 = .ok (.iload_n 1, 1) := by decide +kernel
theorem dX7_ones_25 : decode cX7_ones 25 = .ok (.ireturn, 1) := by decide +kernel
theorem dX7_commonOf_0 : decode cX7_commonOf 0 = .ok (.aload_n 0, 1) := by decide +kernel
theorem dX7_commonOf_1 : decode cX7_commonOf 1 = .ok (.iload_n 1, 1) := by decide +kernel
theorem dX7_commonOf_2 : decode cX7_commonOf 2 = .ok (.iconst 3, 1) := by decide +kernel
theorem dX7_commonOf_3 : decode cX7_commonOf 3 = .ok (.invokevirtual 107, 3) := by decide +kernel
theorem dX7_commonOf_6 : decode cX7_commonOf 6 = .ok (.aload_n 0, 1) := by decide +kernel
theorem dX7_commonOf_7 : decode cX7_commonOf 7 = .ok (.iload_n 2, 1) := by decide +kernel
theorem dX7_commonOf_8 : decode cX7_commonOf 8 = .ok (.iconst 3, 1) := by decide +kernel
theorem dX7_commonOf_9 : decode cX7_commonOf 9 = .ok (.invokevirtual 107, 3) := by decide +kernel
theorem dX7_commonOf_12 : decode cX7_commonOf 12 = .ok (.if_icmp .le 12, 3) := by decide +kernel
theorem dX7_commonOf_15 : decode cX7_commonOf 15 = .ok (.aload_n 0, 1) := by decide +kernel
theorem dX7_commonOf_16 : decode cX7_commonOf 16 = .ok (.iload_n 1, 1) := by decide +kernel
theorem dX7_commonOf_17 : decode cX7_commonOf 17 = .ok (.iconst 3, 1) := by decide +kernel
theorem dX7_commonOf_18 : decode cX7_commonOf 18 = .ok (.invokevirtual 107, 3) := by decide +kernel
theorem dX7_commonOf_21 : decode cX7_commonOf 21 = .ok (.goto 9, 3) := by decide +kernel
theorem dX7_commonOf_24 : decode cX7_commonOf 24 = .ok (.aload_n 0, 1) := by decide +kernel
theorem dX7_commonOf_25 : decode cX7_commonOf 25 = .ok (.iload_n 2, 1) := by decide +kernel
theorem dX7_commonOf_26 : decode cX7_commonOf 26 = .ok (.iconst 3, 1) := by decide +kernel
theorem dX7_commonOf_27 : decode cX7_commonOf 27 = .ok (.invokevirtual 107, 3) := by decide +kernel
theorem dX7_commonOf_30 : decode cX7_commonOf 30 = .ok (.istore_n 3, 1) := by decide +kernel
theorem dX7_commonOf_31 : decode cX7_commonOf 31 = .ok (.aload_n 0, 1) := by decide +kernel
theorem dX7_commonOf_32 : decode cX7_commonOf 32 = .ok (.iload_n 1, 1) := by decide +kernel
theorem dX7_commonOf_33 : decode cX7_commonOf 33 = .ok (.iconst 4, 1) := by decide +kernel
theorem dX7_commonOf_34 : decode cX7_commonOf 34 = .ok (.invokevirtual 107, 3) := by decide +kernel
theorem dX7_commonOf_37 : decode cX7_commonOf 37 = .ok (.aload_n 0, 1) := by decide +kernel
theorem dX7_commonOf_38 : decode cX7_commonOf 38 = .ok (.iload_n 2, 1) := by decide +kernel
theorem dX7_commonOf_39 : decode cX7_commonOf 39 = .ok (.iconst 4, 1) := by decide +kernel
theorem dX7_commonOf_40 : decode cX7_commonOf 40 = .ok (.invokevirtual 107, 3) := by decide +kernel
theorem dX7_commonOf_43 : decode cX7_commonOf 43 = .ok (.if_icmp .ge 12, 3) := by decide +kernel
theorem dX7_commonOf_46 : decode cX7_commonOf 46 = .ok (.aload_n 0, 1) := by decide +kernel
theorem dX7_commonOf_47 : decode cX7_commonOf 47 = .ok (.iload_n 1, 1) := by decide +kernel
theorem dX7_commonOf_48 : decode cX7_commonOf 48 = .ok (.iconst 4, 1) := by decide +kernel
theorem dX7_commonOf_49 : decode cX7_commonOf 49 = .ok (.invokevirtual 107, 3) := by decide +kernel
theorem dX7_commonOf_52 : decode cX7_commonOf 52 = .ok (.goto 9, 3) := by decide +kernel
theorem dX7_commonOf_55 : decode cX7_commonOf 55 = .ok (.aload_n 0, 1) := by decide +kernel
theorem dX7_commonOf_56 : decode cX7_commonOf 56 = .ok (.iload_n 2, 1) := by decide +kernel
theorem dX7_commonOf_57 : decode cX7_commonOf 57 = .ok (.iconst 4, 1) := by decide +kernel
theorem dX7_commonOf_58 : decode cX7_commonOf 58 = .ok (.invokevirtual 107, 3) := by decide +kernel
theorem dX7_commonOf_61 : decode cX7_commonOf 61 = .ok (.istore 4, 2) := by decide +kernel
theorem dX7_commonOf_63 : decode cX7_commonOf 63 = .ok (.iload 4, 2) := by decide +kernel
theorem dX7_commonOf_65 : decode cX7_commonOf 65 = .ok (.iload_n 3, 1) := by decide +kernel
theorem dX7_commonOf_66 : decode cX7_commonOf 66 = .ok (.if_icmp .ge 7, 3) := by decide +kernel
theorem dX7_commonOf_69 : decode cX7_commonOf 69 = .ok (.iconst 0, 1) := by decide +kernel
theorem dX7_commonOf_70 : decode cX7_commonOf 70 = .ok (.goto 9, 3) := by decide +kernel
theorem dX7_commonOf_73 : decode cX7_commonOf 73 = .ok (.iload 4, 2) := by decide +kernel
theorem dX7_commonOf_75 : decode cX7_commonOf 75 = .ok (.iload_n 3, 1) := by decide +kernel
theorem dX7_commonOf_76 : decode cX7_commonOf 76 = .ok (.isub, 1) := by decide +kernel
theorem dX7_commonOf_77 : decode cX7_commonOf 77 = .ok (.iconst 1, 1) := by decide +kernel
theorem dX7_commonOf_78 : decode cX7_commonOf 78 = .ok (.iadd, 1) := by decide +kernel
theorem dX7_commonOf_79 : decode cX7_commonOf 79 = .ok (.istore 5, 2) := by decide +kernel
theorem dX7_commonOf_81 : decode cX7_commonOf 81 = .ok (.aload_n 0, 1) := by decide +kernel
theorem dX7_commonOf_82 : decode cX7_commonOf 82 = .ok (.iload_n 1, 1) := by decide +kernel
theorem dX7_commonOf_83 : decode cX7_commonOf 83 = .ok (.iconst 0, 1) := by decide +kernel
theorem dX7_commonOf_84 : decode cX7_commonOf 84 = .ok (.invokevirtual 107, 3) := by decide +kernel
theorem dX7_commonOf_87 : decode cX7_commonOf 87 = .ok (.aload_n 0, 1) := by decide +kernel
theorem dX7_commonOf_88 : decode cX7_commonOf 88 = .ok (.iload_n 2, 1) := by decide +kernel
theorem dX7_commonOf_89 : decode cX7_commonOf 89 = .ok (.iconst 0, 1) := by decide +kernel
theorem dX7_commonOf_90 : decode cX7_commonOf 90 = .ok (.invokevirtual 107, 3) := by decide +kernel
theorem dX7_commonOf_93 : decode cX7_commonOf 93 = .ok (.iand, 1) := by decide +kernel
theorem dX7_commonOf_94 : decode cX7_commonOf 94 = .ok (.invokestatic 111, 3) := by decide +kernel
theorem dX7_commonOf_97 : decode cX7_commonOf 97 = .ok (.aload_n 0, 1) := by decide +kernel
theorem dX7_commonOf_98 : decode cX7_commonOf 98 = .ok (.iload_n 1, 1) := by decide +kernel
theorem dX7_commonOf_99 : decode cX7_commonOf 99 = .ok (.iconst 1, 1) := by decide +kernel
theorem dX7_commonOf_100 : decode cX7_commonOf 100 = .ok (.invokevirtual 107, 3) := by decide +kernel
theorem dX7_commonOf_103 : decode cX7_commonOf 103 = .ok (.aload_n 0, 1) := by decide +kernel
theorem dX7_commonOf_104 : decode cX7_commonOf 104 = .ok (.iload_n 2, 1) := by decide +kernel
theorem dX7_commonOf_105 : decode cX7_commonOf 105 = .ok (.iconst 1, 1) := by decide +kernel
theorem dX7_commonOf_106 : decode cX7_commonOf 106 = .ok (.invokevirtual 107, 3) := by decide +kernel
theorem dX7_commonOf_109 : decode cX7_commonOf 109 = .ok (.iand, 1) := by decide +kernel
theorem dX7_commonOf_110 : decode cX7_commonOf 110 = .ok (.invokestatic 111, 3) := by decide +kernel
theorem dX7_commonOf_113 : decode cX7_commonOf 113 = .ok (.imul, 1) := by decide +kernel
theorem dX7_commonOf_114 : decode cX7_commonOf 114 = .ok (.aload_n 0, 1) := by decide +kernel
theorem dX7_commonOf_115 : decode cX7_commonOf 115 = .ok (.iload_n 1, 1) := by decide +kernel
theorem dX7_commonOf_116 : decode cX7_commonOf 116 = .ok (.iconst 2, 1) := by decide +kernel
theorem dX7_commonOf_117 : decode cX7_commonOf 117 = .ok (.invokevirtual 107, 3) := by decide +kernel
theorem dX7_commonOf_120 : decode cX7_commonOf 120 = .ok (.aload_n 0, 1) := by decide +kernel
theorem dX7_commonOf_121 : decode cX7_commonOf 121 = .ok (.iload_n 2, 1) := by decide +kernel
theorem dX7_commonOf_122 : decode cX7_commonOf 122 = .ok (.iconst 2, 1) := by decide +kernel
theorem dX7_commonOf_123 : decode cX7_commonOf 123 = .ok (.invokevirtual 107, 3) := by decide +kernel
theorem dX7_commonOf_126 : decode cX7_commonOf 126 = .ok (.iand, 1) := by decide +kernel
theorem dX7_commonOf_127 : decode cX7_commonOf 127 = .ok (.invokestatic 111, 3) := by decide +kernel
theorem dX7_commonOf_130 : decode cX7_commonOf 130 = .ok (.imul, 1) := by decide +kernel
theorem dX7_commonOf_131 : decode cX7_commonOf 131 = .ok (.iload 5, 2) := by decide +kernel
theorem dX7_commonOf_133 : decode cX7_commonOf 133 = .ok (.imul, 1) := by decide +kernel
theorem dX7_commonOf_134 : decode cX7_commonOf 134 = .ok (.ireturn, 1) := by decide +kernel
theorem dX7_doClash_0 : decode cX7_doClash 0 = .ok (.iload_n 1, 1) := by decide +kernel
theorem dX7_doClash_1 : decode cX7_doClash 1 = .ok (.iload_n 2, 1) := by decide +kernel
theorem dX7_doClash_2 : decode cX7_doClash 2 = .ok (.if_icmp .eq 36, 3) := by decide +kernel
theorem dX7_doClash_5 : decode cX7_doClash 5 = .ok (.aload_n 0, 1) := by decide +kernel
theorem dX7_doClash_6 : decode cX7_doClash 6 = .ok (.iload_n 1, 1) := by decide +kernel
theorem dX7_doClash_7 : decode cX7_doClash 7 = .ok (.iconst 5, 1) := by decide +kernel
theorem dX7_doClash_8 : decode cX7_doClash 8 = .ok (.invokevirtual 107, 3) := by decide +kernel
theorem dX7_doClash_11 : decode cX7_doClash 11 = .ok (.iconst 1, 1) := by decide +kernel
theorem dX7_doClash_12 : decode cX7_doClash 12 = .ok (.if_icmp .eq 13, 3) := by decide +kernel
theorem dX7_doClash_15 : decode cX7_doClash 15 = .ok (.aload_n 0, 1) := by decide +kernel
theorem dX7_doClash_16 : decode cX7_doClash 16 = .ok (.iload_n 2, 1) := by decide +kernel
theorem dX7_doClash_17 : decode cX7_doClash 17 = .ok (.iconst 5, 1) := by decide +kernel
theorem dX7_doClash_18 : decode cX7_doClash 18 = .ok (.invokevirtual 107, 3) := by decide +kernel
theorem dX7_doClash_21 : decode cX7_doClash 21 = .ok (.iconst 1, 1) := by decide +kernel
theorem dX7_doClash_22 : decode cX7_doClash 22 = .ok (.if_icmp .ne 16, 3) := by decide +kernel
theorem dX7_doClash_25 : decode cX7_doClash 25 = .ok (.aload_n 0, 1) := by decide +kernel
theorem dX7_doClash_26 : decode cX7_doClash 26 = .ok (.iload_n 1, 1) := by decide +kernel
theorem dX7_doClash_27 : decode cX7_doClash 27 = .ok (.iload_n 2, 1) := by decide +kernel
theorem dX7_doClash_28 : decode cX7_doClash 28 = .ok (.invokevirtual 115, 3) := by decide +kernel
theorem dX7_doClash_31 : decode cX7_doClash 31 = .ok (.ifCond .le 7, 3) := by decide +kernel
theorem dX7_doClash_34 : decode cX7_doClash 34 = .ok (.iconst 1, 1) := by decide +kernel
theorem dX7_doClash_35 : decode cX7_doClash 35 = .ok (.goto 4, 3) := by decide +kernel
theorem dX7_doClash_38 : decode cX7_doClash 38 = .ok (.iconst 0, 1) := by decide +kernel
theorem dX7_doClash_39 : decode cX7_doClash 39 = .ok (.ireturn, 1) := by decide +kernel
theorem dX7_isOfTerm_0 : decode cX7_isOfTerm 0 = .ok (.aload_n 0, 1) := by decide +kernel
theorem dX7_isOfTerm_1 : decode cX7_isOfTerm 1 = .ok (.iload_n 1, 1) := by decide +kernel
theorem dX7_isOfTerm_2 : decode cX7_isOfTerm 2 = .ok (.iconst 3, 1) := by decide +kernel
theorem dX7_isOfTerm_3 : decode cX7_isOfTerm 3 = .ok (.invokevirtual 107, 3) := by decide +kernel
theorem dX7_isOfTerm_6 : decode cX7_isOfTerm 6 = .ok (.aload_n 0, 1) := by decide +kernel
theorem dX7_isOfTerm_7 : decode cX7_isOfTerm 7 = .ok (.getfield 67, 3) := by decide +kernel
theorem dX7_isOfTerm_10 : decode cX7_isOfTerm 10 = .ok (.if_icmp .lt 20, 3) := by decide +kernel
theorem dX7_isOfTerm_13 : decode cX7_isOfTerm 13 = .ok (.aload_n 0, 1) := by decide +kernel
theorem dX7_isOfTerm_14 : decode cX7_isOfTerm 14 = .ok (.iload_n 1, 1) := by decide +kernel
theorem dX7_isOfTerm_15 : decode cX7_isOfTerm 15 = .ok (.iconst 4, 1) := by decide +kernel
theorem dX7_isOfTerm_16 : decode cX7_isOfTerm 16 = .ok (.invokevirtual 107, 3) := by decide +kernel
theorem dX7_isOfTerm_19 : decode cX7_isOfTerm 19 = .ok (.aload_n 0, 1) := by decide +kernel
theorem dX7_isOfTerm_20 : decode cX7_isOfTerm 20 = .ok (.getfield 70, 3) := by decide +kernel
theorem dX7_isOfTerm_23 : decode cX7_isOfTerm 23 = .ok (.if_icmp .gt 7, 3) := by decide +kernel
theorem dX7_isOfTerm_26 : decode cX7_isOfTerm 26 = .ok (.iconst 1, 1) := by decide +kernel
theorem dX7_isOfTerm_27 : decode cX7_isOfTerm 27 = .ok (.goto 4, 3) := by decide +kernel
theorem dX7_isOfTerm_30 : decode cX7_isOfTerm 30 = .ok (.iconst 0, 1) := by decide +kernel
theorem dX7_isOfTerm_31 : decode cX7_isOfTerm 31 = .ok (.ireturn, 1) := by decide +kernel
theorem dX7_beginOf_0 : decode cX7_beginOf 0 = .ok (.bipush (-4), 2) := by decide +kernel
theorem dX7_beginOf_2 : decode cX7_beginOf 2 = .ok (.istore 4, 2) := by decide +kernel
theorem dX7_beginOf_4 : decode cX7_beginOf 4 = .ok (.iconst 0, 1) := by decide +kernel
theorem dX7_beginOf_5 : decode cX7_beginOf 5 = .ok (.istore 5, 2) := by decide +kernel
theorem dX7_beginOf_7 : decode cX7_beginOf 7 = .ok (.iload 5, 2) := by decide +kernel
theorem dX7_beginOf_9 : decode cX7_beginOf 9 = .ok (.aload_n 0, 1) := by decide +kernel
theorem dX7_beginOf_10 : decode cX7_beginOf 10 = .ok (.getfield 61, 3) := by decide +kernel
theorem dX7_beginOf_13 : decode cX7_beginOf 13 = .ok (.if_icmp .ge 94, 3) := by decide +kernel
theorem dX7_beginOf_16 : decode cX7_beginOf 16 = .ok (.iload_n 1, 1) := by decide +kernel
theorem dX7_beginOf_17 : decode cX7_beginOf 17 = .ok (.iload 5, 2) := by decide +kernel
theorem dX7_beginOf_19 : decode cX7_beginOf 19 = .ok (.ishr, 1) := by decide +kernel
theorem dX7_beginOf_20 : decode cX7_beginOf 20 = .ok (.iconst 1, 1) := by decide +kernel
theorem dX7_beginOf_21 : decode cX7_beginOf 21 = .ok (.iand, 1) := by decide +kernel
theorem dX7_beginOf_22 : decode cX7_beginOf 22 = .ok (.iconst 1, 1) := by decide +kernel
theorem dX7_beginOf_23 : decode cX7_beginOf 23 = .ok (.if_icmp .ne 37, 3) := by decide +kernel
theorem dX7_beginOf_26 : decode cX7_beginOf 26 = .ok (.aload_n 0, 1) := by decide +kernel
theorem dX7_beginOf_27 : decode cX7_beginOf 27 = .ok (.iload 5, 2) := by decide +kernel
theorem dX7_beginOf_29 : decode cX7_beginOf 29 = .ok (.iconst 0, 1) := by decide +kernel
theorem dX7_beginOf_30 : decode cX7_beginOf 30 = .ok (.invokevirtual 107, 3) := by decide +kernel
theorem dX7_beginOf_33 : decode cX7_beginOf 33 = .ok (.iload_n 2, 1) := by decide +kernel
theorem dX7_beginOf_34 : decode cX7_beginOf 34 = .ok (.ishr, 1) := by decide +kernel
theorem dX7_beginOf_35 : decode cX7_beginOf 35 = .ok (.iconst 1, 1) := by decide +kernel
theorem dX7_beginOf_36 : decode cX7_beginOf 36 = .ok (.iand, 1) := by decide +kernel
theorem dX7_beginOf_37 : decode cX7_beginOf 37 = .ok (.iconst 1, 1) := by decide +kernel
theorem dX7_beginOf_38 : decode cX7_beginOf 38 = .ok (.if_icmp .ne 22, 3) := by decide +kernel
theorem dX7_beginOf_41 : decode cX7_beginOf 41 = .ok (.aload_n 0, 1) := by decide +kernel
theorem dX7_beginOf_42 : decode cX7_beginOf 42 = .ok (.iload 5, 2) := by decide +kernel
theorem dX7_beginOf_44 : decode cX7_beginOf 44 = .ok (.iconst 2, 1) := by decide +kernel
theorem dX7_beginOf_45 : decode cX7_beginOf 45 = .ok (.invokevirtual 107, 3) := by decide +kernel
theorem dX7_beginOf_48 : decode cX7_beginOf 48 = .ok (.iload_n 3, 1) := by decide +kernel
theorem dX7_beginOf_49 : decode cX7_beginOf 49 = .ok (.ishr, 1) := by decide +kernel
theorem dX7_beginOf_50 : decode cX7_beginOf 50 = .ok (.iconst 1, 1) := by decide +kernel
theorem dX7_beginOf_51 : decode cX7_beginOf 51 = .ok (.iand, 1) := by decide +kernel
theorem dX7_beginOf_52 : decode cX7_beginOf 52 = .ok (.iconst 1, 1) := by decide +kernel
theorem dX7_beginOf_53 : decode cX7_beginOf 53 = .ok (.if_icmp .ne 7, 3) := by decide +kernel
theorem dX7_beginOf_56 : decode cX7_beginOf 56 = .ok (.iconst 1, 1) := by decide +kernel
theorem dX7_beginOf_57 : decode cX7_beginOf 57 = .ok (.goto 4, 3) := by decide +kernel
theorem dX7_beginOf_60 : decode cX7_beginOf 60 = .ok (.iconst 0, 1) := by decide +kernel
theorem dX7_beginOf_61 : decode cX7_beginOf 61 = .ok (.istore 6, 2) := by decide +kernel
theorem dX7_beginOf_63 : decode cX7_beginOf 63 = .ok (.iload 6, 2) := by decide +kernel
theorem dX7_beginOf_65 : decode cX7_beginOf 65 = .ok (.ifCond .eq 32, 3) := by decide +kernel
theorem dX7_beginOf_68 : decode cX7_beginOf 68 = .ok (.iload 4, 2) := by decide +kernel
theorem dX7_beginOf_70 : decode cX7_beginOf 70 = .ok (.bipush (-4), 2) := by decide +kernel
theorem dX7_beginOf_72 : decode cX7_beginOf 72 = .ok (.if_icmp .eq 15, 3) := by decide +kernel
theorem dX7_beginOf_75 : decode cX7_beginOf 75 = .ok (.aload_n 0, 1) := by decide +kernel
theorem dX7_beginOf_76 : decode cX7_beginOf 76 = .ok (.iload 5, 2) := by decide +kernel
theorem dX7_beginOf_78 : decode cX7_beginOf 78 = .ok (.iconst 3, 1) := by decide +kernel
theorem dX7_beginOf_79 : decode cX7_beginOf 79 = .ok (.invokevirtual 107, 3) := by decide +kernel
theorem dX7_beginOf_82 : decode cX7_beginOf 82 = .ok (.iload 4, 2) := by decide +kernel
theorem dX7_beginOf_84 : decode cX7_beginOf 84 = .ok (.if_icmp .ge 13, 3) := by decide +kernel
theorem dX7_beginOf_87 : decode cX7_beginOf 87 = .ok (.aload_n 0, 1) := by decide +kernel
theorem dX7_beginOf_88 : decode cX7_beginOf 88 = .ok (.iload 5, 2) := by decide +kernel
theorem dX7_beginOf_90 : decode cX7_beginOf 90 = .ok (.iconst 3, 1) := by decide +kernel
theorem dX7_beginOf_91 : decode cX7_beginOf 91 = .ok (.invokevirtual 107, 3) := by decide +kernel
theorem dX7_beginOf_94 : decode cX7_beginOf 94 = .ok (.goto 5, 3) := by decide +kernel
theorem dX7_beginOf_97 : decode cX7_beginOf 97 = .ok (.iload 4, 2) := by decide +kernel
theorem dX7_beginOf_99 : decode cX7_beginOf 99 = .ok (.istore 4, 2) := by decide +kernel
theorem dX7_beginOf_101 : decode cX7_beginOf 101 = .ok (.iinc 5 1, 3) := by decide +kernel
theorem dX7_beginOf_104 : decode cX7_beginOf 104 = .ok (.goto (-97), 3) := by decide +kernel
theorem dX7_beginOf_107 : decode cX7_beginOf 107 = .ok (.iload 4, 2) := by decide +kernel
theorem dX7_beginOf_109 : decode cX7_beginOf 109 = .ok (.ireturn, 1) := by decide +kernel
theorem dX7_brokenBy_0 : decode cX7_brokenBy 0 = .ok (.iconst 0, 1) := by decide +kernel
theorem dX7_brokenBy_1 : decode cX7_brokenBy 1 = .ok (.istore_n 3, 1) := by decide +kernel
theorem dX7_brokenBy_2 : decode cX7_brokenBy 2 = .ok (.iconst 0, 1) := by decide +kernel
theorem dX7_brokenBy_3 : decode cX7_brokenBy 3 = .ok (.istore 4, 2) := by decide +kernel
theorem dX7_brokenBy_5 : decode cX7_brokenBy 5 = .ok (.iload 4, 2) := by decide +kernel
theorem dX7_brokenBy_7 : decode cX7_brokenBy 7 = .ok (.bipush 6, 2) := by decide +kernel
theorem dX7_brokenBy_9 : decode cX7_brokenBy 9 = .ok (.if_icmp .ge 88, 3) := by decide +kernel
theorem dX7_brokenBy_12 : decode cX7_brokenBy 12 = .ok (.aload_n 0, 1) := by decide +kernel
theorem dX7_brokenBy_13 : decode cX7_brokenBy 13 = .ok (.iload_n 1, 1) := by decide +kernel
theorem dX7_brokenBy_14 : decode cX7_brokenBy 14 = .ok (.iload 4, 2) := by decide +kernel
theorem dX7_brokenBy_16 : decode cX7_brokenBy 16 = .ok (.aload_n 0, 1) := by decide +kernel
theorem dX7_brokenBy_17 : decode cX7_brokenBy 17 = .ok (.getfield 22, 3) := by decide +kernel
theorem dX7_brokenBy_20 : decode cX7_brokenBy 20 = .ok (.iconst 3, 1) := by decide +kernel
theorem dX7_brokenBy_21 : decode cX7_brokenBy 21 = .ok (.iload_n 2, 1) := by decide +kernel
theorem dX7_brokenBy_22 : decode cX7_brokenBy 22 = .ok (.imul, 1) := by decide +kernel
theorem dX7_brokenBy_23 : decode cX7_brokenBy 23 = .ok (.iaload, 1) := by decide +kernel
theorem dX7_brokenBy_24 : decode cX7_brokenBy 24 = .ok (.invokevirtual 118, 3) := by decide +kernel
theorem dX7_brokenBy_27 : decode cX7_brokenBy 27 = .ok (.istore 5, 2) := by decide +kernel
theorem dX7_brokenBy_29 : decode cX7_brokenBy 29 = .ok (.aload_n 0, 1) := by decide +kernel
theorem dX7_brokenBy_30 : decode cX7_brokenBy 30 = .ok (.iload_n 1, 1) := by decide +kernel
theorem dX7_brokenBy_31 : decode cX7_brokenBy 31 = .ok (.iload 4, 2) := by decide +kernel
theorem dX7_brokenBy_33 : decode cX7_brokenBy 33 = .ok (.aload_n 0, 1) := by decide +kernel
theorem dX7_brokenBy_34 : decode cX7_brokenBy 34 = .ok (.getfield 22, 3) := by decide +kernel
theorem dX7_brokenBy_37 : decode cX7_brokenBy 37 = .ok (.iconst 3, 1) := by decide +kernel
theorem dX7_brokenBy_38 : decode cX7_brokenBy 38 = .ok (.iload_n 2, 1) := by decide +kernel
theorem dX7_brokenBy_39 : decode cX7_brokenBy 39 = .ok (.imul, 1) := by decide +kernel
theorem dX7_brokenBy_40 : decode cX7_brokenBy 40 = .ok (.iconst 1, 1) := by decide +kernel
theorem dX7_brokenBy_41 : decode cX7_brokenBy 41 = .ok (.iadd, 1) := by decide +kernel
theorem dX7_brokenBy_42 : decode cX7_brokenBy 42 = .ok (.iaload, 1) := by decide +kernel
theorem dX7_brokenBy_43 : decode cX7_brokenBy 43 = .ok (.invokevirtual 118, 3) := by decide +kernel
theorem dX7_brokenBy_46 : decode cX7_brokenBy 46 = .ok (.istore 6, 2) := by decide +kernel
theorem dX7_brokenBy_48 : decode cX7_brokenBy 48 = .ok (.iload_n 3, 1) := by decide +kernel
theorem dX7_brokenBy_49 : decode cX7_brokenBy 49 = .ok (.iload 5, 2) := by decide +kernel
theorem dX7_brokenBy_51 : decode cX7_brokenBy 51 = .ok (.bipush (-4), 2) := by decide +kernel
theorem dX7_brokenBy_53 : decode cX7_brokenBy 53 = .ok (.if_icmp .eq 35, 3) := by decide +kernel
theorem dX7_brokenBy_56 : decode cX7_brokenBy 56 = .ok (.iload 6, 2) := by decide +kernel
theorem dX7_brokenBy_58 : decode cX7_brokenBy 58 = .ok (.bipush (-4), 2) := by decide +kernel
theorem dX7_brokenBy_60 : decode cX7_brokenBy 60 = .ok (.if_icmp .eq 28, 3) := by decide +kernel
theorem dX7_brokenBy_63 : decode cX7_brokenBy 63 = .ok (.iload 5, 2) := by decide +kernel
theorem dX7_brokenBy_65 : decode cX7_brokenBy 65 = .ok (.iload 6, 2) := by decide +kernel
theorem dX7_brokenBy_67 : decode cX7_brokenBy 67 = .ok (.aload_n 0, 1) := by decide +kernel
theorem dX7_brokenBy_68 : decode cX7_brokenBy 68 = .ok (.getfield 22, 3) := by decide +kernel
theorem dX7_brokenBy_71 : decode cX7_brokenBy 71 = .ok (.iconst 3, 1) := by decide +kernel
theorem dX7_brokenBy_72 : decode cX7_brokenBy 72 = .ok (.iload_n 2, 1) := by decide +kernel
theorem dX7_brokenBy_73 : decode cX7_brokenBy 73 = .ok (.imul, 1) := by decide +kernel
theorem dX7_brokenBy_74 : decode cX7_brokenBy 74 = .ok (.iconst 2, 1) := by decide +kernel
theorem dX7_brokenBy_75 : decode cX7_brokenBy 75 = .ok (.iadd, 1) := by decide +kernel
theorem dX7_brokenBy_76 : decode cX7_brokenBy 76 = .ok (.iaload, 1) := by decide +kernel
theorem dX7_brokenBy_77 : decode cX7_brokenBy 77 = .ok (.iadd, 1) := by decide +kernel
theorem dX7_brokenBy_78 : decode cX7_brokenBy 78 = .ok (.if_icmp .ge 10, 3) := by decide +kernel
theorem dX7_brokenBy_81 : decode cX7_brokenBy 81 = .ok (.iconst 1, 1) := by decide +kernel
theorem dX7_brokenBy_82 : decode cX7_brokenBy 82 = .ok (.iload 4, 2) := by decide +kernel
theorem dX7_brokenBy_84 : decode cX7_brokenBy 84 = .ok (.ishl, 1) := by decide +kernel
theorem dX7_brokenBy_85 : decode cX7_brokenBy 85 = .ok (.goto 4, 3) := by decide +kernel
theorem dX7_brokenBy_88 : decode cX7_brokenBy 88 = .ok (.iconst 0, 1) := by decide +kernel
theorem dX7_brokenBy_89 : decode cX7_brokenBy 89 = .ok (.ior, 1) := by decide +kernel
theorem dX7_brokenBy_90 : decode cX7_brokenBy 90 = .ok (.istore_n 3, 1) := by decide +kernel
theorem dX7_brokenBy_91 : decode cX7_brokenBy 91 = .ok (.iinc 4 1, 3) := by decide +kernel
theorem dX7_brokenBy_94 : decode cX7_brokenBy 94 = .ok (.goto (-89), 3) := by decide +kernel
theorem dX7_brokenBy_97 : decode cX7_brokenBy 97 = .ok (.iload_n 3, 1) := by decide +kernel
theorem dX7_brokenBy_98 : decode cX7_brokenBy 98 = .ok (.ireturn, 1) := by decide +kernel
theorem dX7_areKept_0 : decode cX7_areKept 0 = .ok (.iconst 1, 1) := by decide +kernel
theorem dX7_areKept_1 : decode cX7_areKept 1 = .ok (.istore_n 2, 1) := by decide +kernel
theorem dX7_areKept_2 : decode cX7_areKept 2 = .ok (.iconst 0, 1) := by decide +kernel
theorem dX7_areKept_3 : decode cX7_areKept 3 = .ok (.istore_n 3, 1) := by decide +kernel
theorem dX7_areKept_4 : decode cX7_areKept 4 = .ok (.iload_n 3, 1) := by decide +kernel
theorem dX7_areKept_5 : decode cX7_areKept 5 = .ok (.aload_n 0, 1) := by decide +kernel
theorem dX7_areKept_6 : decode cX7_areKept 6 = .ok (.getfield 64, 3) := by decide +kernel
theorem dX7_areKept_9 : decode cX7_areKept 9 = .ok (.if_icmp .ge 28, 3) := by decide +kernel
theorem dX7_areKept_12 : decode cX7_areKept 12 = .ok (.iload_n 2, 1) := by decide +kernel
theorem dX7_areKept_13 : decode cX7_areKept 13 = .ok (.ifCond .eq 24, 3) := by decide +kernel
theorem dX7_areKept_16 : decode cX7_areKept 16 = .ok (.aload_n 0, 1) := by decide +kernel
theorem dX7_areKept_17 : decode cX7_areKept 17 = .ok (.iload_n 1, 1) := by decide +kernel
theorem dX7_areKept_18 : decode cX7_areKept 18 = .ok (.iload_n 3, 1) := by decide +kernel
theorem dX7_areKept_19 : decode cX7_areKept 19 = .ok (.invokevirtual 122, 3) := by decide +kernel
theorem dX7_areKept_22 : decode cX7_areKept 22 = .ok (.ifCond .ne 7, 3) := by decide +kernel
theorem dX7_areKept_25 : decode cX7_areKept 25 = .ok (.iconst 1, 1) := by decide +kernel
theorem dX7_areKept_26 : decode cX7_areKept 26 = .ok (.goto 4, 3) := by decide +kernel
theorem dX7_areKept_29 : decode cX7_areKept 29 = .ok (.iconst 0, 1) := by decide +kernel
theorem dX7_areKept_30 : decode cX7_areKept 30 = .ok (.istore_n 2, 1) := by decide +kernel
theorem dX7_areKept_31 : decode cX7_areKept 31 = .ok (.iinc 3 1, 3) := by decide +kernel
theorem dX7_areKept_34 : decode cX7_areKept 34 = .ok (.goto (-30), 3) := by decide +kernel
theorem dX7_areKept_37 : decode cX7_areKept 37 = .ok (.iload_n 2, 1) := by decide +kernel
theorem dX7_areKept_38 : decode cX7_areKept 38 = .ok (.ireturn, 1) := by decide +kernel
theorem dX7_clashOf_0 : decode cX7_clashOf 0 = .ok (.bipush (-4), 2) := by decide +kernel
theorem dX7_clashOf_2 : decode cX7_clashOf 2 = .ok (.istore_n 2, 1) := by decide +kernel
theorem dX7_clashOf_3 : decode cX7_clashOf 3 = .ok (.aload_n 0, 1) := by decide +kernel
theorem dX7_clashOf_4 : decode cX7_clashOf 4 = .ok (.getfield 61, 3) := by decide +kernel
theorem dX7_clashOf_7 : decode cX7_clashOf 7 = .ok (.iconst 1, 1) := by decide +kernel
theorem dX7_clashOf_8 : decode cX7_clashOf 8 = .ok (.isub, 1) := by decide +kernel
theorem dX7_clashOf_9 : decode cX7_clashOf 9 = .ok (.istore_n 3, 1) := by decide +kernel
theorem dX7_clashOf_10 : decode cX7_clashOf 10 = .ok (.iload_n 3, 1) := by decide +kernel
theorem dX7_clashOf_11 : decode cX7_clashOf 11 = .ok (.ifCond .lt 32, 3) := by decide +kernel
theorem dX7_clashOf_14 : decode cX7_clashOf 14 = .ok (.aload_n 0, 1) := by decide +kernel
theorem dX7_clashOf_15 : decode cX7_clashOf 15 = .ok (.iload_n 3, 1) := by decide +kernel
theorem dX7_clashOf_16 : decode cX7_clashOf 16 = .ok (.invokevirtual 125, 3) := by decide +kernel
theorem dX7_clashOf_19 : decode cX7_clashOf 19 = .ok (.ifCond .eq 16, 3) := by decide +kernel
theorem dX7_clashOf_22 : decode cX7_clashOf 22 = .ok (.aload_n 0, 1) := by decide +kernel
theorem dX7_clashOf_23 : decode cX7_clashOf 23 = .ok (.iload_n 1, 1) := by decide +kernel
theorem dX7_clashOf_24 : decode cX7_clashOf 24 = .ok (.iload_n 3, 1) := by decide +kernel
theorem dX7_clashOf_25 : decode cX7_clashOf 25 = .ok (.invokevirtual 128, 3) := by decide +kernel
theorem dX7_clashOf_28 : decode cX7_clashOf 28 = .ok (.ifCond .eq 7, 3) := by decide +kernel
theorem dX7_clashOf_31 : decode cX7_clashOf 31 = .ok (.iload_n 3, 1) := by decide +kernel
theorem dX7_clashOf_32 : decode cX7_clashOf 32 = .ok (.goto 4, 3) := by decide +kernel
theorem dX7_clashOf_35 : decode cX7_clashOf 35 = .ok (.iload_n 2, 1) := by decide +kernel
theorem dX7_clashOf_36 : decode cX7_clashOf 36 = .ok (.istore_n 2, 1) := by decide +kernel
theorem dX7_clashOf_37 : decode cX7_clashOf 37 = .ok (.iinc 3 (-1), 3) := by decide +kernel
theorem dX7_clashOf_40 : decode cX7_clashOf 40 = .ok (.goto (-30), 3) := by decide +kernel
theorem dX7_clashOf_43 : decode cX7_clashOf 43 = .ok (.iload_n 2, 1) := by decide +kernel
theorem dX7_clashOf_44 : decode cX7_clashOf 44 = .ok (.ireturn, 1) := by decide +kernel
theorem dX7_whyOf_0 : decode cX7_whyOf 0 = .ok (.aload_n 0, 1) := by decide +kernel
theorem dX7_whyOf_1 : decode cX7_whyOf 1 = .ok (.iload_n 1, 1) := by decide +kernel
theorem dX7_whyOf_2 : decode cX7_whyOf 2 = .ok (.invokevirtual 125, 3) := by decide +kernel
theorem dX7_whyOf_5 : decode cX7_whyOf 5 = .ok (.ifCond .eq 5, 3) := by decide +kernel
theorem dX7_whyOf_8 : decode cX7_whyOf 8 = .ok (.iconst 1, 1) := by decide +kernel
theorem dX7_whyOf_9 : decode cX7_whyOf 9 = .ok (.ireturn, 1) := by decide +kernel
theorem dX7_whyOf_10 : decode cX7_whyOf 10 = .ok (.aload_n 0, 1) := by decide +kernel
theorem dX7_whyOf_11 : decode cX7_whyOf 11 = .ok (.iload_n 1, 1) := by decide +kernel
theorem dX7_whyOf_12 : decode cX7_whyOf 12 = .ok (.invokevirtual 132, 3) := by decide +kernel
theorem dX7_whyOf_15 : decode cX7_whyOf 15 = .ok (.ifCond .ne 5, 3) := by decide +kernel
theorem dX7_whyOf_18 : decode cX7_whyOf 18 = .ok (.iconst 2, 1) := by decide +kernel
theorem dX7_whyOf_19 : decode cX7_whyOf 19 = .ok (.ireturn, 1) := by decide +kernel
theorem dX7_whyOf_20 : decode cX7_whyOf 20 = .ok (.aload_n 0, 1) := by decide +kernel
theorem dX7_whyOf_21 : decode cX7_whyOf 21 = .ok (.iload_n 1, 1) := by decide +kernel
theorem dX7_whyOf_22 : decode cX7_whyOf 22 = .ok (.invokevirtual 135, 3) := by decide +kernel
theorem dX7_whyOf_25 : decode cX7_whyOf 25 = .ok (.bipush (-4), 2) := by decide +kernel
theorem dX7_whyOf_27 : decode cX7_whyOf 27 = .ok (.if_icmp .eq 7, 3) := by decide +kernel
theorem dX7_whyOf_30 : decode cX7_whyOf 30 = .ok (.iconst 3, 1) := by decide +kernel
theorem dX7_whyOf_31 : decode cX7_whyOf 31 = .ok (.goto 26, 3) := by decide +kernel
theorem dX7_whyOf_34 : decode cX7_whyOf 34 = .ok (.aload_n 0, 1) := by decide +kernel
theorem dX7_whyOf_35 : decode cX7_whyOf 35 = .ok (.aload_n 0, 1) := by decide +kernel
theorem dX7_whyOf_36 : decode cX7_whyOf 36 = .ok (.getfield 25, 3) := by decide +kernel
theorem dX7_whyOf_39 : decode cX7_whyOf 39 = .ok (.bipush 10, 2) := by decide +kernel
theorem dX7_whyOf_41 : decode cX7_whyOf 41 = .ok (.iaload, 1) := by decide +kernel
theorem dX7_whyOf_42 : decode cX7_whyOf 42 = .ok (.iconst 1, 1) := by decide +kernel
theorem dX7_whyOf_43 : decode cX7_whyOf 43 = .ok (.iload_n 1, 1) := by decide +kernel
theorem dX7_whyOf_44 : decode cX7_whyOf 44 = .ok (.ishl, 1) := by decide +kernel
theorem dX7_whyOf_45 : decode cX7_whyOf 45 = .ok (.ior, 1) := by decide +kernel
theorem dX7_whyOf_46 : decode cX7_whyOf 46 = .ok (.invokevirtual 138, 3) := by decide +kernel
theorem dX7_whyOf_49 : decode cX7_whyOf 49 = .ok (.ifCond .eq 7, 3) := by decide +kernel
theorem dX7_whyOf_52 : decode cX7_whyOf 52 = .ok (.iconst 0, 1) := by decide +kernel
theorem dX7_whyOf_53 : decode cX7_whyOf 53 = .ok (.goto 4, 3) := by decide +kernel
theorem dX7_whyOf_56 : decode cX7_whyOf 56 = .ok (.iconst 4, 1) := by decide +kernel
theorem dX7_whyOf_57 : decode cX7_whyOf 57 = .ok (.ireturn, 1) := by decide +kernel
theorem dX7_note_0 : decode cX7_note 0 = .ok (.aload_n 0, 1) := by decide +kernel
theorem dX7_note_1 : decode cX7_note 1 = .ok (.getfield 73, 3) := by decide +kernel
theorem dX7_note_4 : decode cX7_note 4 = .ok (.bipush 6, 2) := by decide +kernel
theorem dX7_note_6 : decode cX7_note 6 = .ok (.if_icmp .ne 42, 3) := by decide +kernel
theorem dX7_note_9 : decode cX7_note 9 = .ok (.iconst 0, 1) := by decide +kernel
theorem dX7_note_10 : decode cX7_note 10 = .ok (.istore_n 1, 1) := by decide +kernel
theorem dX7_note_11 : decode cX7_note 11 = .ok (.iload_n 1, 1) := by decide +kernel
theorem dX7_note_12 : decode cX7_note 12 = .ok (.bipush 55, 2) := by decide +kernel
theorem dX7_note_14 : decode cX7_note 14 = .ok (.if_icmp .ge 24, 3) := by decide +kernel
theorem dX7_note_17 : decode cX7_note 17 = .ok (.aload_n 0, 1) := by decide +kernel
theorem dX7_note_18 : decode cX7_note 18 = .ok (.getfield 28, 3) := by decide +kernel
theorem dX7_note_21 : decode cX7_note 21 = .ok (.iload_n 1, 1) := by decide +kernel
theorem dX7_note_22 : decode cX7_note 22 = .ok (.aload_n 0, 1) := by decide +kernel
theorem dX7_note_23 : decode cX7_note 23 = .ok (.getfield 28, 3) := by decide +kernel
theorem dX7_note_26 : decode cX7_note 26 = .ok (.iload_n 1, 1) := by decide +kernel
theorem dX7_note_27 : decode cX7_note 27 = .ok (.bipush 11, 2) := by decide +kernel
theorem dX7_note_29 : decode cX7_note 29 = .ok (.iadd, 1) := by decide +kernel
theorem dX7_note_30 : decode cX7_note 30 = .ok (.iaload, 1) := by decide +kernel
theorem dX7_note_31 : decode cX7_note 31 = .ok (.iastore, 1) := by decide +kernel
theorem dX7_note_32 : decode cX7_note 32 = .ok (.iinc 1 1, 3) := by decide +kernel
theorem dX7_note_35 : decode cX7_note 35 = .ok (.goto (-24), 3) := by decide +kernel
theorem dX7_note_38 : decode cX7_note 38 = .ok (.aload_n 0, 1) := by decide +kernel
theorem dX7_note_39 : decode cX7_note 39 = .ok (.dup, 1) := by decide +kernel
theorem dX7_note_40 : decode cX7_note 40 = .ok (.getfield 73, 3) := by decide +kernel
theorem dX7_note_43 : decode cX7_note 43 = .ok (.iconst 1, 1) := by decide +kernel
theorem dX7_note_44 : decode cX7_note 44 = .ok (.isub, 1) := by decide +kernel
theorem dX7_note_45 : decode cX7_note 45 = .ok (.putfield 73, 3) := by decide +kernel
theorem dX7_note_48 : decode cX7_note 48 = .ok (.iconst 0, 1) := by decide +kernel
theorem dX7_note_49 : decode cX7_note 49 = .ok (.istore_n 1, 1) := by decide +kernel
theorem dX7_note_50 : decode cX7_note 50 = .ok (.iload_n 1, 1) := by decide +kernel
theorem dX7_note_51 : decode cX7_note 51 = .ok (.bipush 11, 2) := by decide +kernel
theorem dX7_note_53 : decode cX7_note 53 = .ok (.if_icmp .ge 29, 3) := by decide +kernel
theorem dX7_note_56 : decode cX7_note 56 = .ok (.aload_n 0, 1) := by decide +kernel
theorem dX7_note_57 : decode cX7_note 57 = .ok (.getfield 28, 3) := by decide +kernel
theorem dX7_note_60 : decode cX7_note 60 = .ok (.bipush 11, 2) := by decide +kernel
theorem dX7_note_62 : decode cX7_note 62 = .ok (.aload_n 0, 1) := by decide +kernel
theorem dX7_note_63 : decode cX7_note 63 = .ok (.getfield 73, 3) := by decide +kernel
theorem dX7_note_66 : decode cX7_note 66 = .ok (.imul, 1) := by decide +kernel
theorem dX7_note_67 : decode cX7_note 67 = .ok (.iload_n 1, 1) := by decide +kernel
theorem dX7_note_68 : decode cX7_note 68 = .ok (.iadd, 1) := by decide +kernel
theorem dX7_note_69 : decode cX7_note 69 = .ok (.aload_n 0, 1) := by decide +kernel
theorem dX7_note_70 : decode cX7_note 70 = .ok (.getfield 25, 3) := by decide +kernel
theorem dX7_note_73 : decode cX7_note 73 = .ok (.iload_n 1, 1) := by decide +kernel
theorem dX7_note_74 : decode cX7_note 74 = .ok (.iaload, 1) := by decide +kernel
theorem dX7_note_75 : decode cX7_note 75 = .ok (.iastore, 1) := by decide +kernel
theorem dX7_note_76 : decode cX7_note 76 = .ok (.iinc 1 1, 3) := by decide +kernel
theorem dX7_note_79 : decode cX7_note 79 = .ok (.goto (-29), 3) := by decide +kernel
theorem dX7_note_82 : decode cX7_note 82 = .ok (.aload_n 0, 1) := by decide +kernel
theorem dX7_note_83 : decode cX7_note 83 = .ok (.dup, 1) := by decide +kernel
theorem dX7_note_84 : decode cX7_note 84 = .ok (.getfield 73, 3) := by decide +kernel
theorem dX7_note_87 : decode cX7_note 87 = .ok (.iconst 1, 1) := by decide +kernel
theorem dX7_note_88 : decode cX7_note 88 = .ok (.iadd, 1) := by decide +kernel
theorem dX7_note_89 : decode cX7_note 89 = .ok (.putfield 73, 3) := by decide +kernel
theorem dX7_note_92 : decode cX7_note 92 = .ok (.return_, 1) := by decide +kernel
theorem dX7_undo_0 : decode cX7_undo 0 = .ok (.aload_n 0, 1) := by decide +kernel
theorem dX7_undo_1 : decode cX7_undo 1 = .ok (.getfield 73, 3) := by decide +kernel
theorem dX7_undo_4 : decode cX7_undo 4 = .ok (.ifCond .ne 6, 3) := by decide +kernel
theorem dX7_undo_7 : decode cX7_undo 7 = .ok (.bipush (-2), 2) := by decide +kernel
theorem dX7_undo_9 : decode cX7_undo 9 = .ok (.ireturn, 1) := by decide +kernel
theorem dX7_undo_10 : decode cX7_undo 10 = .ok (.aload_n 0, 1) := by decide +kernel
theorem dX7_undo_11 : decode cX7_undo 11 = .ok (.dup, 1) := by decide +kernel
theorem dX7_undo_12 : decode cX7_undo 12 = .ok (.getfield 73, 3) := by decide +kernel
theorem dX7_undo_15 : decode cX7_undo 15 = .ok (.iconst 1, 1) := by decide +kernel
theorem dX7_undo_16 : decode cX7_undo 16 = .ok (.isub, 1) := by decide +kernel
theorem dX7_undo_17 : decode cX7_undo 17 = .ok (.putfield 73, 3) := by decide +kernel
theorem dX7_undo_20 : decode cX7_undo 20 = .ok (.iconst 0, 1) := by decide +kernel
theorem dX7_undo_21 : decode cX7_undo 21 = .ok (.istore_n 1, 1) := by decide +kernel
theorem dX7_undo_22 : decode cX7_undo 22 = .ok (.iload_n 1, 1) := by decide +kernel
theorem dX7_undo_23 : decode cX7_undo 23 = .ok (.bipush 11, 2) := by decide +kernel
theorem dX7_undo_25 : decode cX7_undo 25 = .ok (.if_icmp .ge 29, 3) := by decide +kernel
theorem dX7_undo_28 : decode cX7_undo 28 = .ok (.aload_n 0, 1) := by decide +kernel
theorem dX7_undo_29 : decode cX7_undo 29 = .ok (.getfield 25, 3) := by decide +kernel
theorem dX7_undo_32 : decode cX7_undo 32 = .ok (.iload_n 1, 1) := by decide +kernel
theorem dX7_undo_33 : decode cX7_undo 33 = .ok (.aload_n 0, 1) := by decide +kernel
theorem dX7_undo_34 : decode cX7_undo 34 = .ok (.getfield 28, 3) := by decide +kernel
theorem dX7_undo_37 : decode cX7_undo 37 = .ok (.bipush 11, 2) := by decide +kernel
theorem dX7_undo_39 : decode cX7_undo 39 = .ok (.aload_n 0, 1) := by decide +kernel
theorem dX7_undo_40 : decode cX7_undo 40 = .ok (.getfield 73, 3) := by decide +kernel
theorem dX7_undo_43 : decode cX7_undo 43 = .ok (.imul, 1) := by decide +kernel
theorem dX7_undo_44 : decode cX7_undo 44 = .ok (.iload_n 1, 1) := by decide +kernel
theorem dX7_undo_45 : decode cX7_undo 45 = .ok (.iadd, 1) := by decide +kernel
theorem dX7_undo_46 : decode cX7_undo 46 = .ok (.iaload, 1) := by decide +kernel
theorem dX7_undo_47 : decode cX7_undo 47 = .ok (.iastore, 1) := by decide +kernel
theorem dX7_undo_48 : decode cX7_undo 48 = .ok (.iinc 1 1, 3) := by decide +kernel
theorem dX7_undo_51 : decode cX7_undo 51 = .ok (.goto (-29), 3) := by decide +kernel
theorem dX7_undo_54 : decode cX7_undo 54 = .ok (.aload_n 0, 1) := by decide +kernel
theorem dX7_undo_55 : decode cX7_undo 55 = .ok (.getfield 73, 3) := by decide +kernel
theorem dX7_undo_58 : decode cX7_undo 58 = .ok (.ireturn, 1) := by decide +kernel
theorem dX7_sign_0 : decode cX7_sign 0 = .ok (.aload_n 0, 1) := by decide +kernel
theorem dX7_sign_1 : decode cX7_sign 1 = .ok (.iload_n 1, 1) := by decide +kernel
theorem dX7_sign_2 : decode cX7_sign 2 = .ok (.invokevirtual 141, 3) := by decide +kernel
theorem dX7_sign_5 : decode cX7_sign 5 = .ok (.ifCond .ne 5, 3) := by decide +kernel
theorem dX7_sign_8 : decode cX7_sign 8 = .ok (.iconst (-1), 1) := by decide +kernel
theorem dX7_sign_9 : decode cX7_sign 9 = .ok (.ireturn, 1) := by decide +kernel
theorem dX7_sign_10 : decode cX7_sign 10 = .ok (.aload_n 0, 1) := by decide +kernel
theorem dX7_sign_11 : decode cX7_sign 11 = .ok (.iload_n 1, 1) := by decide +kernel
theorem dX7_sign_12 : decode cX7_sign 12 = .ok (.invokevirtual 144, 3) := by decide +kernel
theorem dX7_sign_15 : decode cX7_sign 15 = .ok (.ifCond .eq 6, 3) := by decide +kernel
theorem dX7_sign_18 : decode cX7_sign 18 = .ok (.bipush (-2), 2) := by decide +kernel
theorem dX7_sign_20 : decode cX7_sign 20 = .ok (.ireturn, 1) := by decide +kernel
theorem dX7_sign_21 : decode cX7_sign 21 = .ok (.aload_n 0, 1) := by decide +kernel
theorem dX7_sign_22 : decode cX7_sign 22 = .ok (.invokevirtual 147, 3) := by decide +kernel
theorem dX7_sign_25 : decode cX7_sign 25 = .ok (.aload_n 0, 1) := by decide +kernel
theorem dX7_sign_26 : decode cX7_sign 26 = .ok (.getfield 25, 3) := by decide +kernel
theorem dX7_sign_29 : decode cX7_sign 29 = .ok (.bipush 10, 2) := by decide +kernel
theorem dX7_sign_31 : decode cX7_sign 31 = .ok (.dup2, 1) := by decide +kernel
theorem dX7_sign_32 : decode cX7_sign 32 = .ok (.iaload, 1) := by decide +kernel
theorem dX7_sign_33 : decode cX7_sign 33 = .ok (.iconst 1, 1) := by decide +kernel
theorem dX7_sign_34 : decode cX7_sign 34 = .ok (.iload_n 1, 1) := by decide +kernel
theorem dX7_sign_35 : decode cX7_sign 35 = .ok (.ishl, 1) := by decide +kernel
theorem dX7_sign_36 : decode cX7_sign 36 = .ok (.ior, 1) := by decide +kernel
theorem dX7_sign_37 : decode cX7_sign 37 = .ok (.iastore, 1) := by decide +kernel
theorem dX7_sign_38 : decode cX7_sign 38 = .ok (.aload_n 0, 1) := by decide +kernel
theorem dX7_sign_39 : decode cX7_sign 39 = .ok (.getfield 25, 3) := by decide +kernel
theorem dX7_sign_42 : decode cX7_sign 42 = .ok (.bipush 10, 2) := by decide +kernel
theorem dX7_sign_44 : decode cX7_sign 44 = .ok (.iaload, 1) := by decide +kernel
theorem dX7_sign_45 : decode cX7_sign 45 = .ok (.invokestatic 111, 3) := by decide +kernel
theorem dX7_sign_48 : decode cX7_sign 48 = .ok (.ireturn, 1) := by decide +kernel
theorem dX7_why_0 : decode cX7_why 0 = .ok (.aload_n 0, 1) := by decide +kernel
theorem dX7_why_1 : decode cX7_why 1 = .ok (.iload_n 1, 1) := by decide +kernel
theorem dX7_why_2 : decode cX7_why 2 = .ok (.invokevirtual 141, 3) := by decide +kernel
theorem dX7_why_5 : decode cX7_why 5 = .ok (.ifCond .eq 11, 3) := by decide +kernel
theorem dX7_why_8 : decode cX7_why 8 = .ok (.aload_n 0, 1) := by decide +kernel
theorem dX7_why_9 : decode cX7_why 9 = .ok (.iload_n 1, 1) := by decide +kernel
theorem dX7_why_10 : decode cX7_why 10 = .ok (.invokevirtual 144, 3) := by decide +kernel
theorem dX7_why_13 : decode cX7_why 13 = .ok (.goto 4, 3) := by decide +kernel
theorem dX7_why_16 : decode cX7_why 16 = .ok (.iconst (-1), 1) := by decide +kernel
theorem dX7_why_17 : decode cX7_why 17 = .ok (.ireturn, 1) := by decide +kernel
theorem dX7_clash_0 : decode cX7_clash 0 = .ok (.aload_n 0, 1) := by decide +kernel
theorem dX7_clash_1 : decode cX7_clash 1 = .ok (.iload_n 1, 1) := by decide +kernel
theorem dX7_clash_2 : decode cX7_clash 2 = .ok (.invokevirtual 141, 3) := by decide +kernel
theorem dX7_clash_5 : decode cX7_clash 5 = .ok (.ifCond .eq 11, 3) := by decide +kernel
theorem dX7_clash_8 : decode cX7_clash 8 = .ok (.aload_n 0, 1) := by decide +kernel
theorem dX7_clash_9 : decode cX7_clash 9 = .ok (.iload_n 1, 1) := by decide +kernel
theorem dX7_clash_10 : decode cX7_clash 10 = .ok (.invokevirtual 135, 3) := by decide +kernel
theorem dX7_clash_13 : decode cX7_clash 13 = .ok (.goto 4, 3) := by decide +kernel
theorem dX7_clash_16 : decode cX7_clash 16 = .ok (.iconst (-1), 1) := by decide +kernel
theorem dX7_clash_17 : decode cX7_clash 17 = .ok (.ireturn, 1) := by decide +kernel
theorem dX7_drop_0 : decode cX7_drop 0 = .ok (.aload_n 0, 1) := by decide +kernel
theorem dX7_drop_1 : decode cX7_drop 1 = .ok (.iload_n 1, 1) := by decide +kernel
theorem dX7_drop_2 : decode cX7_drop 2 = .ok (.invokevirtual 141, 3) := by decide +kernel
theorem dX7_drop_5 : decode cX7_drop 5 = .ok (.ifCond .ne 5, 3) := by decide +kernel
theorem dX7_drop_8 : decode cX7_drop 8 = .ok (.iconst (-1), 1) := by decide +kernel
theorem dX7_drop_9 : decode cX7_drop 9 = .ok (.ireturn, 1) := by decide +kernel
theorem dX7_drop_10 : decode cX7_drop 10 = .ok (.aload_n 0, 1) := by decide +kernel
theorem dX7_drop_11 : decode cX7_drop 11 = .ok (.iload_n 1, 1) := by decide +kernel
theorem dX7_drop_12 : decode cX7_drop 12 = .ok (.invokevirtual 125, 3) := by decide +kernel
theorem dX7_drop_15 : decode cX7_drop 15 = .ok (.ifCond .ne 6, 3) := by decide +kernel
theorem dX7_drop_18 : decode cX7_drop 18 = .ok (.bipush (-2), 2) := by decide +kernel
theorem dX7_drop_20 : decode cX7_drop 20 = .ok (.ireturn, 1) := by decide +kernel
theorem dX7_drop_21 : decode cX7_drop 21 = .ok (.aload_n 0, 1) := by decide +kernel
theorem dX7_drop_22 : decode cX7_drop 22 = .ok (.invokevirtual 147, 3) := by decide +kernel
theorem dX7_drop_25 : decode cX7_drop 25 = .ok (.aload_n 0, 1) := by decide +kernel
theorem dX7_drop_26 : decode cX7_drop 26 = .ok (.getfield 25, 3) := by decide +kernel
theorem dX7_drop_29 : decode cX7_drop 29 = .ok (.bipush 10, 2) := by decide +kernel
theorem dX7_drop_31 : decode cX7_drop 31 = .ok (.dup2, 1) := by decide +kernel
theorem dX7_drop_32 : decode cX7_drop 32 = .ok (.iaload, 1) := by decide +kernel
theorem dX7_drop_33 : decode cX7_drop 33 = .ok (.iconst 1, 1) := by decide +kernel
theorem dX7_drop_34 : decode cX7_drop 34 = .ok (.iload_n 1, 1) := by decide +kernel
theorem dX7_drop_35 : decode cX7_drop 35 = .ok (.ishl, 1) := by decide +kernel
theorem dX7_drop_36 : decode cX7_drop 36 = .ok (.iconst (-1), 1) := by decide +kernel
theorem dX7_drop_37 : decode cX7_drop 37 = .ok (.ixor, 1) := by decide +kernel
theorem dX7_drop_38 : decode cX7_drop 38 = .ok (.iand, 1) := by decide +kernel
theorem dX7_drop_39 : decode cX7_drop 39 = .ok (.iastore, 1) := by decide +kernel
theorem dX7_drop_40 : decode cX7_drop 40 = .ok (.aload_n 0, 1) := by decide +kernel
theorem dX7_drop_41 : decode cX7_drop 41 = .ok (.getfield 25, 3) := by decide +kernel
theorem dX7_drop_44 : decode cX7_drop 44 = .ok (.bipush 10, 2) := by decide +kernel
theorem dX7_drop_46 : decode cX7_drop 46 = .ok (.iaload, 1) := by decide +kernel
theorem dX7_drop_47 : decode cX7_drop 47 = .ok (.invokestatic 111, 3) := by decide +kernel
theorem dX7_drop_50 : decode cX7_drop 50 = .ok (.ireturn, 1) := by decide +kernel
theorem dX7_move_0 : decode cX7_move 0 = .ok (.aload_n 0, 1) := by decide +kernel
theorem dX7_move_1 : decode cX7_move 1 = .ok (.iload_n 1, 1) := by decide +kernel
theorem dX7_move_2 : decode cX7_move 2 = .ok (.invokevirtual 141, 3) := by decide +kernel
theorem dX7_move_5 : decode cX7_move 5 = .ok (.ifCond .eq 13, 3) := by decide +kernel
theorem dX7_move_8 : decode cX7_move 8 = .ok (.iload_n 2, 1) := by decide +kernel
theorem dX7_move_9 : decode cX7_move 9 = .ok (.iconst 0, 1) := by decide +kernel
theorem dX7_move_10 : decode cX7_move 10 = .ok (.bipush 51, 2) := by decide +kernel
theorem dX7_move_12 : decode cX7_move 12 = .ok (.invokestatic 82, 3) := by decide +kernel
theorem dX7_move_15 : decode cX7_move 15 = .ok (.ifCond .ne 5, 3) := by decide +kernel
theorem dX7_move_18 : decode cX7_move 18 = .ok (.iconst (-1), 1) := by decide +kernel
theorem dX7_move_19 : decode cX7_move 19 = .ok (.ireturn, 1) := by decide +kernel
theorem dX7_move_20 : decode cX7_move 20 = .ok (.aload_n 0, 1) := by decide +kernel
theorem dX7_move_21 : decode cX7_move 21 = .ok (.getfield 25, 3) := by decide +kernel
theorem dX7_move_24 : decode cX7_move 24 = .ok (.iload_n 1, 1) := by decide +kernel
theorem dX7_move_25 : decode cX7_move 25 = .ok (.iaload, 1) := by decide +kernel
theorem dX7_move_26 : decode cX7_move 26 = .ok (.istore_n 3, 1) := by decide +kernel
theorem dX7_move_27 : decode cX7_move 27 = .ok (.aload_n 0, 1) := by decide +kernel
theorem dX7_move_28 : decode cX7_move 28 = .ok (.iload_n 1, 1) := by decide +kernel
theorem dX7_move_29 : decode cX7_move 29 = .ok (.invokevirtual 125, 3) := by decide +kernel
theorem dX7_move_32 : decode cX7_move 32 = .ok (.ifCond .ne 26, 3) := by decide +kernel
theorem dX7_move_35 : decode cX7_move 35 = .ok (.iload_n 3, 1) := by decide +kernel
theorem dX7_move_36 : decode cX7_move 36 = .ok (.iload_n 2, 1) := by decide +kernel
theorem dX7_move_37 : decode cX7_move 37 = .ok (.if_icmp .eq 21, 3) := by decide +kernel
theorem dX7_move_40 : decode cX7_move 40 = .ok (.aload_n 0, 1) := by decide +kernel
theorem dX7_move_41 : decode cX7_move 41 = .ok (.getfield 19, 3) := by decide +kernel
theorem dX7_move_44 : decode cX7_move 44 = .ok (.bipush 7, 2) := by decide +kernel
theorem dX7_move_46 : decode cX7_move 46 = .ok (.iload_n 1, 1) := by decide +kernel
theorem dX7_move_47 : decode cX7_move 47 = .ok (.imul, 1) := by decide +kernel
theorem dX7_move_48 : decode cX7_move 48 = .ok (.iconst 4, 1) := by decide +kernel
theorem dX7_move_49 : decode cX7_move 49 = .ok (.iadd, 1) := by decide +kernel
theorem dX7_move_50 : decode cX7_move 50 = .ok (.iaload, 1) := by decide +kernel
theorem dX7_move_51 : decode cX7_move 51 = .ok (.iload_n 2, 1) := by decide +kernel
theorem dX7_move_52 : decode cX7_move 52 = .ok (.iadd, 1) := by decide +kernel
theorem dX7_move_53 : decode cX7_move 53 = .ok (.bipush 51, 2) := by decide +kernel
theorem dX7_move_55 : decode cX7_move 55 = .ok (.if_icmp .le 6, 3) := by decide +kernel
theorem dX7_move_58 : decode cX7_move 58 = .ok (.bipush (-2), 2) := by decide +kernel
theorem dX7_move_60 : decode cX7_move 60 = .ok (.ireturn, 1) := by decide +kernel
theorem dX7_move_61 : decode cX7_move 61 = .ok (.aload_n 0, 1) := by decide +kernel
theorem dX7_move_62 : decode cX7_move 62 = .ok (.invokevirtual 147, 3) := by decide +kernel
theorem dX7_move_65 : decode cX7_move 65 = .ok (.aload_n 0, 1) := by decide +kernel
theorem dX7_move_66 : decode cX7_move 66 = .ok (.getfield 25, 3) := by decide +kernel
theorem dX7_move_69 : decode cX7_move 69 = .ok (.iload_n 1, 1) := by decide +kernel
theorem dX7_move_70 : decode cX7_move 70 = .ok (.iload_n 2, 1) := by decide +kernel
theorem dX7_move_71 : decode cX7_move 71 = .ok (.iastore, 1) := by decide +kernel
theorem dX7_move_72 : decode cX7_move 72 = .ok (.iload_n 3, 1) := by decide +kernel
theorem dX7_move_73 : decode cX7_move 73 = .ok (.ireturn, 1) := by decide +kernel
theorem dX7_soonest_0 : decode cX7_soonest 0 = .ok (.aload_n 0, 1) := by decide +kernel
theorem dX7_soonest_1 : decode cX7_soonest 1 = .ok (.iload_n 1, 1) := by decide +kernel
theorem dX7_soonest_2 : decode cX7_soonest 2 = .ok (.invokevirtual 141, 3) := by decide +kernel
theorem dX7_soonest_5 : decode cX7_soonest 5 = .ok (.ifCond .ne 5, 3) := by decide +kernel
theorem dX7_soonest_8 : decode cX7_soonest 8 = .ok (.iconst (-1), 1) := by decide +kernel
theorem dX7_soonest_9 : decode cX7_soonest 9 = .ok (.ireturn, 1) := by decide +kernel
theorem dX7_soonest_10 : decode cX7_soonest 10 = .ok (.aload_n 0, 1) := by decide +kernel
theorem dX7_soonest_11 : decode cX7_soonest 11 = .ok (.iload_n 1, 1) := by decide +kernel
theorem dX7_soonest_12 : decode cX7_soonest 12 = .ok (.invokevirtual 125, 3) := by decide +kernel
theorem dX7_soonest_15 : decode cX7_soonest 15 = .ok (.ifCond .eq 6, 3) := by decide +kernel
theorem dX7_soonest_18 : decode cX7_soonest 18 = .ok (.bipush (-2), 2) := by decide +kernel
theorem dX7_soonest_20 : decode cX7_soonest 20 = .ok (.ireturn, 1) := by decide +kernel
theorem dX7_soonest_21 : decode cX7_soonest 21 = .ok (.aload_n 0, 1) := by decide +kernel
theorem dX7_soonest_22 : decode cX7_soonest 22 = .ok (.getfield 25, 3) := by decide +kernel
theorem dX7_soonest_25 : decode cX7_soonest 25 = .ok (.iload_n 1, 1) := by decide +kernel
theorem dX7_soonest_26 : decode cX7_soonest 26 = .ok (.iaload, 1) := by decide +kernel
theorem dX7_soonest_27 : decode cX7_soonest 27 = .ok (.istore_n 2, 1) := by decide +kernel
theorem dX7_soonest_28 : decode cX7_soonest 28 = .ok (.bipush (-4), 2) := by decide +kernel
theorem dX7_soonest_30 : decode cX7_soonest 30 = .ok (.istore_n 3, 1) := by decide +kernel
theorem dX7_soonest_31 : decode cX7_soonest 31 = .ok (.iload_n 2, 1) := by decide +kernel
theorem dX7_soonest_32 : decode cX7_soonest 32 = .ok (.istore 4, 2) := by decide +kernel
theorem dX7_soonest_34 : decode cX7_soonest 34 = .ok (.aload_n 0, 1) := by decide +kernel
theorem dX7_soonest_35 : decode cX7_soonest 35 = .ok (.getfield 19, 3) := by decide +kernel
theorem dX7_soonest_38 : decode cX7_soonest 38 = .ok (.bipush 7, 2) := by decide +kernel
theorem dX7_soonest_40 : decode cX7_soonest 40 = .ok (.iload_n 1, 1) := by decide +kernel
theorem dX7_soonest_41 : decode cX7_soonest 41 = .ok (.imul, 1) := by decide +kernel
theorem dX7_soonest_42 : decode cX7_soonest 42 = .ok (.iconst 4, 1) := by decide +kernel
theorem dX7_soonest_43 : decode cX7_soonest 43 = .ok (.iadd, 1) := by decide +kernel
theorem dX7_soonest_44 : decode cX7_soonest 44 = .ok (.iaload, 1) := by decide +kernel
theorem dX7_soonest_45 : decode cX7_soonest 45 = .ok (.iload 4, 2) := by decide +kernel
theorem dX7_soonest_47 : decode cX7_soonest 47 = .ok (.iadd, 1) := by decide +kernel
theorem dX7_soonest_48 : decode cX7_soonest 48 = .ok (.bipush 51, 2) := by decide +kernel
theorem dX7_soonest_50 : decode cX7_soonest 50 = .ok (.if_icmp .gt 39, 3) := by decide +kernel
theorem dX7_soonest_53 : decode cX7_soonest 53 = .ok (.iload_n 3, 1) := by decide +kernel
theorem dX7_soonest_54 : decode cX7_soonest 54 = .ok (.bipush (-4), 2) := by decide +kernel
theorem dX7_soonest_56 : decode cX7_soonest 56 = .ok (.if_icmp .ne 33, 3) := by decide +kernel
theorem dX7_soonest_59 : decode cX7_soonest 59 = .ok (.aload_n 0, 1) := by decide +kernel
theorem dX7_soonest_60 : decode cX7_soonest 60 = .ok (.getfield 25, 3) := by decide +kernel
theorem dX7_soonest_63 : decode cX7_soonest 63 = .ok (.iload_n 1, 1) := by decide +kernel
theorem dX7_soonest_64 : decode cX7_soonest 64 = .ok (.iload 4, 2) := by decide +kernel
theorem dX7_soonest_66 : decode cX7_soonest 66 = .ok (.iastore, 1) := by decide +kernel
theorem dX7_soonest_67 : decode cX7_soonest 67 = .ok (.aload_n 0, 1) := by decide +kernel
theorem dX7_soonest_68 : decode cX7_soonest 68 = .ok (.iload_n 1, 1) := by decide +kernel
theorem dX7_soonest_69 : decode cX7_soonest 69 = .ok (.invokevirtual 144, 3) := by decide +kernel
theorem dX7_soonest_72 : decode cX7_soonest 72 = .ok (.ifCond .ne 8, 3) := by decide +kernel
theorem dX7_soonest_75 : decode cX7_soonest 75 = .ok (.iload 4, 2) := by decide +kernel
theorem dX7_soonest_77 : decode cX7_soonest 77 = .ok (.goto 5, 3) := by decide +kernel
theorem dX7_soonest_80 : decode cX7_soonest 80 = .ok (.bipush (-4), 2) := by decide +kernel
theorem dX7_soonest_82 : decode cX7_soonest 82 = .ok (.istore_n 3, 1) := by decide +kernel
theorem dX7_soonest_83 : decode cX7_soonest 83 = .ok (.iinc 4 1, 3) := by decide +kernel
theorem dX7_soonest_86 : decode cX7_soonest 86 = .ok (.goto (-52), 3) := by decide +kernel
theorem dX7_soonest_89 : decode cX7_soonest 89 = .ok (.aload_n 0, 1) := by decide +kernel
theorem dX7_soonest_90 : decode cX7_soonest 90 = .ok (.getfield 25, 3) := by decide +kernel
theorem dX7_soonest_93 : decode cX7_soonest 93 = .ok (.iload_n 1, 1) := by decide +kernel
theorem dX7_soonest_94 : decode cX7_soonest 94 = .ok (.iload_n 2, 1) := by decide +kernel
theorem dX7_soonest_95 : decode cX7_soonest 95 = .ok (.iastore, 1) := by decide +kernel
theorem dX7_soonest_96 : decode cX7_soonest 96 = .ok (.iload_n 3, 1) := by decide +kernel
theorem dX7_soonest_97 : decode cX7_soonest 97 = .ok (.ireturn, 1) := by decide +kernel
theorem dX7_offer_0 : decode cX7_offer 0 = .ok (.aload_n 0, 1) := by decide +kernel
theorem dX7_offer_1 : decode cX7_offer 1 = .ok (.iload_n 1, 1) := by decide +kernel
theorem dX7_offer_2 : decode cX7_offer 2 = .ok (.invokevirtual 141, 3) := by decide +kernel
theorem dX7_offer_5 : decode cX7_offer 5 = .ok (.ifCond .eq 13, 3) := by decide +kernel
theorem dX7_offer_8 : decode cX7_offer 8 = .ok (.iload_n 2, 1) := by decide +kernel
theorem dX7_offer_9 : decode cX7_offer 9 = .ok (.iconst 0, 1) := by decide +kernel
theorem dX7_offer_10 : decode cX7_offer 10 = .ok (.bipush 8, 2) := by decide +kernel
theorem dX7_offer_12 : decode cX7_offer 12 = .ok (.invokestatic 82, 3) := by decide +kernel
theorem dX7_offer_15 : decode cX7_offer 15 = .ok (.ifCond .ne 5, 3) := by decide +kernel
theorem dX7_offer_18 : decode cX7_offer 18 = .ok (.iconst (-1), 1) := by decide +kernel
theorem dX7_offer_19 : decode cX7_offer 19 = .ok (.ireturn, 1) := by decide +kernel
theorem dX7_offer_20 : decode cX7_offer 20 = .ok (.iload_n 2, 1) := by decide +kernel
theorem dX7_offer_21 : decode cX7_offer 21 = .ok (.bipush 7, 2) := by decide +kernel
theorem dX7_offer_23 : decode cX7_offer 23 = .ok (.if_icmp .ge 12, 3) := by decide +kernel
theorem dX7_offer_26 : decode cX7_offer 26 = .ok (.aload_n 0, 1) := by decide +kernel
theorem dX7_offer_27 : decode cX7_offer 27 = .ok (.iload_n 1, 1) := by decide +kernel
theorem dX7_offer_28 : decode cX7_offer 28 = .ok (.iload_n 2, 1) := by decide +kernel
theorem dX7_offer_29 : decode cX7_offer 29 = .ok (.invokevirtual 107, 3) := by decide +kernel
theorem dX7_offer_32 : decode cX7_offer 32 = .ok (.goto 31, 3) := by decide +kernel
theorem dX7_offer_35 : decode cX7_offer 35 = .ok (.iload_n 2, 1) := by decide +kernel
theorem dX7_offer_36 : decode cX7_offer 36 = .ok (.bipush 7, 2) := by decide +kernel
theorem dX7_offer_38 : decode cX7_offer 38 = .ok (.if_icmp .ne 19, 3) := by decide +kernel
theorem dX7_offer_41 : decode cX7_offer 41 = .ok (.aload_n 0, 1) := by decide +kernel
theorem dX7_offer_42 : decode cX7_offer 42 = .ok (.iload_n 1, 1) := by decide +kernel
theorem dX7_offer_43 : decode cX7_offer 43 = .ok (.invokevirtual 125, 3) := by decide +kernel
theorem dX7_offer_46 : decode cX7_offer 46 = .ok (.ifCond .eq 7, 3) := by decide +kernel
theorem dX7_offer_49 : decode cX7_offer 49 = .ok (.iconst 1, 1) := by decide +kernel
theorem dX7_offer_50 : decode cX7_offer 50 = .ok (.goto 13, 3) := by decide +kernel
theorem dX7_offer_53 : decode cX7_offer 53 = .ok (.iconst 0, 1) := by decide +kernel
theorem dX7_offer_54 : decode cX7_offer 54 = .ok (.goto 9, 3) := by decide +kernel
theorem dX7_offer_57 : decode cX7_offer 57 = .ok (.aload_n 0, 1) := by decide +kernel
theorem dX7_offer_58 : decode cX7_offer 58 = .ok (.iload_n 1, 1) := by decide +kernel
theorem dX7_offer_59 : decode cX7_offer 59 = .ok (.iload_n 1, 1) := by decide +kernel
theorem dX7_offer_60 : decode cX7_offer 60 = .ok (.invokevirtual 115, 3) := by decide +kernel
theorem dX7_offer_63 : decode cX7_offer 63 = .ok (.ireturn, 1) := by decide +kernel
theorem dX7_common_0 : decode cX7_common 0 = .ok (.aload_n 0, 1) := by decide +kernel
theorem dX7_common_1 : decode cX7_common 1 = .ok (.iload_n 1, 1) := by decide +kernel
theorem dX7_common_2 : decode cX7_common 2 = .ok (.invokevirtual 141, 3) := by decide +kernel
theorem dX7_common_5 : decode cX7_common 5 = .ok (.ifCond .eq 25, 3) := by decide +kernel
theorem dX7_common_8 : decode cX7_common 8 = .ok (.aload_n 0, 1) := by decide +kernel
theorem dX7_common_9 : decode cX7_common 9 = .ok (.iload_n 2, 1) := by decide +kernel
theorem dX7_common_10 : decode cX7_common 10 = .ok (.invokevirtual 141, 3) := by decide +kernel
theorem dX7_common_13 : decode cX7_common 13 = .ok (.ifCond .eq 17, 3) := by decide +kernel
theorem dX7_common_16 : decode cX7_common 16 = .ok (.iload_n 1, 1) := by decide +kernel
theorem dX7_common_17 : decode cX7_common 17 = .ok (.iload_n 2, 1) := by decide +kernel
theorem dX7_common_18 : decode cX7_common 18 = .ok (.if_icmp .eq 12, 3) := by decide +kernel
theorem dX7_common_21 : decode cX7_common 21 = .ok (.aload_n 0, 1) := by decide +kernel
theorem dX7_common_22 : decode cX7_common 22 = .ok (.iload_n 1, 1) := by decide +kernel
theorem dX7_common_23 : decode cX7_common 23 = .ok (.iload_n 2, 1) := by decide +kernel
theorem dX7_common_24 : decode cX7_common 24 = .ok (.invokevirtual 115, 3) := by decide +kernel
theorem dX7_common_27 : decode cX7_common 27 = .ok (.goto 4, 3) := by decide +kernel
theorem dX7_common_30 : decode cX7_common 30 = .ok (.iconst (-1), 1) := by decide +kernel
theorem dX7_common_31 : decode cX7_common 31 = .ok (.ireturn, 1) := by decide +kernel
theorem dX7_begin_0 : decode cX7_begin 0 = .ok (.iload_n 1, 1) := by decide +kernel
theorem dX7_begin_1 : decode cX7_begin 1 = .ok (.iconst 0, 1) := by decide +kernel
theorem dX7_begin_2 : decode cX7_begin 2 = .ok (.iconst 5, 1) := by decide +kernel
theorem dX7_begin_3 : decode cX7_begin 3 = .ok (.invokestatic 82, 3) := by decide +kernel
theorem dX7_begin_6 : decode cX7_begin 6 = .ok (.ifCond .eq 28, 3) := by decide +kernel
theorem dX7_begin_9 : decode cX7_begin 9 = .ok (.iload_n 2, 1) := by decide +kernel
theorem dX7_begin_10 : decode cX7_begin 10 = .ok (.iconst 0, 1) := by decide +kernel
theorem dX7_begin_11 : decode cX7_begin 11 = .ok (.iconst 3, 1) := by decide +kernel
theorem dX7_begin_12 : decode cX7_begin 12 = .ok (.invokestatic 82, 3) := by decide +kernel
theorem dX7_begin_15 : decode cX7_begin 15 = .ok (.ifCond .eq 19, 3) := by decide +kernel
theorem dX7_begin_18 : decode cX7_begin 18 = .ok (.aload_n 0, 1) := by decide +kernel
theorem dX7_begin_19 : decode cX7_begin 19 = .ok (.aload_n 0, 1) := by decide +kernel
theorem dX7_begin_20 : decode cX7_begin 20 = .ok (.getfield 25, 3) := by decide +kernel
theorem dX7_begin_23 : decode cX7_begin 23 = .ok (.bipush 10, 2) := by decide +kernel
theorem dX7_begin_25 : decode cX7_begin 25 = .ok (.iaload, 1) := by decide +kernel
theorem dX7_begin_26 : decode cX7_begin 26 = .ok (.iload_n 1, 1) := by decide +kernel
theorem dX7_begin_27 : decode cX7_begin 27 = .ok (.iload_n 2, 1) := by decide +kernel
theorem dX7_begin_28 : decode cX7_begin 28 = .ok (.invokevirtual 118, 3) := by decide +kernel
theorem dX7_begin_31 : decode cX7_begin 31 = .ok (.goto 4, 3) := by decide +kernel
theorem dX7_begin_34 : decode cX7_begin 34 = .ok (.iconst (-1), 1) := by decide +kernel
theorem dX7_begin_35 : decode cX7_begin 35 = .ok (.ireturn, 1) := by decide +kernel
theorem dX7_broken_0 : decode cX7_broken 0 = .ok (.iload_n 1, 1) := by decide +kernel
theorem dX7_broken_1 : decode cX7_broken 1 = .ok (.iconst 0, 1) := by decide +kernel
theorem dX7_broken_2 : decode cX7_broken 2 = .ok (.aload_n 0, 1) := by decide +kernel
theorem dX7_broken_3 : decode cX7_broken 3 = .ok (.getfield 64, 3) := by decide +kernel
theorem dX7_broken_6 : decode cX7_broken 6 = .ok (.iconst 1, 1) := by decide +kernel
theorem dX7_broken_7 : decode cX7_broken 7 = .ok (.isub, 1) := by decide +kernel
theorem dX7_broken_8 : decode cX7_broken 8 = .ok (.invokestatic 82, 3) := by decide +kernel
theorem dX7_broken_11 : decode cX7_broken 11 = .ok (.ifCond .eq 18, 3) := by decide +kernel
theorem dX7_broken_14 : decode cX7_broken 14 = .ok (.aload_n 0, 1) := by decide +kernel
theorem dX7_broken_15 : decode cX7_broken 15 = .ok (.aload_n 0, 1) := by decide +kernel
theorem dX7_broken_16 : decode cX7_broken 16 = .ok (.getfield 25, 3) := by decide +kernel
theorem dX7_broken_19 : decode cX7_broken 19 = .ok (.bipush 10, 2) := by decide +kernel
theorem dX7_broken_21 : decode cX7_broken 21 = .ok (.iaload, 1) := by decide +kernel
theorem dX7_broken_22 : decode cX7_broken 22 = .ok (.iload_n 1, 1) := by decide +kernel
theorem dX7_broken_23 : decode cX7_broken 23 = .ok (.invokevirtual 122, 3) := by decide +kernel
theorem dX7_broken_26 : decode cX7_broken 26 = .ok (.goto 4, 3) := by decide +kernel
theorem dX7_broken_29 : decode cX7_broken 29 = .ok (.iconst (-1), 1) := by decide +kernel
theorem dX7_broken_30 : decode cX7_broken 30 = .ok (.ireturn, 1) := by decide +kernel
theorem dX7_has_0 : decode cX7_has 0 = .ok (.aload_n 0, 1) := by decide +kernel
theorem dX7_has_1 : decode cX7_has 1 = .ok (.iload_n 1, 1) := by decide +kernel
theorem dX7_has_2 : decode cX7_has 2 = .ok (.iconst 0, 1) := by decide +kernel
theorem dX7_has_3 : decode cX7_has 3 = .ok (.invokevirtual 107, 3) := by decide +kernel
theorem dX7_has_6 : decode cX7_has 6 = .ok (.iload_n 2, 1) := by decide +kernel
theorem dX7_has_7 : decode cX7_has 7 = .ok (.bipush 16, 2) := by decide +kernel
theorem dX7_has_9 : decode cX7_has 9 = .ok (.idiv, 1) := by decide +kernel
theorem dX7_has_10 : decode cX7_has 10 = .ok (.ishr, 1) := by decide +kernel
theorem dX7_has_11 : decode cX7_has 11 = .ok (.iconst 1, 1) := by decide +kernel
theorem dX7_has_12 : decode cX7_has 12 = .ok (.iand, 1) := by decide +kernel
theorem dX7_has_13 : decode cX7_has 13 = .ok (.iconst 1, 1) := by decide +kernel
theorem dX7_has_14 : decode cX7_has 14 = .ok (.if_icmp .ne 41, 3) := by decide +kernel
theorem dX7_has_17 : decode cX7_has 17 = .ok (.aload_n 0, 1) := by decide +kernel
theorem dX7_has_18 : decode cX7_has 18 = .ok (.iload_n 1, 1) := by decide +kernel
theorem dX7_has_19 : decode cX7_has 19 = .ok (.iconst 1, 1) := by decide +kernel
theorem dX7_has_20 : decode cX7_has 20 = .ok (.invokevirtual 107, 3) := by decide +kernel
theorem dX7_has_23 : decode cX7_has 23 = .ok (.iload_n 2, 1) := by decide +kernel
theorem dX7_has_24 : decode cX7_has 24 = .ok (.iconst 4, 1) := by decide +kernel
theorem dX7_has_25 : decode cX7_has 25 = .ok (.idiv, 1) := by decide +kernel
theorem dX7_has_26 : decode cX7_has 26 = .ok (.iconst 4, 1) := by decide +kernel
theorem dX7_has_27 : decode cX7_has 27 = .ok (.irem, 1) := by decide +kernel
theorem dX7_has_28 : decode cX7_has 28 = .ok (.ishr, 1) := by decide +kernel
theorem dX7_has_29 : decode cX7_has 29 = .ok (.iconst 1, 1) := by decide +kernel
theorem dX7_has_30 : decode cX7_has 30 = .ok (.iand, 1) := by decide +kernel
theorem dX7_has_31 : decode cX7_has 31 = .ok (.iconst 1, 1) := by decide +kernel
theorem dX7_has_32 : decode cX7_has 32 = .ok (.if_icmp .ne 23, 3) := by decide +kernel
theorem dX7_has_35 : decode cX7_has 35 = .ok (.aload_n 0, 1) := by decide +kernel
theorem dX7_has_36 : decode cX7_has 36 = .ok (.iload_n 1, 1) := by decide +kernel
theorem dX7_has_37 : decode cX7_has 37 = .ok (.iconst 2, 1) := by decide +kernel
theorem dX7_has_38 : decode cX7_has 38 = .ok (.invokevirtual 107, 3) := by decide +kernel
theorem dX7_has_41 : decode cX7_has 41 = .ok (.iload_n 2, 1) := by decide +kernel
theorem dX7_has_42 : decode cX7_has 42 = .ok (.iconst 4, 1) := by decide +kernel
theorem dX7_has_43 : decode cX7_has 43 = .ok (.irem, 1) := by decide +kernel
theorem dX7_has_44 : decode cX7_has 44 = .ok (.ishr, 1) := by decide +kernel
theorem dX7_has_45 : decode cX7_has 45 = .ok (.iconst 1, 1) := by decide +kernel
theorem dX7_has_46 : decode cX7_has 46 = .ok (.iand, 1) := by decide +kernel
theorem dX7_has_47 : decode cX7_has 47 = .ok (.iconst 1, 1) := by decide +kernel
theorem dX7_has_48 : decode cX7_has 48 = .ok (.if_icmp .ne 7, 3) := by decide +kernel
theorem dX7_has_51 : decode cX7_has 51 = .ok (.iconst 1, 1) := by decide +kernel
theorem dX7_has_52 : decode cX7_has 52 = .ok (.goto 4, 3) := by decide +kernel
theorem dX7_has_55 : decode cX7_has 55 = .ok (.iconst 0, 1) := by decide +kernel
theorem dX7_has_56 : decode cX7_has 56 = .ok (.istore 4, 2) := by decide +kernel
theorem dX7_has_58 : decode cX7_has 58 = .ok (.iload 4, 2) := by decide +kernel
theorem dX7_has_60 : decode cX7_has 60 = .ok (.ifCond .eq 26, 3) := by decide +kernel
theorem dX7_has_63 : decode cX7_has 63 = .ok (.iload_n 3, 1) := by decide +kernel
theorem dX7_has_64 : decode cX7_has 64 = .ok (.aload_n 0, 1) := by decide +kernel
theorem dX7_has_65 : decode cX7_has 65 = .ok (.iload_n 1, 1) := by decide +kernel
theorem dX7_has_66 : decode cX7_has 66 = .ok (.iconst 3, 1) := by decide +kernel
theorem dX7_has_67 : decode cX7_has 67 = .ok (.invokevirtual 107, 3) := by decide +kernel
theorem dX7_has_70 : decode cX7_has 70 = .ok (.aload_n 0, 1) := by decide +kernel
theorem dX7_has_71 : decode cX7_has 71 = .ok (.iload_n 1, 1) := by decide +kernel
theorem dX7_has_72 : decode cX7_has 72 = .ok (.iconst 4, 1) := by decide +kernel
theorem dX7_has_73 : decode cX7_has 73 = .ok (.invokevirtual 107, 3) := by decide +kernel
theorem dX7_has_76 : decode cX7_has 76 = .ok (.invokestatic 82, 3) := by decide +kernel
theorem dX7_has_79 : decode cX7_has 79 = .ok (.ifCond .eq 7, 3) := by decide +kernel
theorem dX7_has_82 : decode cX7_has 82 = .ok (.iconst 1, 1) := by decide +kernel
theorem dX7_has_83 : decode cX7_has 83 = .ok (.goto 4, 3) := by decide +kernel
theorem dX7_has_86 : decode cX7_has 86 = .ok (.iconst 0, 1) := by decide +kernel
theorem dX7_has_87 : decode cX7_has 87 = .ok (.ireturn, 1) := by decide +kernel
theorem dX7_soldAt_0 : decode cX7_soldAt 0 = .ok (.iconst 0, 1) := by decide +kernel
theorem dX7_soldAt_1 : decode cX7_soldAt 1 = .ok (.istore_n 3, 1) := by decide +kernel
theorem dX7_soldAt_2 : decode cX7_soldAt 2 = .ok (.iconst 0, 1) := by decide +kernel
theorem dX7_soldAt_3 : decode cX7_soldAt 3 = .ok (.istore 4, 2) := by decide +kernel
theorem dX7_soldAt_5 : decode cX7_soldAt 5 = .ok (.iload 4, 2) := by decide +kernel
theorem dX7_soldAt_7 : decode cX7_soldAt 7 = .ok (.aload_n 0, 1) := by decide +kernel
theorem dX7_soldAt_8 : decode cX7_soldAt 8 = .ok (.getfield 61, 3) := by decide +kernel
theorem dX7_soldAt_11 : decode cX7_soldAt 11 = .ok (.if_icmp .ge 37, 3) := by decide +kernel
theorem dX7_soldAt_14 : decode cX7_soldAt 14 = .ok (.iload_n 3, 1) := by decide +kernel
theorem dX7_soldAt_15 : decode cX7_soldAt 15 = .ok (.aload_n 0, 1) := by decide +kernel
theorem dX7_soldAt_16 : decode cX7_soldAt 16 = .ok (.iload 4, 2) := by decide +kernel
theorem dX7_soldAt_18 : decode cX7_soldAt 18 = .ok (.invokevirtual 125, 3) := by decide +kernel
theorem dX7_soldAt_21 : decode cX7_soldAt 21 = .ok (.ifCond .eq 18, 3) := by decide +kernel
theorem dX7_soldAt_24 : decode cX7_soldAt 24 = .ok (.aload_n 0, 1) := by decide +kernel
theorem dX7_soldAt_25 : decode cX7_soldAt 25 = .ok (.iload 4, 2) := by decide +kernel
theorem dX7_soldAt_27 : decode cX7_soldAt 27 = .ok (.iload_n 1, 1) := by decide +kernel
theorem dX7_soldAt_28 : decode cX7_soldAt 28 = .ok (.iload_n 2, 1) := by decide +kernel
theorem dX7_soldAt_29 : decode cX7_soldAt 29 = .ok (.invokevirtual 150, 3) := by decide +kernel
theorem dX7_soldAt_32 : decode cX7_soldAt 32 = .ok (.ifCond .eq 7, 3) := by decide +kernel
theorem dX7_soldAt_35 : decode cX7_soldAt 35 = .ok (.iconst 1, 1) := by decide +kernel
theorem dX7_soldAt_36 : decode cX7_soldAt 36 = .ok (.goto 4, 3) := by decide +kernel
theorem dX7_soldAt_39 : decode cX7_soldAt 39 = .ok (.iconst 0, 1) := by decide +kernel
theorem dX7_soldAt_40 : decode cX7_soldAt 40 = .ok (.iadd, 1) := by decide +kernel
theorem dX7_soldAt_41 : decode cX7_soldAt 41 = .ok (.istore_n 3, 1) := by decide +kernel
theorem dX7_soldAt_42 : decode cX7_soldAt 42 = .ok (.iinc 4 1, 3) := by decide +kernel
theorem dX7_soldAt_45 : decode cX7_soldAt 45 = .ok (.goto (-40), 3) := by decide +kernel
theorem dX7_soldAt_48 : decode cX7_soldAt 48 = .ok (.iload_n 3, 1) := by decide +kernel
theorem dX7_soldAt_49 : decode cX7_soldAt 49 = .ok (.ireturn, 1) := by decide +kernel
theorem dX7_isAloneAt_0 : decode cX7_isAloneAt 0 = .ok (.iconst 0, 1) := by decide +kernel
theorem dX7_isAloneAt_1 : decode cX7_isAloneAt 1 = .ok (.istore_n 3, 1) := by decide +kernel
theorem dX7_isAloneAt_2 : decode cX7_isAloneAt 2 = .ok (.iconst 0, 1) := by decide +kernel
theorem dX7_isAloneAt_3 : decode cX7_isAloneAt 3 = .ok (.istore 4, 2) := by decide +kernel
theorem dX7_isAloneAt_5 : decode cX7_isAloneAt 5 = .ok (.iload 4, 2) := by decide +kernel
theorem dX7_isAloneAt_7 : decode cX7_isAloneAt 7 = .ok (.aload_n 0, 1) := by decide +kernel
theorem dX7_isAloneAt_8 : decode cX7_isAloneAt 8 = .ok (.getfield 61, 3) := by decide +kernel
theorem dX7_isAloneAt_11 : decode cX7_isAloneAt 11 = .ok (.if_icmp .ge 50, 3) := by decide +kernel
theorem dX7_isAloneAt_14 : decode cX7_isAloneAt 14 = .ok (.iload_n 3, 1) := by decide +kernel
theorem dX7_isAloneAt_15 : decode cX7_isAloneAt 15 = .ok (.ifCond .ne 34, 3) := by decide +kernel
theorem dX7_isAloneAt_18 : decode cX7_isAloneAt 18 = .ok (.aload_n 0, 1) := by decide +kernel
theorem dX7_isAloneAt_19 : decode cX7_isAloneAt 19 = .ok (.iload 4, 2) := by decide +kernel
theorem dX7_isAloneAt_21 : decode cX7_isAloneAt 21 = .ok (.invokevirtual 125, 3) := by decide +kernel
theorem dX7_isAloneAt_24 : decode cX7_isAloneAt 24 = .ok (.ifCond .eq 29, 3) := by decide +kernel
