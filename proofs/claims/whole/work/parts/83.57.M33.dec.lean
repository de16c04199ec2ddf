theorem dM_sumSquares_0 : decode cM_sumSquares 0 = .ok (.aload_n 0, 1) := by decide +kernel
theorem dM_sumSquares_1 : decode cM_sumSquares 1 = .ok (.getfield 90, 3) := by decide +kernel
theorem dM_sumSquares_4 : decode cM_sumSquares 4 = .ok (.lconst 0, 1) := by decide +kernel
theorem dM_sumSquares_5 : decode cM_sumSquares 5 = .ok (.invokestatic 272, 3) := by decide +kernel
theorem dM_sumSquares_8 : decode cM_sumSquares 8 = .ok (.aload_n 0, 1) := by decide +kernel
theorem dM_sumSquares_9 : decode cM_sumSquares 9 = .ok (.getfield 105, 3) := by decide +kernel
theorem dM_sumSquares_12 : decode cM_sumSquares 12 = .ok (.invokestatic 276, 3) := by decide +kernel
theorem dM_sumSquares_15 : decode cM_sumSquares 15 = .ok (.iconst 0, 1) := by decide +kernel
theorem dM_sumSquares_16 : decode cM_sumSquares 16 = .ok (.istore 4, 2) := by decide +kernel
theorem dM_sumSquares_18 : decode cM_sumSquares 18 = .ok (.iload 4, 2) := by decide +kernel
theorem dM_sumSquares_20 : decode cM_sumSquares 20 = .ok (.aload_n 0, 1) := by decide +kernel
theorem dM_sumSquares_21 : decode cM_sumSquares 21 = .ok (.getfield 193, 3) := by decide +kernel
theorem dM_sumSquares_24 : decode cM_sumSquares 24 = .ok (.if_icmp .ge 111, 3) := by decide +kernel
theorem dM_sumSquares_27 : decode cM_sumSquares 27 = .ok (.lload_n 1, 1) := by decide +kernel
theorem dM_sumSquares_28 : decode cM_sumSquares 28 = .ok (.iload 4, 2) := by decide +kernel
theorem dM_sumSquares_30 : decode cM_sumSquares 30 = .ok (.lshr, 1) := by decide +kernel
theorem dM_sumSquares_31 : decode cM_sumSquares 31 = .ok (.lconst 1, 1) := by decide +kernel
theorem dM_sumSquares_32 : decode cM_sumSquares 32 = .ok (.land, 1) := by decide +kernel
theorem dM_sumSquares_33 : decode cM_sumSquares 33 = .ok (.lconst 1, 1) := by decide +kernel
theorem dM_sumSquares_34 : decode cM_sumSquares 34 = .ok (.lcmp, 1) := by decide +kernel
theorem dM_sumSquares_35 : decode cM_sumSquares 35 = .ok (.ifCond .ne 94, 3) := by decide +kernel
theorem dM_sumSquares_38 : decode cM_sumSquares 38 = .ok (.aload_n 0, 1) := by decide +kernel
theorem dM_sumSquares_39 : decode cM_sumSquares 39 = .ok (.iload 4, 2) := by decide +kernel
theorem dM_sumSquares_41 : decode cM_sumSquares 41 = .ok (.iload_n 3, 1) := by decide +kernel
theorem dM_sumSquares_42 : decode cM_sumSquares 42 = .ok (.iconst (-1), 1) := by decide +kernel
theorem dM_sumSquares_43 : decode cM_sumSquares 43 = .ok (.aload_n 0, 1) := by decide +kernel
theorem dM_sumSquares_44 : decode cM_sumSquares 44 = .ok (.getfield 13, 3) := by decide +kernel
theorem dM_sumSquares_47 : decode cM_sumSquares 47 = .ok (.iload 4, 2) := by decide +kernel
theorem dM_sumSquares_49 : decode cM_sumSquares 49 = .ok (.iaload, 1) := by decide +kernel
theorem dM_sumSquares_50 : decode cM_sumSquares 50 = .ok (.invokevirtual 290, 3) := by decide +kernel
theorem dM_sumSquares_53 : decode cM_sumSquares 53 = .ok (.aload_n 0, 1) := by decide +kernel
theorem dM_sumSquares_54 : decode cM_sumSquares 54 = .ok (.aload_n 0, 1) := by decide +kernel
theorem dM_sumSquares_55 : decode cM_sumSquares 55 = .ok (.getfield 66, 3) := by decide +kernel
theorem dM_sumSquares_58 : decode cM_sumSquares 58 = .ok (.aload_n 0, 1) := by decide +kernel
theorem dM_sumSquares_59 : decode cM_sumSquares 59 = .ok (.getfield 66, 3) := by decide +kernel
theorem dM_sumSquares_62 : decode cM_sumSquares 62 = .ok (.invokevirtual 386, 3) := by decide +kernel
theorem dM_sumSquares_65 : decode cM_sumSquares 65 = .ok (.aload_n 0, 1) := by decide +kernel
theorem dM_sumSquares_66 : decode cM_sumSquares 66 = .ok (.getfield 75, 3) := by decide +kernel
theorem dM_sumSquares_69 : decode cM_sumSquares 69 = .ok (.aload_n 0, 1) := by decide +kernel
theorem dM_sumSquares_70 : decode cM_sumSquares 70 = .ok (.getfield 69, 3) := by decide +kernel
theorem dM_sumSquares_73 : decode cM_sumSquares 73 = .ok (.invokestatic 154, 3) := by decide +kernel
theorem dM_sumSquares_76 : decode cM_sumSquares 76 = .ok (.iconst 0, 1) := by decide +kernel
theorem dM_sumSquares_77 : decode cM_sumSquares 77 = .ok (.istore 5, 2) := by decide +kernel
theorem dM_sumSquares_79 : decode cM_sumSquares 79 = .ok (.iload 5, 2) := by decide +kernel
theorem dM_sumSquares_81 : decode cM_sumSquares 81 = .ok (.bipush 19, 2) := by decide +kernel
theorem dM_sumSquares_83 : decode cM_sumSquares 83 = .ok (.if_icmp .ge 25, 3) := by decide +kernel
theorem dM_sumSquares_86 : decode cM_sumSquares 86 = .ok (.aload_n 0, 1) := by decide +kernel
theorem dM_sumSquares_87 : decode cM_sumSquares 87 = .ok (.getfield 102, 3) := by decide +kernel
theorem dM_sumSquares_90 : decode cM_sumSquares 90 = .ok (.iload 5, 2) := by decide +kernel
theorem dM_sumSquares_92 : decode cM_sumSquares 92 = .ok (.iconst 2, 1) := by decide +kernel
theorem dM_sumSquares_93 : decode cM_sumSquares 93 = .ok (.aload_n 0, 1) := by decide +kernel
theorem dM_sumSquares_94 : decode cM_sumSquares 94 = .ok (.getfield 99, 3) := by decide +kernel
theorem dM_sumSquares_97 : decode cM_sumSquares 97 = .ok (.iload 5, 2) := by decide +kernel
theorem dM_sumSquares_99 : decode cM_sumSquares 99 = .ok (.iaload, 1) := by decide +kernel
theorem dM_sumSquares_100 : decode cM_sumSquares 100 = .ok (.imul, 1) := by decide +kernel
theorem dM_sumSquares_101 : decode cM_sumSquares 101 = .ok (.iastore, 1) := by decide +kernel
theorem dM_sumSquares_102 : decode cM_sumSquares 102 = .ok (.iinc 5 1, 3) := by decide +kernel
theorem dM_sumSquares_105 : decode cM_sumSquares 105 = .ok (.goto (-26), 3) := by decide +kernel
theorem dM_sumSquares_108 : decode cM_sumSquares 108 = .ok (.aload_n 0, 1) := by decide +kernel
theorem dM_sumSquares_109 : decode cM_sumSquares 109 = .ok (.aload_n 0, 1) := by decide +kernel
theorem dM_sumSquares_110 : decode cM_sumSquares 110 = .ok (.getfield 90, 3) := by decide +kernel
theorem dM_sumSquares_113 : decode cM_sumSquares 113 = .ok (.aload_n 0, 1) := by decide +kernel
theorem dM_sumSquares_114 : decode cM_sumSquares 114 = .ok (.getfield 105, 3) := by decide +kernel
theorem dM_sumSquares_117 : decode cM_sumSquares 117 = .ok (.aload_n 0, 1) := by decide +kernel
theorem dM_sumSquares_118 : decode cM_sumSquares 118 = .ok (.getfield 69, 3) := by decide +kernel
theorem dM_sumSquares_121 : decode cM_sumSquares 121 = .ok (.aload_n 0, 1) := by decide +kernel
theorem dM_sumSquares_122 : decode cM_sumSquares 122 = .ok (.getfield 102, 3) := by decide +kernel
theorem dM_sumSquares_125 : decode cM_sumSquares 125 = .ok (.iconst 1, 1) := by decide +kernel
theorem dM_sumSquares_126 : decode cM_sumSquares 126 = .ok (.invokevirtual 286, 3) := by decide +kernel
theorem dM_sumSquares_129 : decode cM_sumSquares 129 = .ok (.iinc 4 1, 3) := by decide +kernel
theorem dM_sumSquares_132 : decode cM_sumSquares 132 = .ok (.goto (-114), 3) := by decide +kernel
theorem dM_sumSquares_135 : decode cM_sumSquares 135 = .ok (.return_, 1) := by decide +kernel
theorem dM_error_0 : decode cM_error 0 = .ok (.aload_n 0, 1) := by decide +kernel
theorem dM_error_1 : decode cM_error 1 = .ok (.iload_n 3, 1) := by decide +kernel
theorem dM_error_2 : decode cM_error 2 = .ok (.iconst 0, 1) := by decide +kernel
theorem dM_error_3 : decode cM_error 3 = .ok (.aload_n 0, 1) := by decide +kernel
theorem dM_error_4 : decode cM_error 4 = .ok (.getfield 196, 3) := by decide +kernel
theorem dM_error_7 : decode cM_error 7 = .ok (.invokestatic 227, 3) := by decide +kernel
theorem dM_error_10 : decode cM_error 10 = .ok (.ifCond .eq 7, 3) := by decide +kernel
theorem dM_error_13 : decode cM_error 13 = .ok (.iconst 0, 1) := by decide +kernel
theorem dM_error_14 : decode cM_error 14 = .ok (.goto 4, 3) := by decide +kernel
theorem dM_error_17 : decode cM_error 17 = .ok (.iconst 1, 1) := by decide +kernel
theorem dM_error_18 : decode cM_error 18 = .ok (.invokevirtual 231, 3) := by decide +kernel
theorem dM_error_21 : decode cM_error 21 = .ok (.ifCond .eq 5, 3) := by decide +kernel
theorem dM_error_24 : decode cM_error 24 = .ok (.iconst 0, 1) := by decide +kernel
theorem dM_error_25 : decode cM_error 25 = .ok (.ireturn, 1) := by decide +kernel
theorem dM_error_26 : decode cM_error 26 = .ok (.aload_n 0, 1) := by decide +kernel
theorem dM_error_27 : decode cM_error 27 = .ok (.lload_n 1, 1) := by decide +kernel
theorem dM_error_28 : decode cM_error 28 = .ok (.iload_n 3, 1) := by decide +kernel
theorem dM_error_29 : decode cM_error 29 = .ok (.invokevirtual 401, 3) := by decide +kernel
theorem dM_error_32 : decode cM_error 32 = .ok (.aload_n 0, 1) := by decide +kernel
theorem dM_error_33 : decode cM_error 33 = .ok (.aload_n 0, 1) := by decide +kernel
theorem dM_error_34 : decode cM_error 34 = .ok (.getfield 90, 3) := by decide +kernel
theorem dM_error_37 : decode cM_error 37 = .ok (.aload_n 0, 1) := by decide +kernel
theorem dM_error_38 : decode cM_error 38 = .ok (.getfield 105, 3) := by decide +kernel
theorem dM_error_41 : decode cM_error 41 = .ok (.invokevirtual 398, 3) := by decide +kernel
theorem dM_error_44 : decode cM_error 44 = .ok (.ireturn, 1) := by decide +kernel
theorem dM_best_0 : decode cM_best 0 = .ok (.aload_n 0, 1) := by decide +kernel
theorem dM_best_1 : decode cM_best 1 = .ok (.iconst 0, 1) := by decide +kernel
theorem dM_best_2 : decode cM_best 2 = .ok (.putfield 144, 3) := by decide +kernel
theorem dM_best_5 : decode cM_best 5 = .ok (.iconst 0, 1) := by decide +kernel
theorem dM_best_6 : decode cM_best 6 = .ok (.istore_n 3, 1) := by decide +kernel
theorem dM_best_7 : decode cM_best 7 = .ok (.aload_n 0, 1) := by decide +kernel
theorem dM_best_8 : decode cM_best 8 = .ok (.lload_n 1, 1) := by decide +kernel
theorem dM_best_9 : decode cM_best 9 = .ok (.iconst 0, 1) := by decide +kernel
theorem dM_best_10 : decode cM_best 10 = .ok (.invokevirtual 401, 3) := by decide +kernel
theorem dM_best_13 : decode cM_best 13 = .ok (.aload_n 0, 1) := by decide +kernel
theorem dM_best_14 : decode cM_best 14 = .ok (.getfield 90, 3) := by decide +kernel
theorem dM_best_17 : decode cM_best 17 = .ok (.aload_n 0, 1) := by decide +kernel
theorem dM_best_18 : decode cM_best 18 = .ok (.getfield 93, 3) := by decide +kernel
theorem dM_best_21 : decode cM_best 21 = .ok (.invokestatic 154, 3) := by decide +kernel
theorem dM_best_24 : decode cM_best 24 = .ok (.aload_n 0, 1) := by decide +kernel
theorem dM_best_25 : decode cM_best 25 = .ok (.getfield 105, 3) := by decide +kernel
theorem dM_best_28 : decode cM_best 28 = .ok (.aload_n 0, 1) := by decide +kernel
theorem dM_best_29 : decode cM_best 29 = .ok (.getfield 108, 3) := by decide +kernel
theorem dM_best_32 : decode cM_best 32 = .ok (.iconst 0, 1) := by decide +kernel
theorem dM_best_33 : decode cM_best 33 = .ok (.invokestatic 297, 3) := by decide +kernel
theorem dM_best_36 : decode cM_best 36 = .ok (.iconst 1, 1) := by decide +kernel
theorem dM_best_37 : decode cM_best 37 = .ok (.istore 4, 2) := by decide +kernel
theorem dM_best_39 : decode cM_best 39 = .ok (.iload 4, 2) := by decide +kernel
theorem dM_best_41 : decode cM_best 41 = .ok (.aload_n 0, 1) := by decide +kernel
theorem dM_best_42 : decode cM_best 42 = .ok (.getfield 196, 3) := by decide +kernel
theorem dM_best_45 : decode cM_best 45 = .ok (.if_icmp .gt 134, 3) := by decide +kernel
theorem dM_best_48 : decode cM_best 48 = .ok (.aload_n 0, 1) := by decide +kernel
theorem dM_best_49 : decode cM_best 49 = .ok (.lload_n 1, 1) := by decide +kernel
theorem dM_best_50 : decode cM_best 50 = .ok (.iload 4, 2) := by decide +kernel
theorem dM_best_52 : decode cM_best 52 = .ok (.invokevirtual 401, 3) := by decide +kernel
theorem dM_best_55 : decode cM_best 55 = .ok (.aload_n 0, 1) := by decide +kernel
theorem dM_best_56 : decode cM_best 56 = .ok (.getfield 90, 3) := by decide +kernel
theorem dM_best_59 : decode cM_best 59 = .ok (.aload_n 0, 1) := by decide +kernel
theorem dM_best_60 : decode cM_best 60 = .ok (.getfield 66, 3) := by decide +kernel
theorem dM_best_63 : decode cM_best 63 = .ok (.invokestatic 154, 3) := by decide +kernel
theorem dM_best_66 : decode cM_best 66 = .ok (.aload_n 0, 1) := by decide +kernel
theorem dM_best_67 : decode cM_best 67 = .ok (.getfield 105, 3) := by decide +kernel
theorem dM_best_70 : decode cM_best 70 = .ok (.aload_n 0, 1) := by decide +kernel
theorem dM_best_71 : decode cM_best 71 = .ok (.getfield 99, 3) := by decide +kernel
theorem dM_best_74 : decode cM_best 74 = .ok (.iconst 0, 1) := by decide +kernel
theorem dM_best_75 : decode cM_best 75 = .ok (.invokestatic 297, 3) := by decide +kernel
theorem dM_best_78 : decode cM_best 78 = .ok (.aload_n 0, 1) := by decide +kernel
theorem dM_best_79 : decode cM_best 79 = .ok (.aload_n 0, 1) := by decide +kernel
theorem dM_best_80 : decode cM_best 80 = .ok (.getfield 66, 3) := by decide +kernel
theorem dM_best_83 : decode cM_best 83 = .ok (.aload_n 0, 1) := by decide +kernel
theorem dM_best_84 : decode cM_best 84 = .ok (.getfield 99, 3) := by decide +kernel
theorem dM_best_87 : decode cM_best 87 = .ok (.aload_n 0, 1) := by decide +kernel
theorem dM_best_88 : decode cM_best 88 = .ok (.getfield 108, 3) := by decide +kernel
theorem dM_best_91 : decode cM_best 91 = .ok (.invokevirtual 180, 3) := by decide +kernel
theorem dM_best_94 : decode cM_best 94 = .ok (.aload_n 0, 1) := by decide +kernel
theorem dM_best_95 : decode cM_best 95 = .ok (.getfield 93, 3) := by decide +kernel
theorem dM_best_98 : decode cM_best 98 = .ok (.aload_n 0, 1) := by decide +kernel
theorem dM_best_99 : decode cM_best 99 = .ok (.getfield 69, 3) := by decide +kernel
theorem dM_best_102 : decode cM_best 102 = .ok (.invokestatic 154, 3) := by decide +kernel
theorem dM_best_105 : decode cM_best 105 = .ok (.aload_n 0, 1) := by decide +kernel
theorem dM_best_106 : decode cM_best 106 = .ok (.getfield 108, 3) := by decide +kernel
theorem dM_best_109 : decode cM_best 109 = .ok (.aload_n 0, 1) := by decide +kernel
theorem dM_best_110 : decode cM_best 110 = .ok (.getfield 102, 3) := by decide +kernel
theorem dM_best_113 : decode cM_best 113 = .ok (.iconst 0, 1) := by decide +kernel
theorem dM_best_114 : decode cM_best 114 = .ok (.invokestatic 297, 3) := by decide +kernel
theorem dM_best_117 : decode cM_best 117 = .ok (.aload_n 0, 1) := by decide +kernel
theorem dM_best_118 : decode cM_best 118 = .ok (.aload_n 0, 1) := by decide +kernel
theorem dM_best_119 : decode cM_best 119 = .ok (.getfield 69, 3) := by decide +kernel
theorem dM_best_122 : decode cM_best 122 = .ok (.aload_n 0, 1) := by decide +kernel
theorem dM_best_123 : decode cM_best 123 = .ok (.getfield 102, 3) := by decide +kernel
theorem dM_best_126 : decode cM_best 126 = .ok (.aload_n 0, 1) := by decide +kernel
theorem dM_best_127 : decode cM_best 127 = .ok (.getfield 105, 3) := by decide +kernel
theorem dM_best_130 : decode cM_best 130 = .ok (.invokevirtual 180, 3) := by decide +kernel
theorem dM_best_133 : decode cM_best 133 = .ok (.aload_n 0, 1) := by decide +kernel
theorem dM_best_134 : decode cM_best 134 = .ok (.getfield 66, 3) := by decide +kernel
theorem dM_best_137 : decode cM_best 137 = .ok (.aload_n 0, 1) := by decide +kernel
theorem dM_best_138 : decode cM_best 138 = .ok (.getfield 69, 3) := by decide +kernel
theorem dM_best_141 : decode cM_best 141 = .ok (.invokestatic 367, 3) := by decide +kernel
theorem dM_best_144 : decode cM_best 144 = .ok (.ifCond .ge 29, 3) := by decide +kernel
theorem dM_best_147 : decode cM_best 147 = .ok (.iload 4, 2) := by decide +kernel
theorem dM_best_149 : decode cM_best 149 = .ok (.istore_n 3, 1) := by decide +kernel
theorem dM_best_150 : decode cM_best 150 = .ok (.aload_n 0, 1) := by decide +kernel
theorem dM_best_151 : decode cM_best 151 = .ok (.getfield 90, 3) := by decide +kernel
theorem dM_best_154 : decode cM_best 154 = .ok (.aload_n 0, 1) := by decide +kernel
theorem dM_best_155 : decode cM_best 155 = .ok (.getfield 93, 3) := by decide +kernel
theorem dM_best_158 : decode cM_best 158 = .ok (.invokestatic 154, 3) := by decide +kernel
theorem dM_best_161 : decode cM_best 161 = .ok (.aload_n 0, 1) := by decide +kernel
theorem dM_best_162 : decode cM_best 162 = .ok (.getfield 105, 3) := by decide +kernel
theorem dM_best_165 : decode cM_best 165 = .ok (.aload_n 0, 1) := by decide +kernel
theorem dM_best_166 : decode cM_best 166 = .ok (.getfield 108, 3) := by decide +kernel
theorem dM_best_169 : decode cM_best 169 = .ok (.iconst 0, 1) := by decide +kernel
theorem dM_best_170 : decode cM_best 170 = .ok (.invokestatic 297, 3) := by decide +kernel
theorem dM_best_173 : decode cM_best 173 = .ok (.iinc 4 1, 3) := by decide +kernel
theorem dM_best_176 : decode cM_best 176 = .ok (.goto (-137), 3) := by decide +kernel
theorem dM_best_179 : decode cM_best 179 = .ok (.iload_n 3, 1) := by decide +kernel
theorem dM_best_180 : decode cM_best 180 = .ok (.ireturn, 1) := by decide +kernel
