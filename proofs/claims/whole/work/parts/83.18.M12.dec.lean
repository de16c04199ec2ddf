theorem dM_findResiduals_0 : decode cM_findResiduals 0 = .ok (.aload_n 0, 1) := by decide +kernel
theorem dM_findResiduals_1 : decode cM_findResiduals 1 = .ok (.getfield 111, 3) := by decide +kernel
theorem dM_findResiduals_4 : decode cM_findResiduals 4 = .ok (.invokestatic 276, 3) := by decide +kernel
theorem dM_findResiduals_7 : decode cM_findResiduals 7 = .ok (.iconst 0, 1) := by decide +kernel
theorem dM_findResiduals_8 : decode cM_findResiduals 8 = .ok (.istore_n 1, 1) := by decide +kernel
theorem dM_findResiduals_9 : decode cM_findResiduals 9 = .ok (.iload_n 1, 1) := by decide +kernel
theorem dM_findResiduals_10 : decode cM_findResiduals 10 = .ok (.aload_n 0, 1) := by decide +kernel
theorem dM_findResiduals_11 : decode cM_findResiduals 11 = .ok (.getfield 193, 3) := by decide +kernel
theorem dM_findResiduals_14 : decode cM_findResiduals 14 = .ok (.if_icmp .ge 106, 3) := by decide +kernel
theorem dM_findResiduals_17 : decode cM_findResiduals 17 = .ok (.aload_n 0, 1) := by decide +kernel
theorem dM_findResiduals_18 : decode cM_findResiduals 18 = .ok (.iload_n 1, 1) := by decide +kernel
theorem dM_findResiduals_19 : decode cM_findResiduals 19 = .ok (.aload_n 0, 1) := by decide +kernel
theorem dM_findResiduals_20 : decode cM_findResiduals 20 = .ok (.getfield 196, 3) := by decide +kernel
theorem dM_findResiduals_23 : decode cM_findResiduals 23 = .ok (.iconst (-1), 1) := by decide +kernel
theorem dM_findResiduals_24 : decode cM_findResiduals 24 = .ok (.aload_n 0, 1) := by decide +kernel
theorem dM_findResiduals_25 : decode cM_findResiduals 25 = .ok (.getfield 13, 3) := by decide +kernel
theorem dM_findResiduals_28 : decode cM_findResiduals 28 = .ok (.iload_n 1, 1) := by decide +kernel
theorem dM_findResiduals_29 : decode cM_findResiduals 29 = .ok (.iaload, 1) := by decide +kernel
theorem dM_findResiduals_30 : decode cM_findResiduals 30 = .ok (.invokevirtual 290, 3) := by decide +kernel
theorem dM_findResiduals_33 : decode cM_findResiduals 33 = .ok (.iconst 0, 1) := by decide +kernel
theorem dM_findResiduals_34 : decode cM_findResiduals 34 = .ok (.istore_n 2, 1) := by decide +kernel
theorem dM_findResiduals_35 : decode cM_findResiduals 35 = .ok (.iload_n 2, 1) := by decide +kernel
theorem dM_findResiduals_36 : decode cM_findResiduals 36 = .ok (.bipush 19, 2) := by decide +kernel
theorem dM_findResiduals_38 : decode cM_findResiduals 38 = .ok (.if_icmp .ge 45, 3) := by decide +kernel
theorem dM_findResiduals_41 : decode cM_findResiduals 41 = .ok (.aload_n 0, 1) := by decide +kernel
theorem dM_findResiduals_42 : decode cM_findResiduals 42 = .ok (.getfield 111, 3) := by decide +kernel
theorem dM_findResiduals_45 : decode cM_findResiduals 45 = .ok (.iload_n 2, 1) := by decide +kernel
theorem dM_findResiduals_46 : decode cM_findResiduals 46 = .ok (.aload_n 0, 1) := by decide +kernel
theorem dM_findResiduals_47 : decode cM_findResiduals 47 = .ok (.getfield 99, 3) := by decide +kernel
theorem dM_findResiduals_50 : decode cM_findResiduals 50 = .ok (.iload_n 2, 1) := by decide +kernel
theorem dM_findResiduals_51 : decode cM_findResiduals 51 = .ok (.iaload, 1) := by decide +kernel
theorem dM_findResiduals_52 : decode cM_findResiduals 52 = .ok (.aload_n 0, 1) := by decide +kernel
theorem dM_findResiduals_53 : decode cM_findResiduals 53 = .ok (.getfield 111, 3) := by decide +kernel
theorem dM_findResiduals_56 : decode cM_findResiduals 56 = .ok (.iload_n 2, 1) := by decide +kernel
theorem dM_findResiduals_57 : decode cM_findResiduals 57 = .ok (.iaload, 1) := by decide +kernel
theorem dM_findResiduals_58 : decode cM_findResiduals 58 = .ok (.if_icmp .le 12, 3) := by decide +kernel
theorem dM_findResiduals_61 : decode cM_findResiduals 61 = .ok (.aload_n 0, 1) := by decide +kernel
theorem dM_findResiduals_62 : decode cM_findResiduals 62 = .ok (.getfield 99, 3) := by decide +kernel
theorem dM_findResiduals_65 : decode cM_findResiduals 65 = .ok (.iload_n 2, 1) := by decide +kernel
theorem dM_findResiduals_66 : decode cM_findResiduals 66 = .ok (.iaload, 1) := by decide +kernel
theorem dM_findResiduals_67 : decode cM_findResiduals 67 = .ok (.goto 9, 3) := by decide +kernel
theorem dM_findResiduals_70 : decode cM_findResiduals 70 = .ok (.aload_n 0, 1) := by decide +kernel
theorem dM_findResiduals_71 : decode cM_findResiduals 71 = .ok (.getfield 111, 3) := by decide +kernel
theorem dM_findResiduals_74 : decode cM_findResiduals 74 = .ok (.iload_n 2, 1) := by decide +kernel
theorem dM_findResiduals_75 : decode cM_findResiduals 75 = .ok (.iaload, 1) := by decide +kernel
theorem dM_findResiduals_76 : decode cM_findResiduals 76 = .ok (.iastore, 1) := by decide +kernel
theorem dM_findResiduals_77 : decode cM_findResiduals 77 = .ok (.iinc 2 1, 3) := by decide +kernel
theorem dM_findResiduals_80 : decode cM_findResiduals 80 = .ok (.goto (-45), 3) := by decide +kernel
theorem dM_findResiduals_83 : decode cM_findResiduals 83 = .ok (.aload_n 0, 1) := by decide +kernel
theorem dM_findResiduals_84 : decode cM_findResiduals 84 = .ok (.getfield 66, 3) := by decide +kernel
theorem dM_findResiduals_87 : decode cM_findResiduals 87 = .ok (.aload_n 0, 1) := by decide +kernel
theorem dM_findResiduals_88 : decode cM_findResiduals 88 = .ok (.getfield 114, 3) := by decide +kernel
theorem dM_findResiduals_91 : decode cM_findResiduals 91 = .ok (.sipush 132, 3) := by decide +kernel
theorem dM_findResiduals_94 : decode cM_findResiduals 94 = .ok (.iload_n 1, 1) := by decide +kernel
theorem dM_findResiduals_95 : decode cM_findResiduals 95 = .ok (.imul, 1) := by decide +kernel
theorem dM_findResiduals_96 : decode cM_findResiduals 96 = .ok (.invokestatic 294, 3) := by decide +kernel
theorem dM_findResiduals_99 : decode cM_findResiduals 99 = .ok (.aload_n 0, 1) := by decide +kernel
theorem dM_findResiduals_100 : decode cM_findResiduals 100 = .ok (.getfield 99, 3) := by decide +kernel
theorem dM_findResiduals_103 : decode cM_findResiduals 103 = .ok (.aload_n 0, 1) := by decide +kernel
theorem dM_findResiduals_104 : decode cM_findResiduals 104 = .ok (.getfield 117, 3) := by decide +kernel
theorem dM_findResiduals_107 : decode cM_findResiduals 107 = .ok (.bipush 19, 2) := by decide +kernel
theorem dM_findResiduals_109 : decode cM_findResiduals 109 = .ok (.iload_n 1, 1) := by decide +kernel
theorem dM_findResiduals_110 : decode cM_findResiduals 110 = .ok (.imul, 1) := by decide +kernel
theorem dM_findResiduals_111 : decode cM_findResiduals 111 = .ok (.invokestatic 297, 3) := by decide +kernel
theorem dM_findResiduals_114 : decode cM_findResiduals 114 = .ok (.iinc 1 1, 3) := by decide +kernel
theorem dM_findResiduals_117 : decode cM_findResiduals 117 = .ok (.goto (-108), 3) := by decide +kernel
theorem dM_findResiduals_120 : decode cM_findResiduals 120 = .ok (.iconst 0, 1) := by decide +kernel
theorem dM_findResiduals_121 : decode cM_findResiduals 121 = .ok (.istore_n 1, 1) := by decide +kernel
theorem dM_findResiduals_122 : decode cM_findResiduals 122 = .ok (.iload_n 1, 1) := by decide +kernel
theorem dM_findResiduals_123 : decode cM_findResiduals 123 = .ok (.aload_n 0, 1) := by decide +kernel
theorem dM_findResiduals_124 : decode cM_findResiduals 124 = .ok (.getfield 193, 3) := by decide +kernel
theorem dM_findResiduals_127 : decode cM_findResiduals 127 = .ok (.if_icmp .ge 72, 3) := by decide +kernel
theorem dM_findResiduals_130 : decode cM_findResiduals 130 = .ok (.aload_n 0, 1) := by decide +kernel
theorem dM_findResiduals_131 : decode cM_findResiduals 131 = .ok (.getfield 114, 3) := by decide +kernel
theorem dM_findResiduals_134 : decode cM_findResiduals 134 = .ok (.sipush 132, 3) := by decide +kernel
theorem dM_findResiduals_137 : decode cM_findResiduals 137 = .ok (.iload_n 1, 1) := by decide +kernel
theorem dM_findResiduals_138 : decode cM_findResiduals 138 = .ok (.imul, 1) := by decide +kernel
theorem dM_findResiduals_139 : decode cM_findResiduals 139 = .ok (.aload_n 0, 1) := by decide +kernel
theorem dM_findResiduals_140 : decode cM_findResiduals 140 = .ok (.getfield 66, 3) := by decide +kernel
theorem dM_findResiduals_143 : decode cM_findResiduals 143 = .ok (.invokestatic 265, 3) := by decide +kernel
theorem dM_findResiduals_146 : decode cM_findResiduals 146 = .ok (.aload_n 0, 1) := by decide +kernel
theorem dM_findResiduals_147 : decode cM_findResiduals 147 = .ok (.getfield 117, 3) := by decide +kernel
theorem dM_findResiduals_150 : decode cM_findResiduals 150 = .ok (.bipush 19, 2) := by decide +kernel
theorem dM_findResiduals_152 : decode cM_findResiduals 152 = .ok (.iload_n 1, 1) := by decide +kernel
theorem dM_findResiduals_153 : decode cM_findResiduals 153 = .ok (.imul, 1) := by decide +kernel
theorem dM_findResiduals_154 : decode cM_findResiduals 154 = .ok (.aload_n 0, 1) := by decide +kernel
theorem dM_findResiduals_155 : decode cM_findResiduals 155 = .ok (.getfield 99, 3) := by decide +kernel
theorem dM_findResiduals_158 : decode cM_findResiduals 158 = .ok (.invokestatic 269, 3) := by decide +kernel
theorem dM_findResiduals_161 : decode cM_findResiduals 161 = .ok (.aload_n 0, 1) := by decide +kernel
theorem dM_findResiduals_162 : decode cM_findResiduals 162 = .ok (.aload_n 0, 1) := by decide +kernel
theorem dM_findResiduals_163 : decode cM_findResiduals 163 = .ok (.getfield 66, 3) := by decide +kernel
theorem dM_findResiduals_166 : decode cM_findResiduals 166 = .ok (.aload_n 0, 1) := by decide +kernel
theorem dM_findResiduals_167 : decode cM_findResiduals 167 = .ok (.getfield 99, 3) := by decide +kernel
theorem dM_findResiduals_170 : decode cM_findResiduals 170 = .ok (.aload_n 0, 1) := by decide +kernel
theorem dM_findResiduals_171 : decode cM_findResiduals 171 = .ok (.getfield 111, 3) := by decide +kernel
theorem dM_findResiduals_174 : decode cM_findResiduals 174 = .ok (.invokevirtual 180, 3) := by decide +kernel
theorem dM_findResiduals_177 : decode cM_findResiduals 177 = .ok (.aload_n 0, 1) := by decide +kernel
theorem dM_findResiduals_178 : decode cM_findResiduals 178 = .ok (.getfield 66, 3) := by decide +kernel
theorem dM_findResiduals_181 : decode cM_findResiduals 181 = .ok (.aload_n 0, 1) := by decide +kernel
theorem dM_findResiduals_182 : decode cM_findResiduals 182 = .ok (.getfield 114, 3) := by decide +kernel
theorem dM_findResiduals_185 : decode cM_findResiduals 185 = .ok (.sipush 132, 3) := by decide +kernel
theorem dM_findResiduals_188 : decode cM_findResiduals 188 = .ok (.iload_n 1, 1) := by decide +kernel
theorem dM_findResiduals_189 : decode cM_findResiduals 189 = .ok (.imul, 1) := by decide +kernel
theorem dM_findResiduals_190 : decode cM_findResiduals 190 = .ok (.invokestatic 294, 3) := by decide +kernel
theorem dM_findResiduals_193 : decode cM_findResiduals 193 = .ok (.iinc 1 1, 3) := by decide +kernel
theorem dM_findResiduals_196 : decode cM_findResiduals 196 = .ok (.goto (-74), 3) := by decide +kernel
theorem dM_findResiduals_199 : decode cM_findResiduals 199 = .ok (.return_, 1) := by decide +kernel
