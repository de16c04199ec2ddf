theorem dM_look_0 : decode cM_look 0 = .ok (.aload_n 0, 1) := by decide +kernel
theorem dM_look_1 : decode cM_look 1 = .ok (.getfield 87, 3) := by decide +kernel
theorem dM_look_4 : decode cM_look 4 = .ok (.lconst 0, 1) := by decide +kernel
theorem dM_look_5 : decode cM_look 5 = .ok (.invokestatic 272, 3) := by decide +kernel
theorem dM_look_8 : decode cM_look 8 = .ok (.aload_n 0, 1) := by decide +kernel
theorem dM_look_9 : decode cM_look 9 = .ok (.iconst 1, 1) := by decide +kernel
theorem dM_look_10 : decode cM_look 10 = .ok (.putfield 356, 3) := by decide +kernel
theorem dM_look_13 : decode cM_look 13 = .ok (.iconst 0, 1) := by decide +kernel
theorem dM_look_14 : decode cM_look 14 = .ok (.istore_n 3, 1) := by decide +kernel
theorem dM_look_15 : decode cM_look 15 = .ok (.iload_n 3, 1) := by decide +kernel
theorem dM_look_16 : decode cM_look 16 = .ok (.aload_n 0, 1) := by decide +kernel
theorem dM_look_17 : decode cM_look 17 = .ok (.getfield 190, 3) := by decide +kernel
theorem dM_look_20 : decode cM_look 20 = .ok (.if_icmp .ge 212, 3) := by decide +kernel
theorem dM_look_23 : decode cM_look 23 = .ok (.aload_n 0, 1) := by decide +kernel
theorem dM_look_24 : decode cM_look 24 = .ok (.getfield 223, 3) := by decide +kernel
theorem dM_look_27 : decode cM_look 27 = .ok (.iload_n 3, 1) := by decide +kernel
theorem dM_look_28 : decode cM_look 28 = .ok (.ishr, 1) := by decide +kernel
theorem dM_look_29 : decode cM_look 29 = .ok (.iconst 1, 1) := by decide +kernel
theorem dM_look_30 : decode cM_look 30 = .ok (.iand, 1) := by decide +kernel
theorem dM_look_31 : decode cM_look 31 = .ok (.iconst 1, 1) := by decide +kernel
theorem dM_look_32 : decode cM_look 32 = .ok (.if_icmp .ne 194, 3) := by decide +kernel
theorem dM_look_35 : decode cM_look 35 = .ok (.lconst 0, 1) := by decide +kernel
theorem dM_look_36 : decode cM_look 36 = .ok (.lstore 4, 2) := by decide +kernel
theorem dM_look_38 : decode cM_look 38 = .ok (.iconst 0, 1) := by decide +kernel
theorem dM_look_39 : decode cM_look 39 = .ok (.istore 6, 2) := by decide +kernel
theorem dM_look_41 : decode cM_look 41 = .ok (.iload 6, 2) := by decide +kernel
theorem dM_look_43 : decode cM_look 43 = .ok (.aload_n 0, 1) := by decide +kernel
theorem dM_look_44 : decode cM_look 44 = .ok (.getfield 193, 3) := by decide +kernel
theorem dM_look_47 : decode cM_look 47 = .ok (.if_icmp .ge 40, 3) := by decide +kernel
theorem dM_look_50 : decode cM_look 50 = .ok (.aload_n 0, 1) := by decide +kernel
theorem dM_look_51 : decode cM_look 51 = .ok (.getfield 16, 3) := by decide +kernel
theorem dM_look_54 : decode cM_look 54 = .ok (.bipush 6, 2) := by decide +kernel
theorem dM_look_56 : decode cM_look 56 = .ok (.iload 6, 2) := by decide +kernel
theorem dM_look_58 : decode cM_look 58 = .ok (.imul, 1) := by decide +kernel
theorem dM_look_59 : decode cM_look 59 = .ok (.iload_n 3, 1) := by decide +kernel
theorem dM_look_60 : decode cM_look 60 = .ok (.iadd, 1) := by decide +kernel
theorem dM_look_61 : decode cM_look 61 = .ok (.iaload, 1) := by decide +kernel
theorem dM_look_62 : decode cM_look 62 = .ok (.ldc 226, 2) := by decide +kernel
theorem dM_look_64 : decode cM_look 64 = .ok (.if_icmp .ne 13, 3) := by decide +kernel
theorem dM_look_67 : decode cM_look 67 = .ok (.lload 4, 2) := by decide +kernel
theorem dM_look_69 : decode cM_look 69 = .ok (.lconst 1, 1) := by decide +kernel
theorem dM_look_70 : decode cM_look 70 = .ok (.iload 6, 2) := by decide +kernel
theorem dM_look_72 : decode cM_look 72 = .ok (.lshl, 1) := by decide +kernel
theorem dM_look_73 : decode cM_look 73 = .ok (.lor, 1) := by decide +kernel
theorem dM_look_74 : decode cM_look 74 = .ok (.goto 5, 3) := by decide +kernel
theorem dM_look_77 : decode cM_look 77 = .ok (.lload 4, 2) := by decide +kernel
theorem dM_look_79 : decode cM_look 79 = .ok (.lstore 4, 2) := by decide +kernel
theorem dM_look_81 : decode cM_look 81 = .ok (.iinc 6 1, 3) := by decide +kernel
theorem dM_look_84 : decode cM_look 84 = .ok (.goto (-43), 3) := by decide +kernel
theorem dM_look_87 : decode cM_look 87 = .ok (.lload 4, 2) := by decide +kernel
theorem dM_look_89 : decode cM_look 89 = .ok (.lload_n 1, 1) := by decide +kernel
theorem dM_look_90 : decode cM_look 90 = .ok (.land, 1) := by decide +kernel
theorem dM_look_91 : decode cM_look 91 = .ok (.lstore 4, 2) := by decide +kernel
theorem dM_look_93 : decode cM_look 93 = .ok (.aload_n 0, 1) := by decide +kernel
theorem dM_look_94 : decode cM_look 94 = .ok (.getfield 19, 3) := by decide +kernel
theorem dM_look_97 : decode cM_look 97 = .ok (.iload_n 3, 1) := by decide +kernel
theorem dM_look_98 : decode cM_look 98 = .ok (.baload, 1) := by decide +kernel
theorem dM_look_99 : decode cM_look 99 = .ok (.ifCond .eq 14, 3) := by decide +kernel
theorem dM_look_102 : decode cM_look 102 = .ok (.aload_n 0, 1) := by decide +kernel
theorem dM_look_103 : decode cM_look 103 = .ok (.lload_n 1, 1) := by decide +kernel
theorem dM_look_104 : decode cM_look 104 = .ok (.lload 4, 2) := by decide +kernel
theorem dM_look_106 : decode cM_look 106 = .ok (.iload_n 3, 1) := by decide +kernel
theorem dM_look_107 : decode cM_look 107 = .ok (.invokevirtual 359, 3) := by decide +kernel
theorem dM_look_110 : decode cM_look 110 = .ok (.goto 116, 3) := by decide +kernel
theorem dM_look_113 : decode cM_look 113 = .ok (.iconst 0, 1) := by decide +kernel
theorem dM_look_114 : decode cM_look 114 = .ok (.istore 6, 2) := by decide +kernel
theorem dM_look_116 : decode cM_look 116 = .ok (.iload 6, 2) := by decide +kernel
theorem dM_look_118 : decode cM_look 118 = .ok (.aload_n 0, 1) := by decide +kernel
theorem dM_look_119 : decode cM_look 119 = .ok (.getfield 26, 3) := by decide +kernel
theorem dM_look_122 : decode cM_look 122 = .ok (.iload_n 3, 1) := by decide +kernel
theorem dM_look_123 : decode cM_look 123 = .ok (.iaload, 1) := by decide +kernel
theorem dM_look_124 : decode cM_look 124 = .ok (.if_icmp .ge 102, 3) := by decide +kernel
theorem dM_look_127 : decode cM_look 127 = .ok (.lconst 0, 1) := by decide +kernel
theorem dM_look_128 : decode cM_look 128 = .ok (.lstore 7, 2) := by decide +kernel
theorem dM_look_130 : decode cM_look 130 = .ok (.iconst 0, 1) := by decide +kernel
theorem dM_look_131 : decode cM_look 131 = .ok (.istore 9, 2) := by decide +kernel
theorem dM_look_133 : decode cM_look 133 = .ok (.iload 9, 2) := by decide +kernel
theorem dM_look_135 : decode cM_look 135 = .ok (.aload_n 0, 1) := by decide +kernel
theorem dM_look_136 : decode cM_look 136 = .ok (.getfield 193, 3) := by decide +kernel
theorem dM_look_139 : decode cM_look 139 = .ok (.if_icmp .ge 50, 3) := by decide +kernel
theorem dM_look_142 : decode cM_look 142 = .ok (.aload_n 0, 1) := by decide +kernel
theorem dM_look_143 : decode cM_look 143 = .ok (.getfield 16, 3) := by decide +kernel
theorem dM_look_146 : decode cM_look 146 = .ok (.bipush 6, 2) := by decide +kernel
theorem dM_look_148 : decode cM_look 148 = .ok (.iload 9, 2) := by decide +kernel
theorem dM_look_150 : decode cM_look 150 = .ok (.imul, 1) := by decide +kernel
theorem dM_look_151 : decode cM_look 151 = .ok (.iload_n 3, 1) := by decide +kernel
theorem dM_look_152 : decode cM_look 152 = .ok (.iadd, 1) := by decide +kernel
theorem dM_look_153 : decode cM_look 153 = .ok (.iaload, 1) := by decide +kernel
theorem dM_look_154 : decode cM_look 154 = .ok (.aload_n 0, 1) := by decide +kernel
theorem dM_look_155 : decode cM_look 155 = .ok (.getfield 23, 3) := by decide +kernel
theorem dM_look_158 : decode cM_look 158 = .ok (.bipush 11, 2) := by decide +kernel
theorem dM_look_160 : decode cM_look 160 = .ok (.iload_n 3, 1) := by decide +kernel
theorem dM_look_161 : decode cM_look 161 = .ok (.imul, 1) := by decide +kernel
theorem dM_look_162 : decode cM_look 162 = .ok (.iload 6, 2) := by decide +kernel
theorem dM_look_164 : decode cM_look 164 = .ok (.iadd, 1) := by decide +kernel
theorem dM_look_165 : decode cM_look 165 = .ok (.iaload, 1) := by decide +kernel
theorem dM_look_166 : decode cM_look 166 = .ok (.if_icmp .ge 13, 3) := by decide +kernel
theorem dM_look_169 : decode cM_look 169 = .ok (.lload 7, 2) := by decide +kernel
theorem dM_look_171 : decode cM_look 171 = .ok (.lconst 1, 1) := by decide +kernel
theorem dM_look_172 : decode cM_look 172 = .ok (.iload 9, 2) := by decide +kernel
theorem dM_look_174 : decode cM_look 174 = .ok (.lshl, 1) := by decide +kernel
theorem dM_look_175 : decode cM_look 175 = .ok (.lor, 1) := by decide +kernel
theorem dM_look_176 : decode cM_look 176 = .ok (.goto 5, 3) := by decide +kernel
theorem dM_look_179 : decode cM_look 179 = .ok (.lload 7, 2) := by decide +kernel
theorem dM_look_181 : decode cM_look 181 = .ok (.lstore 7, 2) := by decide +kernel
theorem dM_look_183 : decode cM_look 183 = .ok (.iinc 9 1, 3) := by decide +kernel
theorem dM_look_186 : decode cM_look 186 = .ok (.goto (-53), 3) := by decide +kernel
theorem dM_look_189 : decode cM_look 189 = .ok (.aload_n 0, 1) := by decide +kernel
theorem dM_look_190 : decode cM_look 190 = .ok (.lload_n 1, 1) := by decide +kernel
theorem dM_look_191 : decode cM_look 191 = .ok (.lload 4, 2) := by decide +kernel
theorem dM_look_193 : decode cM_look 193 = .ok (.lload 7, 2) := by decide +kernel
theorem dM_look_195 : decode cM_look 195 = .ok (.lload_n 1, 1) := by decide +kernel
theorem dM_look_196 : decode cM_look 196 = .ok (.land, 1) := by decide +kernel
theorem dM_look_197 : decode cM_look 197 = .ok (.lload 4, 2) := by decide +kernel
theorem dM_look_199 : decode cM_look 199 = .ok (.ldc2_w 217, 3) := by decide +kernel
theorem dM_look_202 : decode cM_look 202 = .ok (.lxor, 1) := by decide +kernel
theorem dM_look_203 : decode cM_look 203 = .ok (.land, 1) := by decide +kernel
theorem dM_look_204 : decode cM_look 204 = .ok (.iload_n 3, 1) := by decide +kernel
theorem dM_look_205 : decode cM_look 205 = .ok (.aload_n 0, 1) := by decide +kernel
theorem dM_look_206 : decode cM_look 206 = .ok (.getfield 23, 3) := by decide +kernel
theorem dM_look_209 : decode cM_look 209 = .ok (.bipush 11, 2) := by decide +kernel
theorem dM_look_211 : decode cM_look 211 = .ok (.iload_n 3, 1) := by decide +kernel
theorem dM_look_212 : decode cM_look 212 = .ok (.imul, 1) := by decide +kernel
theorem dM_look_213 : decode cM_look 213 = .ok (.iload 6, 2) := by decide +kernel
theorem dM_look_215 : decode cM_look 215 = .ok (.iadd, 1) := by decide +kernel
theorem dM_look_216 : decode cM_look 216 = .ok (.iaload, 1) := by decide +kernel
theorem dM_look_217 : decode cM_look 217 = .ok (.invokevirtual 363, 3) := by decide +kernel
theorem dM_look_220 : decode cM_look 220 = .ok (.iinc 6 1, 3) := by decide +kernel
theorem dM_look_223 : decode cM_look 223 = .ok (.goto (-107), 3) := by decide +kernel
theorem dM_look_226 : decode cM_look 226 = .ok (.iinc 3 1, 3) := by decide +kernel
theorem dM_look_229 : decode cM_look 229 = .ok (.goto (-214), 3) := by decide +kernel
theorem dM_look_232 : decode cM_look 232 = .ok (.return_, 1) := by decide +kernel
