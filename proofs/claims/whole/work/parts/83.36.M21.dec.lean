theorem dM_grow_0 : decode cM_grow 0 = .ok (.aload_n 0, 1) := by decide +kernel
theorem dM_grow_1 : decode cM_grow 1 = .ok (.lload_n 1, 1) := by decide +kernel
theorem dM_grow_2 : decode cM_grow 2 = .ok (.iconst 0, 1) := by decide +kernel
theorem dM_grow_3 : decode cM_grow 3 = .ok (.iconst (-1), 1) := by decide +kernel
theorem dM_grow_4 : decode cM_grow 4 = .ok (.iconst 0, 1) := by decide +kernel
theorem dM_grow_5 : decode cM_grow 5 = .ok (.invokevirtual 314, 3) := by decide +kernel
theorem dM_grow_8 : decode cM_grow 8 = .ok (.aload_n 0, 1) := by decide +kernel
theorem dM_grow_9 : decode cM_grow 9 = .ok (.getfield 311, 3) := by decide +kernel
theorem dM_grow_12 : decode cM_grow 12 = .ok (.ifCond .le 227, 3) := by decide +kernel
theorem dM_grow_15 : decode cM_grow 15 = .ok (.aload_n 0, 1) := by decide +kernel
theorem dM_grow_16 : decode cM_grow 16 = .ok (.dup, 1) := by decide +kernel
theorem dM_grow_17 : decode cM_grow 17 = .ok (.getfield 311, 3) := by decide +kernel
theorem dM_grow_20 : decode cM_grow 20 = .ok (.iconst 1, 1) := by decide +kernel
theorem dM_grow_21 : decode cM_grow 21 = .ok (.isub, 1) := by decide +kernel
theorem dM_grow_22 : decode cM_grow 22 = .ok (.putfield 311, 3) := by decide +kernel
theorem dM_grow_25 : decode cM_grow 25 = .ok (.aload_n 0, 1) := by decide +kernel
theorem dM_grow_26 : decode cM_grow 26 = .ok (.getfield 127, 3) := by decide +kernel
theorem dM_grow_29 : decode cM_grow 29 = .ok (.aload_n 0, 1) := by decide +kernel
theorem dM_grow_30 : decode cM_grow 30 = .ok (.getfield 311, 3) := by decide +kernel
theorem dM_grow_33 : decode cM_grow 33 = .ok (.laload, 1) := by decide +kernel
theorem dM_grow_34 : decode cM_grow 34 = .ok (.lstore_n 3, 1) := by decide +kernel
theorem dM_grow_35 : decode cM_grow 35 = .ok (.aload_n 0, 1) := by decide +kernel
theorem dM_grow_36 : decode cM_grow 36 = .ok (.getfield 131, 3) := by decide +kernel
theorem dM_grow_39 : decode cM_grow 39 = .ok (.aload_n 0, 1) := by decide +kernel
theorem dM_grow_40 : decode cM_grow 40 = .ok (.getfield 311, 3) := by decide +kernel
theorem dM_grow_43 : decode cM_grow 43 = .ok (.iaload, 1) := by decide +kernel
theorem dM_grow_44 : decode cM_grow 44 = .ok (.istore 5, 2) := by decide +kernel
theorem dM_grow_46 : decode cM_grow 46 = .ok (.aload_n 0, 1) := by decide +kernel
theorem dM_grow_47 : decode cM_grow 47 = .ok (.getfield 32, 3) := by decide +kernel
theorem dM_grow_50 : decode cM_grow 50 = .ok (.aload_n 0, 1) := by decide +kernel
theorem dM_grow_51 : decode cM_grow 51 = .ok (.getfield 196, 3) := by decide +kernel
theorem dM_grow_54 : decode cM_grow 54 = .ok (.iaload, 1) := by decide +kernel
theorem dM_grow_55 : decode cM_grow 55 = .ok (.istore 6, 2) := by decide +kernel
theorem dM_grow_57 : decode cM_grow 57 = .ok (.bipush 31, 2) := by decide +kernel
theorem dM_grow_59 : decode cM_grow 59 = .ok (.aload_n 0, 1) := by decide +kernel
theorem dM_grow_60 : decode cM_grow 60 = .ok (.getfield 196, 3) := by decide +kernel
theorem dM_grow_63 : decode cM_grow 63 = .ok (.imul, 1) := by decide +kernel
theorem dM_grow_64 : decode cM_grow 64 = .ok (.iload 6, 2) := by decide +kernel
theorem dM_grow_66 : decode cM_grow 66 = .ok (.iadd, 1) := by decide +kernel
theorem dM_grow_67 : decode cM_grow 67 = .ok (.istore 7, 2) := by decide +kernel
theorem dM_grow_69 : decode cM_grow 69 = .ok (.aload_n 0, 1) := by decide +kernel
theorem dM_grow_70 : decode cM_grow 70 = .ok (.getfield 32, 3) := by decide +kernel
theorem dM_grow_73 : decode cM_grow 73 = .ok (.aload_n 0, 1) := by decide +kernel
theorem dM_grow_74 : decode cM_grow 74 = .ok (.getfield 196, 3) := by decide +kernel
theorem dM_grow_77 : decode cM_grow 77 = .ok (.dup2, 1) := by decide +kernel
theorem dM_grow_78 : decode cM_grow 78 = .ok (.iaload, 1) := by decide +kernel
theorem dM_grow_79 : decode cM_grow 79 = .ok (.iconst 1, 1) := by decide +kernel
theorem dM_grow_80 : decode cM_grow 80 = .ok (.iadd, 1) := by decide +kernel
theorem dM_grow_81 : decode cM_grow 81 = .ok (.iastore, 1) := by decide +kernel
theorem dM_grow_82 : decode cM_grow 82 = .ok (.aload_n 0, 1) := by decide +kernel
theorem dM_grow_83 : decode cM_grow 83 = .ok (.getfield 134, 3) := by decide +kernel
theorem dM_grow_86 : decode cM_grow 86 = .ok (.aload_n 0, 1) := by decide +kernel
theorem dM_grow_87 : decode cM_grow 87 = .ok (.getfield 311, 3) := by decide +kernel
theorem dM_grow_90 : decode cM_grow 90 = .ok (.iaload, 1) := by decide +kernel
theorem dM_grow_91 : decode cM_grow 91 = .ok (.ifCond .lt 34, 3) := by decide +kernel
theorem dM_grow_94 : decode cM_grow 94 = .ok (.aload_n 0, 1) := by decide +kernel
theorem dM_grow_95 : decode cM_grow 95 = .ok (.getfield 137, 3) := by decide +kernel
theorem dM_grow_98 : decode cM_grow 98 = .ok (.aload_n 0, 1) := by decide +kernel
theorem dM_grow_99 : decode cM_grow 99 = .ok (.getfield 311, 3) := by decide +kernel
theorem dM_grow_102 : decode cM_grow 102 = .ok (.baload, 1) := by decide +kernel
theorem dM_grow_103 : decode cM_grow 103 = .ok (.ifCond .eq 22, 3) := by decide +kernel
theorem dM_grow_106 : decode cM_grow 106 = .ok (.aload_n 0, 1) := by decide +kernel
theorem dM_grow_107 : decode cM_grow 107 = .ok (.getfield 44, 3) := by decide +kernel
theorem dM_grow_110 : decode cM_grow 110 = .ok (.aload_n 0, 1) := by decide +kernel
theorem dM_grow_111 : decode cM_grow 111 = .ok (.getfield 134, 3) := by decide +kernel
theorem dM_grow_114 : decode cM_grow 114 = .ok (.aload_n 0, 1) := by decide +kernel
theorem dM_grow_115 : decode cM_grow 115 = .ok (.getfield 311, 3) := by decide +kernel
theorem dM_grow_118 : decode cM_grow 118 = .ok (.iaload, 1) := by decide +kernel
theorem dM_grow_119 : decode cM_grow 119 = .ok (.iload 6, 2) := by decide +kernel
theorem dM_grow_121 : decode cM_grow 121 = .ok (.iastore, 1) := by decide +kernel
theorem dM_grow_122 : decode cM_grow 122 = .ok (.goto 31, 3) := by decide +kernel
theorem dM_grow_125 : decode cM_grow 125 = .ok (.aload_n 0, 1) := by decide +kernel
theorem dM_grow_126 : decode cM_grow 126 = .ok (.getfield 134, 3) := by decide +kernel
theorem dM_grow_129 : decode cM_grow 129 = .ok (.aload_n 0, 1) := by decide +kernel
theorem dM_grow_130 : decode cM_grow 130 = .ok (.getfield 311, 3) := by decide +kernel
theorem dM_grow_133 : decode cM_grow 133 = .ok (.iaload, 1) := by decide +kernel
theorem dM_grow_134 : decode cM_grow 134 = .ok (.ifCond .lt 19, 3) := by decide +kernel
theorem dM_grow_137 : decode cM_grow 137 = .ok (.aload_n 0, 1) := by decide +kernel
theorem dM_grow_138 : decode cM_grow 138 = .ok (.getfield 47, 3) := by decide +kernel
theorem dM_grow_141 : decode cM_grow 141 = .ok (.aload_n 0, 1) := by decide +kernel
theorem dM_grow_142 : decode cM_grow 142 = .ok (.getfield 134, 3) := by decide +kernel
theorem dM_grow_145 : decode cM_grow 145 = .ok (.aload_n 0, 1) := by decide +kernel
theorem dM_grow_146 : decode cM_grow 146 = .ok (.getfield 311, 3) := by decide +kernel
theorem dM_grow_149 : decode cM_grow 149 = .ok (.iaload, 1) := by decide +kernel
theorem dM_grow_150 : decode cM_grow 150 = .ok (.iload 6, 2) := by decide +kernel
theorem dM_grow_152 : decode cM_grow 152 = .ok (.iastore, 1) := by decide +kernel
theorem dM_grow_153 : decode cM_grow 153 = .ok (.aload_n 0, 1) := by decide +kernel
theorem dM_grow_154 : decode cM_grow 154 = .ok (.iload 7, 2) := by decide +kernel
theorem dM_grow_156 : decode cM_grow 156 = .ok (.lload_n 3, 1) := by decide +kernel
theorem dM_grow_157 : decode cM_grow 157 = .ok (.iload 5, 2) := by decide +kernel
theorem dM_grow_159 : decode cM_grow 159 = .ok (.invokevirtual 318, 3) := by decide +kernel
theorem dM_grow_162 : decode cM_grow 162 = .ok (.iload 5, 2) := by decide +kernel
theorem dM_grow_164 : decode cM_grow 164 = .ok (.aload_n 0, 1) := by decide +kernel
theorem dM_grow_165 : decode cM_grow 165 = .ok (.getfield 202, 3) := by decide +kernel
theorem dM_grow_168 : decode cM_grow 168 = .ok (.if_icmp .eq 14, 3) := by decide +kernel
theorem dM_grow_171 : decode cM_grow 171 = .ok (.aload_n 0, 1) := by decide +kernel
theorem dM_grow_172 : decode cM_grow 172 = .ok (.getfield 87, 3) := by decide +kernel
theorem dM_grow_175 : decode cM_grow 175 = .ok (.sipush 301, 3) := by decide +kernel
theorem dM_grow_178 : decode cM_grow 178 = .ok (.iaload, 1) := by decide +kernel
theorem dM_grow_179 : decode cM_grow 179 = .ok (.ifCond .gt 13, 3) := by decide +kernel
theorem dM_grow_182 : decode cM_grow 182 = .ok (.aload_n 0, 1) := by decide +kernel
theorem dM_grow_183 : decode cM_grow 183 = .ok (.iload 7, 2) := by decide +kernel
theorem dM_grow_185 : decode cM_grow 185 = .ok (.lload_n 3, 1) := by decide +kernel
theorem dM_grow_186 : decode cM_grow 186 = .ok (.invokevirtual 322, 3) := by decide +kernel
theorem dM_grow_189 : decode cM_grow 189 = .ok (.goto 47, 3) := by decide +kernel
theorem dM_grow_192 : decode cM_grow 192 = .ok (.aload_n 0, 1) := by decide +kernel
theorem dM_grow_193 : decode cM_grow 193 = .ok (.iload 7, 2) := by decide +kernel
theorem dM_grow_195 : decode cM_grow 195 = .ok (.invokevirtual 326, 3) := by decide +kernel
theorem dM_grow_198 : decode cM_grow 198 = .ok (.aload_n 0, 1) := by decide +kernel
theorem dM_grow_199 : decode cM_grow 199 = .ok (.lload_n 3, 1) := by decide +kernel
theorem dM_grow_200 : decode cM_grow 200 = .ok (.aload_n 0, 1) := by decide +kernel
theorem dM_grow_201 : decode cM_grow 201 = .ok (.getfield 329, 3) := by decide +kernel
theorem dM_grow_204 : decode cM_grow 204 = .ok (.ldc2_w 217, 3) := by decide +kernel
theorem dM_grow_207 : decode cM_grow 207 = .ok (.lxor, 1) := by decide +kernel
theorem dM_grow_208 : decode cM_grow 208 = .ok (.land, 1) := by decide +kernel
theorem dM_grow_209 : decode cM_grow 209 = .ok (.iload 5, 2) := by decide +kernel
theorem dM_grow_211 : decode cM_grow 211 = .ok (.iconst 1, 1) := by decide +kernel
theorem dM_grow_212 : decode cM_grow 212 = .ok (.iadd, 1) := by decide +kernel
theorem dM_grow_213 : decode cM_grow 213 = .ok (.iload 7, 2) := by decide +kernel
theorem dM_grow_215 : decode cM_grow 215 = .ok (.iconst 0, 1) := by decide +kernel
theorem dM_grow_216 : decode cM_grow 216 = .ok (.invokevirtual 314, 3) := by decide +kernel
theorem dM_grow_219 : decode cM_grow 219 = .ok (.aload_n 0, 1) := by decide +kernel
theorem dM_grow_220 : decode cM_grow 220 = .ok (.lload_n 3, 1) := by decide +kernel
theorem dM_grow_221 : decode cM_grow 221 = .ok (.aload_n 0, 1) := by decide +kernel
theorem dM_grow_222 : decode cM_grow 222 = .ok (.getfield 329, 3) := by decide +kernel
theorem dM_grow_225 : decode cM_grow 225 = .ok (.land, 1) := by decide +kernel
theorem dM_grow_226 : decode cM_grow 226 = .ok (.iload 5, 2) := by decide +kernel
theorem dM_grow_228 : decode cM_grow 228 = .ok (.iconst 1, 1) := by decide +kernel
theorem dM_grow_229 : decode cM_grow 229 = .ok (.iadd, 1) := by decide +kernel
theorem dM_grow_230 : decode cM_grow 230 = .ok (.iload 7, 2) := by decide +kernel
theorem dM_grow_232 : decode cM_grow 232 = .ok (.iconst 1, 1) := by decide +kernel
theorem dM_grow_233 : decode cM_grow 233 = .ok (.invokevirtual 314, 3) := by decide +kernel
theorem dM_grow_236 : decode cM_grow 236 = .ok (.goto (-228), 3) := by decide +kernel
theorem dM_grow_239 : decode cM_grow 239 = .ok (.return_, 1) := by decide +kernel
