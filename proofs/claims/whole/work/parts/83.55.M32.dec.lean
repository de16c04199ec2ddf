theorem dM_cut_0 : decode cM_cut 0 = .ok (.aload_n 0, 1) := by decide +kernel
theorem dM_cut_1 : decode cM_cut 1 = .ok (.aload_n 0, 1) := by decide +kernel
theorem dM_cut_2 : decode cM_cut 2 = .ok (.iload_n 1, 1) := by decide +kernel
theorem dM_cut_3 : decode cM_cut 3 = .ok (.invokevirtual 243, 3) := by decide +kernel
theorem dM_cut_6 : decode cM_cut 6 = .ok (.ifCond .ne 13, 3) := by decide +kernel
theorem dM_cut_9 : decode cM_cut 9 = .ok (.iload_n 3, 1) := by decide +kernel
theorem dM_cut_10 : decode cM_cut 10 = .ok (.iconst 2, 1) := by decide +kernel
theorem dM_cut_11 : decode cM_cut 11 = .ok (.bipush 12, 2) := by decide +kernel
theorem dM_cut_13 : decode cM_cut 13 = .ok (.invokestatic 227, 3) := by decide +kernel
theorem dM_cut_16 : decode cM_cut 16 = .ok (.ifCond .ne 7, 3) := by decide +kernel
theorem dM_cut_19 : decode cM_cut 19 = .ok (.iconst 1, 1) := by decide +kernel
theorem dM_cut_20 : decode cM_cut 20 = .ok (.goto 17, 3) := by decide +kernel
theorem dM_cut_23 : decode cM_cut 23 = .ok (.aload_n 0, 1) := by decide +kernel
theorem dM_cut_24 : decode cM_cut 24 = .ok (.getfield 19, 3) := by decide +kernel
theorem dM_cut_27 : decode cM_cut 27 = .ok (.iload_n 1, 1) := by decide +kernel
theorem dM_cut_28 : decode cM_cut 28 = .ok (.baload, 1) := by decide +kernel
theorem dM_cut_29 : decode cM_cut 29 = .ok (.ifCond .eq 7, 3) := by decide +kernel
theorem dM_cut_32 : decode cM_cut 32 = .ok (.iconst 2, 1) := by decide +kernel
theorem dM_cut_33 : decode cM_cut 33 = .ok (.goto 4, 3) := by decide +kernel
theorem dM_cut_36 : decode cM_cut 36 = .ok (.iconst 0, 1) := by decide +kernel
theorem dM_cut_37 : decode cM_cut 37 = .ok (.invokevirtual 231, 3) := by decide +kernel
theorem dM_cut_40 : decode cM_cut 40 = .ok (.ifCond .eq 5, 3) := by decide +kernel
theorem dM_cut_43 : decode cM_cut 43 = .ok (.iconst 0, 1) := by decide +kernel
theorem dM_cut_44 : decode cM_cut 44 = .ok (.ireturn, 1) := by decide +kernel
theorem dM_cut_45 : decode cM_cut 45 = .ok (.aload_n 0, 1) := by decide +kernel
theorem dM_cut_46 : decode cM_cut 46 = .ok (.getfield 26, 3) := by decide +kernel
theorem dM_cut_49 : decode cM_cut 49 = .ok (.iload_n 1, 1) := by decide +kernel
theorem dM_cut_50 : decode cM_cut 50 = .ok (.iconst 0, 1) := by decide +kernel
theorem dM_cut_51 : decode cM_cut 51 = .ok (.iastore, 1) := by decide +kernel
theorem dM_cut_52 : decode cM_cut 52 = .ok (.iconst 0, 1) := by decide +kernel
theorem dM_cut_53 : decode cM_cut 53 = .ok (.istore 4, 2) := by decide +kernel
theorem dM_cut_55 : decode cM_cut 55 = .ok (.iconst 0, 1) := by decide +kernel
theorem dM_cut_56 : decode cM_cut 56 = .ok (.istore 5, 2) := by decide +kernel
theorem dM_cut_58 : decode cM_cut 58 = .ok (.iconst 0, 1) := by decide +kernel
theorem dM_cut_59 : decode cM_cut 59 = .ok (.istore 6, 2) := by decide +kernel
theorem dM_cut_61 : decode cM_cut 61 = .ok (.iconst 0, 1) := by decide +kernel
theorem dM_cut_62 : decode cM_cut 62 = .ok (.istore 7, 2) := by decide +kernel
theorem dM_cut_64 : decode cM_cut 64 = .ok (.iload 7, 2) := by decide +kernel
theorem dM_cut_66 : decode cM_cut 66 = .ok (.aload_n 0, 1) := by decide +kernel
theorem dM_cut_67 : decode cM_cut 67 = .ok (.getfield 193, 3) := by decide +kernel
theorem dM_cut_70 : decode cM_cut 70 = .ok (.if_icmp .ge 75, 3) := by decide +kernel
theorem dM_cut_73 : decode cM_cut 73 = .ok (.aload_n 0, 1) := by decide +kernel
theorem dM_cut_74 : decode cM_cut 74 = .ok (.getfield 16, 3) := by decide +kernel
theorem dM_cut_77 : decode cM_cut 77 = .ok (.bipush 6, 2) := by decide +kernel
theorem dM_cut_79 : decode cM_cut 79 = .ok (.iload 7, 2) := by decide +kernel
theorem dM_cut_81 : decode cM_cut 81 = .ok (.imul, 1) := by decide +kernel
theorem dM_cut_82 : decode cM_cut 82 = .ok (.iload_n 1, 1) := by decide +kernel
theorem dM_cut_83 : decode cM_cut 83 = .ok (.iadd, 1) := by decide +kernel
theorem dM_cut_84 : decode cM_cut 84 = .ok (.iaload, 1) := by decide +kernel
theorem dM_cut_85 : decode cM_cut 85 = .ok (.istore 8, 2) := by decide +kernel
theorem dM_cut_87 : decode cM_cut 87 = .ok (.iload 8, 2) := by decide +kernel
theorem dM_cut_89 : decode cM_cut 89 = .ok (.ldc 226, 2) := by decide +kernel
theorem dM_cut_91 : decode cM_cut 91 = .ok (.if_icmp .eq 48, 3) := by decide +kernel
theorem dM_cut_94 : decode cM_cut 94 = .ok (.iload 4, 2) := by decide +kernel
theorem dM_cut_96 : decode cM_cut 96 = .ok (.ifCond .eq 10, 3) := by decide +kernel
theorem dM_cut_99 : decode cM_cut 99 = .ok (.iload 8, 2) := by decide +kernel
theorem dM_cut_101 : decode cM_cut 101 = .ok (.iload 5, 2) := by decide +kernel
theorem dM_cut_103 : decode cM_cut 103 = .ok (.if_icmp .ge 8, 3) := by decide +kernel
theorem dM_cut_106 : decode cM_cut 106 = .ok (.iload 8, 2) := by decide +kernel
theorem dM_cut_108 : decode cM_cut 108 = .ok (.goto 5, 3) := by decide +kernel
theorem dM_cut_111 : decode cM_cut 111 = .ok (.iload 5, 2) := by decide +kernel
theorem dM_cut_113 : decode cM_cut 113 = .ok (.istore 5, 2) := by decide +kernel
theorem dM_cut_115 : decode cM_cut 115 = .ok (.iload 4, 2) := by decide +kernel
theorem dM_cut_117 : decode cM_cut 117 = .ok (.ifCond .eq 10, 3) := by decide +kernel
theorem dM_cut_120 : decode cM_cut 120 = .ok (.iload 8, 2) := by decide +kernel
theorem dM_cut_122 : decode cM_cut 122 = .ok (.iload 6, 2) := by decide +kernel
theorem dM_cut_124 : decode cM_cut 124 = .ok (.if_icmp .le 8, 3) := by decide +kernel
theorem dM_cut_127 : decode cM_cut 127 = .ok (.iload 8, 2) := by decide +kernel
theorem dM_cut_129 : decode cM_cut 129 = .ok (.goto 5, 3) := by decide +kernel
theorem dM_cut_132 : decode cM_cut 132 = .ok (.iload 6, 2) := by decide +kernel
theorem dM_cut_134 : decode cM_cut 134 = .ok (.istore 6, 2) := by decide +kernel
theorem dM_cut_136 : decode cM_cut 136 = .ok (.iinc 4 1, 3) := by decide +kernel
theorem dM_cut_139 : decode cM_cut 139 = .ok (.iinc 7 1, 3) := by decide +kernel
theorem dM_cut_142 : decode cM_cut 142 = .ok (.goto (-78), 3) := by decide +kernel
theorem dM_cut_145 : decode cM_cut 145 = .ok (.iconst 1, 1) := by decide +kernel
theorem dM_cut_146 : decode cM_cut 146 = .ok (.istore 7, 2) := by decide +kernel
theorem dM_cut_148 : decode cM_cut 148 = .ok (.iload 7, 2) := by decide +kernel
theorem dM_cut_150 : decode cM_cut 150 = .ok (.iload_n 3, 1) := by decide +kernel
theorem dM_cut_151 : decode cM_cut 151 = .ok (.if_icmp .ge 151, 3) := by decide +kernel
theorem dM_cut_154 : decode cM_cut 154 = .ok (.iload 4, 2) := by decide +kernel
theorem dM_cut_156 : decode cM_cut 156 = .ok (.ifCond .le 146, 3) := by decide +kernel
theorem dM_cut_159 : decode cM_cut 159 = .ok (.iload_n 2, 1) := by decide +kernel
theorem dM_cut_160 : decode cM_cut 160 = .ok (.ifCond .eq 18, 3) := by decide +kernel
theorem dM_cut_163 : decode cM_cut 163 = .ok (.aload_n 0, 1) := by decide +kernel
theorem dM_cut_164 : decode cM_cut 164 = .ok (.iload_n 1, 1) := by decide +kernel
theorem dM_cut_165 : decode cM_cut 165 = .ok (.iload 7, 2) := by decide +kernel
theorem dM_cut_167 : decode cM_cut 167 = .ok (.iload 4, 2) := by decide +kernel
theorem dM_cut_169 : decode cM_cut 169 = .ok (.imul, 1) := by decide +kernel
theorem dM_cut_170 : decode cM_cut 170 = .ok (.iload_n 3, 1) := by decide +kernel
theorem dM_cut_171 : decode cM_cut 171 = .ok (.idiv, 1) := by decide +kernel
theorem dM_cut_172 : decode cM_cut 172 = .ok (.invokevirtual 250, 3) := by decide +kernel
theorem dM_cut_175 : decode cM_cut 175 = .ok (.goto 23, 3) := by decide +kernel
theorem dM_cut_178 : decode cM_cut 178 = .ok (.iload 5, 2) := by decide +kernel
theorem dM_cut_180 : decode cM_cut 180 = .ok (.i2l, 1) := by decide +kernel
theorem dM_cut_181 : decode cM_cut 181 = .ok (.iload 7, 2) := by decide +kernel
theorem dM_cut_183 : decode cM_cut 183 = .ok (.i2l, 1) := by decide +kernel
theorem dM_cut_184 : decode cM_cut 184 = .ok (.iload 6, 2) := by decide +kernel
theorem dM_cut_186 : decode cM_cut 186 = .ok (.iload 5, 2) := by decide +kernel
theorem dM_cut_188 : decode cM_cut 188 = .ok (.isub, 1) := by decide +kernel
theorem dM_cut_189 : decode cM_cut 189 = .ok (.iconst 1, 1) := by decide +kernel
theorem dM_cut_190 : decode cM_cut 190 = .ok (.iadd, 1) := by decide +kernel
theorem dM_cut_191 : decode cM_cut 191 = .ok (.i2l, 1) := by decide +kernel
theorem dM_cut_192 : decode cM_cut 192 = .ok (.lmul, 1) := by decide +kernel
theorem dM_cut_193 : decode cM_cut 193 = .ok (.iload_n 3, 1) := by decide +kernel
theorem dM_cut_194 : decode cM_cut 194 = .ok (.i2l, 1) := by decide +kernel
theorem dM_cut_195 : decode cM_cut 195 = .ok (.ldiv, 1) := by decide +kernel
theorem dM_cut_196 : decode cM_cut 196 = .ok (.ladd, 1) := by decide +kernel
theorem dM_cut_197 : decode cM_cut 197 = .ok (.l2i, 1) := by decide +kernel
theorem dM_cut_198 : decode cM_cut 198 = .ok (.istore 8, 2) := by decide +kernel
theorem dM_cut_200 : decode cM_cut 200 = .ok (.iload 8, 2) := by decide +kernel
theorem dM_cut_202 : decode cM_cut 202 = .ok (.iload 5, 2) := by decide +kernel
theorem dM_cut_204 : decode cM_cut 204 = .ok (.if_icmp .ne 7, 3) := by decide +kernel
theorem dM_cut_207 : decode cM_cut 207 = .ok (.iconst 1, 1) := by decide +kernel
theorem dM_cut_208 : decode cM_cut 208 = .ok (.goto 4, 3) := by decide +kernel
theorem dM_cut_211 : decode cM_cut 211 = .ok (.iconst 0, 1) := by decide +kernel
theorem dM_cut_212 : decode cM_cut 212 = .ok (.istore 9, 2) := by decide +kernel
theorem dM_cut_214 : decode cM_cut 214 = .ok (.iconst 0, 1) := by decide +kernel
theorem dM_cut_215 : decode cM_cut 215 = .ok (.istore 10, 2) := by decide +kernel
theorem dM_cut_217 : decode cM_cut 217 = .ok (.iload 10, 2) := by decide +kernel
theorem dM_cut_219 : decode cM_cut 219 = .ok (.aload_n 0, 1) := by decide +kernel
theorem dM_cut_220 : decode cM_cut 220 = .ok (.getfield 26, 3) := by decide +kernel
theorem dM_cut_223 : decode cM_cut 223 = .ok (.iload_n 1, 1) := by decide +kernel
theorem dM_cut_224 : decode cM_cut 224 = .ok (.iaload, 1) := by decide +kernel
theorem dM_cut_225 : decode cM_cut 225 = .ok (.if_icmp .ge 38, 3) := by decide +kernel
theorem dM_cut_228 : decode cM_cut 228 = .ok (.iload 9, 2) := by decide +kernel
theorem dM_cut_230 : decode cM_cut 230 = .ok (.ifCond .ne 20, 3) := by decide +kernel
theorem dM_cut_233 : decode cM_cut 233 = .ok (.aload_n 0, 1) := by decide +kernel
theorem dM_cut_234 : decode cM_cut 234 = .ok (.getfield 23, 3) := by decide +kernel
theorem dM_cut_237 : decode cM_cut 237 = .ok (.bipush 11, 2) := by decide +kernel
theorem dM_cut_239 : decode cM_cut 239 = .ok (.iload_n 1, 1) := by decide +kernel
theorem dM_cut_240 : decode cM_cut 240 = .ok (.imul, 1) := by decide +kernel
theorem dM_cut_241 : decode cM_cut 241 = .ok (.iload 10, 2) := by decide +kernel
theorem dM_cut_243 : decode cM_cut 243 = .ok (.iadd, 1) := by decide +kernel
theorem dM_cut_244 : decode cM_cut 244 = .ok (.iaload, 1) := by decide +kernel
theorem dM_cut_245 : decode cM_cut 245 = .ok (.iload 8, 2) := by decide +kernel
theorem dM_cut_247 : decode cM_cut 247 = .ok (.if_icmp .ne 7, 3) := by decide +kernel
theorem dM_cut_250 : decode cM_cut 250 = .ok (.iconst 1, 1) := by decide +kernel
theorem dM_cut_251 : decode cM_cut 251 = .ok (.goto 4, 3) := by decide +kernel
theorem dM_cut_254 : decode cM_cut 254 = .ok (.iconst 0, 1) := by decide +kernel
theorem dM_cut_255 : decode cM_cut 255 = .ok (.istore 9, 2) := by decide +kernel
theorem dM_cut_257 : decode cM_cut 257 = .ok (.iinc 10 1, 3) := by decide +kernel
theorem dM_cut_260 : decode cM_cut 260 = .ok (.goto (-43), 3) := by decide +kernel
theorem dM_cut_263 : decode cM_cut 263 = .ok (.iload 9, 2) := by decide +kernel
theorem dM_cut_265 : decode cM_cut 265 = .ok (.ifCond .ne 31, 3) := by decide +kernel
theorem dM_cut_268 : decode cM_cut 268 = .ok (.aload_n 0, 1) := by decide +kernel
theorem dM_cut_269 : decode cM_cut 269 = .ok (.getfield 23, 3) := by decide +kernel
theorem dM_cut_272 : decode cM_cut 272 = .ok (.bipush 11, 2) := by decide +kernel
theorem dM_cut_274 : decode cM_cut 274 = .ok (.iload_n 1, 1) := by decide +kernel
theorem dM_cut_275 : decode cM_cut 275 = .ok (.imul, 1) := by decide +kernel
theorem dM_cut_276 : decode cM_cut 276 = .ok (.aload_n 0, 1) := by decide +kernel
theorem dM_cut_277 : decode cM_cut 277 = .ok (.getfield 26, 3) := by decide +kernel
theorem dM_cut_280 : decode cM_cut 280 = .ok (.iload_n 1, 1) := by decide +kernel
theorem dM_cut_281 : decode cM_cut 281 = .ok (.iaload, 1) := by decide +kernel
theorem dM_cut_282 : decode cM_cut 282 = .ok (.iadd, 1) := by decide +kernel
theorem dM_cut_283 : decode cM_cut 283 = .ok (.iload 8, 2) := by decide +kernel
theorem dM_cut_285 : decode cM_cut 285 = .ok (.iastore, 1) := by decide +kernel
theorem dM_cut_286 : decode cM_cut 286 = .ok (.aload_n 0, 1) := by decide +kernel
theorem dM_cut_287 : decode cM_cut 287 = .ok (.getfield 26, 3) := by decide +kernel
theorem dM_cut_290 : decode cM_cut 290 = .ok (.iload_n 1, 1) := by decide +kernel
theorem dM_cut_291 : decode cM_cut 291 = .ok (.dup2, 1) := by decide +kernel
theorem dM_cut_292 : decode cM_cut 292 = .ok (.iaload, 1) := by decide +kernel
theorem dM_cut_293 : decode cM_cut 293 = .ok (.iconst 1, 1) := by decide +kernel
theorem dM_cut_294 : decode cM_cut 294 = .ok (.iadd, 1) := by decide +kernel
theorem dM_cut_295 : decode cM_cut 295 = .ok (.iastore, 1) := by decide +kernel
theorem dM_cut_296 : decode cM_cut 296 = .ok (.iinc 7 1, 3) := by decide +kernel
theorem dM_cut_299 : decode cM_cut 299 = .ok (.goto (-151), 3) := by decide +kernel
theorem dM_cut_302 : decode cM_cut 302 = .ok (.aload_n 0, 1) := by decide +kernel
theorem dM_cut_303 : decode cM_cut 303 = .ok (.getfield 26, 3) := by decide +kernel
theorem dM_cut_306 : decode cM_cut 306 = .ok (.iload_n 1, 1) := by decide +kernel
theorem dM_cut_307 : decode cM_cut 307 = .ok (.iaload, 1) := by decide +kernel
theorem dM_cut_308 : decode cM_cut 308 = .ok (.ireturn, 1) := by decide +kernel
