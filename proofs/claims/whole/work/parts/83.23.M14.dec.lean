theorem dM_weigh_0 : decode cM_weigh 0 = .ok (.lload_n 3, 1) := by decide +kernel
theorem dM_weigh_1 : decode cM_weigh 1 = .ok (.invokestatic 258, 3) := by decide +kernel
theorem dM_weigh_4 : decode cM_weigh 4 = .ok (.istore 8, 2) := by decide +kernel
theorem dM_weigh_6 : decode cM_weigh 6 = .ok (.lload_n 1, 1) := by decide +kernel
theorem dM_weigh_7 : decode cM_weigh 7 = .ok (.lload_n 3, 1) := by decide +kernel
theorem dM_weigh_8 : decode cM_weigh 8 = .ok (.ldc2_w 217, 3) := by decide +kernel
theorem dM_weigh_11 : decode cM_weigh 11 = .ok (.lxor, 1) := by decide +kernel
theorem dM_weigh_12 : decode cM_weigh 12 = .ok (.land, 1) := by decide +kernel
theorem dM_weigh_13 : decode cM_weigh 13 = .ok (.invokestatic 258, 3) := by decide +kernel
theorem dM_weigh_16 : decode cM_weigh 16 = .ok (.istore 9, 2) := by decide +kernel
theorem dM_weigh_18 : decode cM_weigh 18 = .ok (.iload 8, 2) := by decide +kernel
theorem dM_weigh_20 : decode cM_weigh 20 = .ok (.aload_n 0, 1) := by decide +kernel
theorem dM_weigh_21 : decode cM_weigh 21 = .ok (.getfield 205, 3) := by decide +kernel
theorem dM_weigh_24 : decode cM_weigh 24 = .ok (.if_icmp .lt 12, 3) := by decide +kernel
theorem dM_weigh_27 : decode cM_weigh 27 = .ok (.iload 9, 2) := by decide +kernel
theorem dM_weigh_29 : decode cM_weigh 29 = .ok (.aload_n 0, 1) := by decide +kernel
theorem dM_weigh_30 : decode cM_weigh 30 = .ok (.getfield 205, 3) := by decide +kernel
theorem dM_weigh_33 : decode cM_weigh 33 = .ok (.if_icmp .ge 4, 3) := by decide +kernel
theorem dM_weigh_36 : decode cM_weigh 36 = .ok (.return_, 1) := by decide +kernel
theorem dM_weigh_37 : decode cM_weigh 37 = .ok (.iload 8, 2) := by decide +kernel
theorem dM_weigh_39 : decode cM_weigh 39 = .ok (.aload_n 0, 1) := by decide +kernel
theorem dM_weigh_40 : decode cM_weigh 40 = .ok (.getfield 208, 3) := by decide +kernel
theorem dM_weigh_43 : decode cM_weigh 43 = .ok (.iadd, 1) := by decide +kernel
theorem dM_weigh_44 : decode cM_weigh 44 = .ok (.istore 10, 2) := by decide +kernel
theorem dM_weigh_46 : decode cM_weigh 46 = .ok (.iload 9, 2) := by decide +kernel
theorem dM_weigh_48 : decode cM_weigh 48 = .ok (.aload_n 0, 1) := by decide +kernel
theorem dM_weigh_49 : decode cM_weigh 49 = .ok (.getfield 208, 3) := by decide +kernel
theorem dM_weigh_52 : decode cM_weigh 52 = .ok (.iadd, 1) := by decide +kernel
theorem dM_weigh_53 : decode cM_weigh 53 = .ok (.istore 11, 2) := by decide +kernel
theorem dM_weigh_55 : decode cM_weigh 55 = .ok (.iload 8, 2) := by decide +kernel
theorem dM_weigh_57 : decode cM_weigh 57 = .ok (.iload 9, 2) := by decide +kernel
theorem dM_weigh_59 : decode cM_weigh 59 = .ok (.iadd, 1) := by decide +kernel
theorem dM_weigh_60 : decode cM_weigh 60 = .ok (.aload_n 0, 1) := by decide +kernel
theorem dM_weigh_61 : decode cM_weigh 61 = .ok (.getfield 208, 3) := by decide +kernel
theorem dM_weigh_64 : decode cM_weigh 64 = .ok (.iadd, 1) := by decide +kernel
theorem dM_weigh_65 : decode cM_weigh 65 = .ok (.istore 12, 2) := by decide +kernel
theorem dM_weigh_67 : decode cM_weigh 67 = .ok (.aload_n 0, 1) := by decide +kernel
theorem dM_weigh_68 : decode cM_weigh 68 = .ok (.lload_n 3, 1) := by decide +kernel
theorem dM_weigh_69 : decode cM_weigh 69 = .ok (.aload_n 0, 1) := by decide +kernel
theorem dM_weigh_70 : decode cM_weigh 70 = .ok (.getfield 78, 3) := by decide +kernel
theorem dM_weigh_73 : decode cM_weigh 73 = .ok (.invokevirtual 335, 3) := by decide +kernel
theorem dM_weigh_76 : decode cM_weigh 76 = .ok (.aload_n 0, 1) := by decide +kernel
theorem dM_weigh_77 : decode cM_weigh 77 = .ok (.lload_n 1, 1) := by decide +kernel
theorem dM_weigh_78 : decode cM_weigh 78 = .ok (.lload_n 3, 1) := by decide +kernel
theorem dM_weigh_79 : decode cM_weigh 79 = .ok (.ldc2_w 217, 3) := by decide +kernel
theorem dM_weigh_82 : decode cM_weigh 82 = .ok (.lxor, 1) := by decide +kernel
theorem dM_weigh_83 : decode cM_weigh 83 = .ok (.land, 1) := by decide +kernel
theorem dM_weigh_84 : decode cM_weigh 84 = .ok (.aload_n 0, 1) := by decide +kernel
theorem dM_weigh_85 : decode cM_weigh 85 = .ok (.getfield 81, 3) := by decide +kernel
theorem dM_weigh_88 : decode cM_weigh 88 = .ok (.invokevirtual 335, 3) := by decide +kernel
theorem dM_weigh_91 : decode cM_weigh 91 = .ok (.aload_n 0, 1) := by decide +kernel
theorem dM_weigh_92 : decode cM_weigh 92 = .ok (.aload_n 0, 1) := by decide +kernel
theorem dM_weigh_93 : decode cM_weigh 93 = .ok (.getfield 78, 3) := by decide +kernel
theorem dM_weigh_96 : decode cM_weigh 96 = .ok (.aload_n 0, 1) := by decide +kernel
theorem dM_weigh_97 : decode cM_weigh 97 = .ok (.getfield 78, 3) := by decide +kernel
theorem dM_weigh_100 : decode cM_weigh 100 = .ok (.invokevirtual 386, 3) := by decide +kernel
theorem dM_weigh_103 : decode cM_weigh 103 = .ok (.aload_n 0, 1) := by decide +kernel
theorem dM_weigh_104 : decode cM_weigh 104 = .ok (.getfield 75, 3) := by decide +kernel
theorem dM_weigh_107 : decode cM_weigh 107 = .ok (.aload_n 0, 1) := by decide +kernel
theorem dM_weigh_108 : decode cM_weigh 108 = .ok (.getfield 84, 3) := by decide +kernel
theorem dM_weigh_111 : decode cM_weigh 111 = .ok (.invokestatic 154, 3) := by decide +kernel
theorem dM_weigh_114 : decode cM_weigh 114 = .ok (.aload_n 0, 1) := by decide +kernel
theorem dM_weigh_115 : decode cM_weigh 115 = .ok (.getfield 84, 3) := by decide +kernel
theorem dM_weigh_118 : decode cM_weigh 118 = .ok (.iload 11, 2) := by decide +kernel
theorem dM_weigh_120 : decode cM_weigh 120 = .ok (.iload 12, 2) := by decide +kernel
theorem dM_weigh_122 : decode cM_weigh 122 = .ok (.imul, 1) := by decide +kernel
theorem dM_weigh_123 : decode cM_weigh 123 = .ok (.invokestatic 177, 3) := by decide +kernel
theorem dM_weigh_126 : decode cM_weigh 126 = .ok (.aload_n 0, 1) := by decide +kernel
theorem dM_weigh_127 : decode cM_weigh 127 = .ok (.aload_n 0, 1) := by decide +kernel
theorem dM_weigh_128 : decode cM_weigh 128 = .ok (.getfield 81, 3) := by decide +kernel
theorem dM_weigh_131 : decode cM_weigh 131 = .ok (.aload_n 0, 1) := by decide +kernel
theorem dM_weigh_132 : decode cM_weigh 132 = .ok (.getfield 81, 3) := by decide +kernel
theorem dM_weigh_135 : decode cM_weigh 135 = .ok (.invokevirtual 386, 3) := by decide +kernel
theorem dM_weigh_138 : decode cM_weigh 138 = .ok (.aload_n 0, 1) := by decide +kernel
theorem dM_weigh_139 : decode cM_weigh 139 = .ok (.getfield 75, 3) := by decide +kernel
theorem dM_weigh_142 : decode cM_weigh 142 = .ok (.aload_n 0, 1) := by decide +kernel
theorem dM_weigh_143 : decode cM_weigh 143 = .ok (.getfield 72, 3) := by decide +kernel
theorem dM_weigh_146 : decode cM_weigh 146 = .ok (.invokestatic 154, 3) := by decide +kernel
theorem dM_weigh_149 : decode cM_weigh 149 = .ok (.aload_n 0, 1) := by decide +kernel
theorem dM_weigh_150 : decode cM_weigh 150 = .ok (.getfield 72, 3) := by decide +kernel
theorem dM_weigh_153 : decode cM_weigh 153 = .ok (.iload 10, 2) := by decide +kernel
theorem dM_weigh_155 : decode cM_weigh 155 = .ok (.iload 12, 2) := by decide +kernel
theorem dM_weigh_157 : decode cM_weigh 157 = .ok (.imul, 1) := by decide +kernel
theorem dM_weigh_158 : decode cM_weigh 158 = .ok (.invokestatic 177, 3) := by decide +kernel
theorem dM_weigh_161 : decode cM_weigh 161 = .ok (.aload_n 0, 1) := by decide +kernel
theorem dM_weigh_162 : decode cM_weigh 162 = .ok (.getfield 84, 3) := by decide +kernel
theorem dM_weigh_165 : decode cM_weigh 165 = .ok (.aload_n 0, 1) := by decide +kernel
theorem dM_weigh_166 : decode cM_weigh 166 = .ok (.getfield 72, 3) := by decide +kernel
theorem dM_weigh_169 : decode cM_weigh 169 = .ok (.iconst 1, 1) := by decide +kernel
theorem dM_weigh_170 : decode cM_weigh 170 = .ok (.invokestatic 184, 3) := by decide +kernel
theorem dM_weigh_173 : decode cM_weigh 173 = .ok (.aload_n 0, 1) := by decide +kernel
theorem dM_weigh_174 : decode cM_weigh 174 = .ok (.getfield 78, 3) := by decide +kernel
theorem dM_weigh_177 : decode cM_weigh 177 = .ok (.aload_n 0, 1) := by decide +kernel
theorem dM_weigh_178 : decode cM_weigh 178 = .ok (.getfield 81, 3) := by decide +kernel
theorem dM_weigh_181 : decode cM_weigh 181 = .ok (.iconst 1, 1) := by decide +kernel
theorem dM_weigh_182 : decode cM_weigh 182 = .ok (.invokestatic 184, 3) := by decide +kernel
theorem dM_weigh_185 : decode cM_weigh 185 = .ok (.aload_n 0, 1) := by decide +kernel
theorem dM_weigh_186 : decode cM_weigh 186 = .ok (.aload_n 0, 1) := by decide +kernel
theorem dM_weigh_187 : decode cM_weigh 187 = .ok (.getfield 78, 3) := by decide +kernel
theorem dM_weigh_190 : decode cM_weigh 190 = .ok (.aload_n 0, 1) := by decide +kernel
theorem dM_weigh_191 : decode cM_weigh 191 = .ok (.getfield 78, 3) := by decide +kernel
theorem dM_weigh_194 : decode cM_weigh 194 = .ok (.invokevirtual 386, 3) := by decide +kernel
theorem dM_weigh_197 : decode cM_weigh 197 = .ok (.aload_n 0, 1) := by decide +kernel
theorem dM_weigh_198 : decode cM_weigh 198 = .ok (.getfield 75, 3) := by decide +kernel
theorem dM_weigh_201 : decode cM_weigh 201 = .ok (.aload_n 0, 1) := by decide +kernel
theorem dM_weigh_202 : decode cM_weigh 202 = .ok (.getfield 72, 3) := by decide +kernel
theorem dM_weigh_205 : decode cM_weigh 205 = .ok (.invokestatic 154, 3) := by decide +kernel
theorem dM_weigh_208 : decode cM_weigh 208 = .ok (.aload_n 0, 1) := by decide +kernel
theorem dM_weigh_209 : decode cM_weigh 209 = .ok (.getfield 72, 3) := by decide +kernel
theorem dM_weigh_212 : decode cM_weigh 212 = .ok (.iload 10, 2) := by decide +kernel
theorem dM_weigh_214 : decode cM_weigh 214 = .ok (.iload 11, 2) := by decide +kernel
theorem dM_weigh_216 : decode cM_weigh 216 = .ok (.imul, 1) := by decide +kernel
theorem dM_weigh_217 : decode cM_weigh 217 = .ok (.invokestatic 177, 3) := by decide +kernel
theorem dM_weigh_220 : decode cM_weigh 220 = .ok (.aload_n 0, 1) := by decide +kernel
theorem dM_weigh_221 : decode cM_weigh 221 = .ok (.getfield 84, 3) := by decide +kernel
theorem dM_weigh_224 : decode cM_weigh 224 = .ok (.aload_n 0, 1) := by decide +kernel
theorem dM_weigh_225 : decode cM_weigh 225 = .ok (.getfield 72, 3) := by decide +kernel
theorem dM_weigh_228 : decode cM_weigh 228 = .ok (.iconst (-1), 1) := by decide +kernel
theorem dM_weigh_229 : decode cM_weigh 229 = .ok (.invokestatic 184, 3) := by decide +kernel
theorem dM_weigh_232 : decode cM_weigh 232 = .ok (.aload_n 0, 1) := by decide +kernel
theorem dM_weigh_233 : decode cM_weigh 233 = .ok (.getfield 84, 3) := by decide +kernel
theorem dM_weigh_236 : decode cM_weigh 236 = .ok (.aload_n 0, 1) := by decide +kernel
theorem dM_weigh_237 : decode cM_weigh 237 = .ok (.getfield 72, 3) := by decide +kernel
theorem dM_weigh_240 : decode cM_weigh 240 = .ok (.invokestatic 154, 3) := by decide +kernel
theorem dM_weigh_243 : decode cM_weigh 243 = .ok (.aload_n 0, 1) := by decide +kernel
theorem dM_weigh_244 : decode cM_weigh 244 = .ok (.getfield 72, 3) := by decide +kernel
theorem dM_weigh_247 : decode cM_weigh 247 = .ok (.aload_n 0, 1) := by decide +kernel
theorem dM_weigh_248 : decode cM_weigh 248 = .ok (.getfield 356, 3) := by decide +kernel
theorem dM_weigh_251 : decode cM_weigh 251 = .ok (.invokestatic 177, 3) := by decide +kernel
theorem dM_weigh_254 : decode cM_weigh 254 = .ok (.aload_n 0, 1) := by decide +kernel
theorem dM_weigh_255 : decode cM_weigh 255 = .ok (.getfield 87, 3) := by decide +kernel
theorem dM_weigh_258 : decode cM_weigh 258 = .ok (.aload_n 0, 1) := by decide +kernel
theorem dM_weigh_259 : decode cM_weigh 259 = .ok (.getfield 96, 3) := by decide +kernel
theorem dM_weigh_262 : decode cM_weigh 262 = .ok (.invokestatic 154, 3) := by decide +kernel
theorem dM_weigh_265 : decode cM_weigh 265 = .ok (.aload_n 0, 1) := by decide +kernel
theorem dM_weigh_266 : decode cM_weigh 266 = .ok (.getfield 96, 3) := by decide +kernel
theorem dM_weigh_269 : decode cM_weigh 269 = .ok (.iload 10, 2) := by decide +kernel
theorem dM_weigh_271 : decode cM_weigh 271 = .ok (.iload 11, 2) := by decide +kernel
theorem dM_weigh_273 : decode cM_weigh 273 = .ok (.imul, 1) := by decide +kernel
theorem dM_weigh_274 : decode cM_weigh 274 = .ok (.iload 12, 2) := by decide +kernel
theorem dM_weigh_276 : decode cM_weigh 276 = .ok (.imul, 1) := by decide +kernel
theorem dM_weigh_277 : decode cM_weigh 277 = .ok (.invokestatic 177, 3) := by decide +kernel
theorem dM_weigh_280 : decode cM_weigh 280 = .ok (.aload_n 0, 1) := by decide +kernel
theorem dM_weigh_281 : decode cM_weigh 281 = .ok (.getfield 72, 3) := by decide +kernel
theorem dM_weigh_284 : decode cM_weigh 284 = .ok (.aload_n 0, 1) := by decide +kernel
theorem dM_weigh_285 : decode cM_weigh 285 = .ok (.getfield 96, 3) := by decide +kernel
theorem dM_weigh_288 : decode cM_weigh 288 = .ok (.invokestatic 367, 3) := by decide +kernel
theorem dM_weigh_291 : decode cM_weigh 291 = .ok (.ifCond .le 49, 3) := by decide +kernel
theorem dM_weigh_294 : decode cM_weigh 294 = .ok (.aload_n 0, 1) := by decide +kernel
theorem dM_weigh_295 : decode cM_weigh 295 = .ok (.getfield 84, 3) := by decide +kernel
theorem dM_weigh_298 : decode cM_weigh 298 = .ok (.aload_n 0, 1) := by decide +kernel
theorem dM_weigh_299 : decode cM_weigh 299 = .ok (.getfield 87, 3) := by decide +kernel
theorem dM_weigh_302 : decode cM_weigh 302 = .ok (.invokestatic 154, 3) := by decide +kernel
theorem dM_weigh_305 : decode cM_weigh 305 = .ok (.aload_n 0, 1) := by decide +kernel
theorem dM_weigh_306 : decode cM_weigh 306 = .ok (.iload 10, 2) := by decide +kernel
theorem dM_weigh_308 : decode cM_weigh 308 = .ok (.iload 11, 2) := by decide +kernel
theorem dM_weigh_310 : decode cM_weigh 310 = .ok (.imul, 1) := by decide +kernel
theorem dM_weigh_311 : decode cM_weigh 311 = .ok (.iload 12, 2) := by decide +kernel
theorem dM_weigh_313 : decode cM_weigh 313 = .ok (.imul, 1) := by decide +kernel
theorem dM_weigh_314 : decode cM_weigh 314 = .ok (.putfield 356, 3) := by decide +kernel
theorem dM_weigh_317 : decode cM_weigh 317 = .ok (.aload_n 0, 1) := by decide +kernel
theorem dM_weigh_318 : decode cM_weigh 318 = .ok (.iload 5, 2) := by decide +kernel
theorem dM_weigh_320 : decode cM_weigh 320 = .ok (.putfield 346, 3) := by decide +kernel
theorem dM_weigh_323 : decode cM_weigh 323 = .ok (.aload_n 0, 1) := by decide +kernel
theorem dM_weigh_324 : decode cM_weigh 324 = .ok (.iload 6, 2) := by decide +kernel
theorem dM_weigh_326 : decode cM_weigh 326 = .ok (.putfield 349, 3) := by decide +kernel
theorem dM_weigh_329 : decode cM_weigh 329 = .ok (.aload_n 0, 1) := by decide +kernel
theorem dM_weigh_330 : decode cM_weigh 330 = .ok (.iload 7, 2) := by decide +kernel
theorem dM_weigh_332 : decode cM_weigh 332 = .ok (.putfield 352, 3) := by decide +kernel
theorem dM_weigh_335 : decode cM_weigh 335 = .ok (.aload_n 0, 1) := by decide +kernel
theorem dM_weigh_336 : decode cM_weigh 336 = .ok (.lload_n 3, 1) := by decide +kernel
theorem dM_weigh_337 : decode cM_weigh 337 = .ok (.putfield 329, 3) := by decide +kernel
theorem dM_weigh_340 : decode cM_weigh 340 = .ok (.return_, 1) := by decide +kernel
