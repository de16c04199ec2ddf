theorem dGr_tryColumn_0 : decode cGr_tryColumn 0 = .ok (.aload_n 0, 1) := by decide +kernel
theorem dGr_tryColumn_1 : decode cGr_tryColumn 1 = .ok (.getfield 57, 3) := by decide +kernel
theorem dGr_tryColumn_4 : decode cGr_tryColumn 4 = .ok (.getfield 184, 3) := by decide +kernel
theorem dGr_tryColumn_7 : decode cGr_tryColumn 7 = .ok (.iload_n 1, 1) := by decide +kernel
theorem dGr_tryColumn_8 : decode cGr_tryColumn 8 = .ok (.aaload, 1) := by decide +kernel
theorem dGr_tryColumn_9 : decode cGr_tryColumn 9 = .ok (.astore 5, 2) := by decide +kernel
theorem dGr_tryColumn_11 : decode cGr_tryColumn 11 = .ok (.aload_n 0, 1) := by decide +kernel
theorem dGr_tryColumn_12 : decode cGr_tryColumn 12 = .ok (.aload 5, 2) := by decide +kernel
theorem dGr_tryColumn_14 : decode cGr_tryColumn 14 = .ok (.lload_n 3, 1) := by decide +kernel
theorem dGr_tryColumn_15 : decode cGr_tryColumn 15 = .ok (.invokevirtual 188, 3) := by decide +kernel
theorem dGr_tryColumn_18 : decode cGr_tryColumn 18 = .ok (.aload 5, 2) := by decide +kernel
theorem dGr_tryColumn_20 : decode cGr_tryColumn 20 = .ok (.getfield 192, 3) := by decide +kernel
theorem dGr_tryColumn_23 : decode cGr_tryColumn 23 = .ok (.ifCond .eq 10, 3) := by decide +kernel
theorem dGr_tryColumn_26 : decode cGr_tryColumn 26 = .ok (.aload_n 0, 1) := by decide +kernel
theorem dGr_tryColumn_27 : decode cGr_tryColumn 27 = .ok (.invokevirtual 195, 3) := by decide +kernel
theorem dGr_tryColumn_30 : decode cGr_tryColumn 30 = .ok (.goto 14, 3) := by decide +kernel
theorem dGr_tryColumn_33 : decode cGr_tryColumn 33 = .ok (.aload_n 0, 1) := by decide +kernel
theorem dGr_tryColumn_34 : decode cGr_tryColumn 34 = .ok (.aload 5, 2) := by decide +kernel
theorem dGr_tryColumn_36 : decode cGr_tryColumn 36 = .ok (.getfield 199, 3) := by decide +kernel
theorem dGr_tryColumn_39 : decode cGr_tryColumn 39 = .ok (.iconst 1, 1) := by decide +kernel
theorem dGr_tryColumn_40 : decode cGr_tryColumn 40 = .ok (.iadd, 1) := by decide +kernel
theorem dGr_tryColumn_41 : decode cGr_tryColumn 41 = .ok (.invokevirtual 202, 3) := by decide +kernel
theorem dGr_tryColumn_44 : decode cGr_tryColumn 44 = .ok (.istore 6, 2) := by decide +kernel
theorem dGr_tryColumn_46 : decode cGr_tryColumn 46 = .ok (.iconst 0, 1) := by decide +kernel
theorem dGr_tryColumn_47 : decode cGr_tryColumn 47 = .ok (.istore 7, 2) := by decide +kernel
theorem dGr_tryColumn_49 : decode cGr_tryColumn 49 = .ok (.aload_n 0, 1) := by decide +kernel
theorem dGr_tryColumn_50 : decode cGr_tryColumn 50 = .ok (.getfield 26, 3) := by decide +kernel
theorem dGr_tryColumn_53 : decode cGr_tryColumn 53 = .ok (.invokevirtual 206, 3) := by decide +kernel
theorem dGr_tryColumn_56 : decode cGr_tryColumn 56 = .ok (.iconst 1, 1) := by decide +kernel
theorem dGr_tryColumn_57 : decode cGr_tryColumn 57 = .ok (.istore 8, 2) := by decide +kernel
theorem dGr_tryColumn_59 : decode cGr_tryColumn 59 = .ok (.iload 8, 2) := by decide +kernel
theorem dGr_tryColumn_61 : decode cGr_tryColumn 61 = .ok (.iload 6, 2) := by decide +kernel
theorem dGr_tryColumn_63 : decode cGr_tryColumn 63 = .ok (.if_icmp .ge 172, 3) := by decide +kernel
theorem dGr_tryColumn_66 : decode cGr_tryColumn 66 = .ok (.aload_n 0, 1) := by decide +kernel
theorem dGr_tryColumn_67 : decode cGr_tryColumn 67 = .ok (.getfield 11, 3) := by decide +kernel
theorem dGr_tryColumn_70 : decode cGr_tryColumn 70 = .ok (.aload_n 0, 1) := by decide +kernel
theorem dGr_tryColumn_71 : decode cGr_tryColumn 71 = .ok (.getfield 17, 3) := by decide +kernel
theorem dGr_tryColumn_74 : decode cGr_tryColumn 74 = .ok (.iload 8, 2) := by decide +kernel
theorem dGr_tryColumn_76 : decode cGr_tryColumn 76 = .ok (.iconst 1, 1) := by decide +kernel
theorem dGr_tryColumn_77 : decode cGr_tryColumn 77 = .ok (.isub, 1) := by decide +kernel
theorem dGr_tryColumn_78 : decode cGr_tryColumn 78 = .ok (.iaload, 1) := by decide +kernel
theorem dGr_tryColumn_79 : decode cGr_tryColumn 79 = .ok (.aaload, 1) := by decide +kernel
theorem dGr_tryColumn_80 : decode cGr_tryColumn 80 = .ok (.astore 9, 2) := by decide +kernel
theorem dGr_tryColumn_82 : decode cGr_tryColumn 82 = .ok (.iload 8, 2) := by decide +kernel
theorem dGr_tryColumn_84 : decode cGr_tryColumn 84 = .ok (.iconst 1, 1) := by decide +kernel
theorem dGr_tryColumn_85 : decode cGr_tryColumn 85 = .ok (.if_icmp .le 16, 3) := by decide +kernel
theorem dGr_tryColumn_88 : decode cGr_tryColumn 88 = .ok (.aload 9, 2) := by decide +kernel
theorem dGr_tryColumn_90 : decode cGr_tryColumn 90 = .ok (.getfield 209, 3) := by decide +kernel
theorem dGr_tryColumn_93 : decode cGr_tryColumn 93 = .ok (.lconst 0, 1) := by decide +kernel
theorem dGr_tryColumn_94 : decode cGr_tryColumn 94 = .ok (.lcmp, 1) := by decide +kernel
theorem dGr_tryColumn_95 : decode cGr_tryColumn 95 = .ok (.ifCond .ne 6, 3) := by decide +kernel
theorem dGr_tryColumn_98 : decode cGr_tryColumn 98 = .ok (.goto 131, 3) := by decide +kernel
theorem dGr_tryColumn_101 : decode cGr_tryColumn 101 = .ok (.aload_n 0, 1) := by decide +kernel
theorem dGr_tryColumn_102 : decode cGr_tryColumn 102 = .ok (.getfield 26, 3) := by decide +kernel
theorem dGr_tryColumn_105 : decode cGr_tryColumn 105 = .ok (.aload 9, 2) := by decide +kernel
theorem dGr_tryColumn_107 : decode cGr_tryColumn 107 = .ok (.getfield 209, 3) := by decide +kernel
theorem dGr_tryColumn_110 : decode cGr_tryColumn 110 = .ok (.aload 9, 2) := by decide +kernel
theorem dGr_tryColumn_112 : decode cGr_tryColumn 112 = .ok (.getfield 211, 3) := by decide +kernel
theorem dGr_tryColumn_115 : decode cGr_tryColumn 115 = .ok (.invokevirtual 212, 3) := by decide +kernel
theorem dGr_tryColumn_118 : decode cGr_tryColumn 118 = .ok (.iload 7, 2) := by decide +kernel
theorem dGr_tryColumn_120 : decode cGr_tryColumn 120 = .ok (.iconst 1, 1) := by decide +kernel
theorem dGr_tryColumn_121 : decode cGr_tryColumn 121 = .ok (.aload_n 0, 1) := by decide +kernel
theorem dGr_tryColumn_122 : decode cGr_tryColumn 122 = .ok (.getfield 17, 3) := by decide +kernel
theorem dGr_tryColumn_125 : decode cGr_tryColumn 125 = .ok (.iload 8, 2) := by decide +kernel
theorem dGr_tryColumn_127 : decode cGr_tryColumn 127 = .ok (.iconst 1, 1) := by decide +kernel
theorem dGr_tryColumn_128 : decode cGr_tryColumn 128 = .ok (.isub, 1) := by decide +kernel
theorem dGr_tryColumn_129 : decode cGr_tryColumn 129 = .ok (.iaload, 1) := by decide +kernel
theorem dGr_tryColumn_130 : decode cGr_tryColumn 130 = .ok (.ishl, 1) := by decide +kernel
theorem dGr_tryColumn_131 : decode cGr_tryColumn 131 = .ok (.ior, 1) := by decide +kernel
theorem dGr_tryColumn_132 : decode cGr_tryColumn 132 = .ok (.istore 7, 2) := by decide +kernel
theorem dGr_tryColumn_134 : decode cGr_tryColumn 134 = .ok (.aload 5, 2) := by decide +kernel
theorem dGr_tryColumn_136 : decode cGr_tryColumn 136 = .ok (.getfield 192, 3) := by decide +kernel
theorem dGr_tryColumn_139 : decode cGr_tryColumn 139 = .ok (.ifCond .eq 8, 3) := by decide +kernel
theorem dGr_tryColumn_142 : decode cGr_tryColumn 142 = .ok (.iload 7, 2) := by decide +kernel
theorem dGr_tryColumn_144 : decode cGr_tryColumn 144 = .ok (.goto 13, 3) := by decide +kernel
theorem dGr_tryColumn_147 : decode cGr_tryColumn 147 = .ok (.aload 5, 2) := by decide +kernel
theorem dGr_tryColumn_149 : decode cGr_tryColumn 149 = .ok (.getfield 215, 3) := by decide +kernel
theorem dGr_tryColumn_152 : decode cGr_tryColumn 152 = .ok (.iload 8, 2) := by decide +kernel
theorem dGr_tryColumn_154 : decode cGr_tryColumn 154 = .ok (.iconst 1, 1) := by decide +kernel
theorem dGr_tryColumn_155 : decode cGr_tryColumn 155 = .ok (.isub, 1) := by decide +kernel
theorem dGr_tryColumn_156 : decode cGr_tryColumn 156 = .ok (.iaload, 1) := by decide +kernel
theorem dGr_tryColumn_157 : decode cGr_tryColumn 157 = .ok (.istore 10, 2) := by decide +kernel
theorem dGr_tryColumn_159 : decode cGr_tryColumn 159 = .ok (.aload_n 0, 1) := by decide +kernel
theorem dGr_tryColumn_160 : decode cGr_tryColumn 160 = .ok (.getfield 29, 3) := by decide +kernel
theorem dGr_tryColumn_163 : decode cGr_tryColumn 163 = .ok (.aload_n 0, 1) := by decide +kernel
theorem dGr_tryColumn_164 : decode cGr_tryColumn 164 = .ok (.getfield 26, 3) := by decide +kernel
theorem dGr_tryColumn_167 : decode cGr_tryColumn 167 = .ok (.invokevirtual 218, 3) := by decide +kernel
theorem dGr_tryColumn_170 : decode cGr_tryColumn 170 = .ok (.aload_n 0, 1) := by decide +kernel
theorem dGr_tryColumn_171 : decode cGr_tryColumn 171 = .ok (.getfield 29, 3) := by decide +kernel
theorem dGr_tryColumn_174 : decode cGr_tryColumn 174 = .ok (.aload_n 0, 1) := by decide +kernel
theorem dGr_tryColumn_175 : decode cGr_tryColumn 175 = .ok (.getfield 22, 3) := by decide +kernel
theorem dGr_tryColumn_178 : decode cGr_tryColumn 178 = .ok (.getfield 209, 3) := by decide +kernel
theorem dGr_tryColumn_181 : decode cGr_tryColumn 181 = .ok (.aload_n 0, 1) := by decide +kernel
theorem dGr_tryColumn_182 : decode cGr_tryColumn 182 = .ok (.getfield 22, 3) := by decide +kernel
theorem dGr_tryColumn_185 : decode cGr_tryColumn 185 = .ok (.getfield 211, 3) := by decide +kernel
theorem dGr_tryColumn_188 : decode cGr_tryColumn 188 = .ok (.invokevirtual 212, 3) := by decide +kernel
theorem dGr_tryColumn_191 : decode cGr_tryColumn 191 = .ok (.aload_n 0, 1) := by decide +kernel
theorem dGr_tryColumn_192 : decode cGr_tryColumn 192 = .ok (.aload_n 2, 1) := by decide +kernel
theorem dGr_tryColumn_193 : decode cGr_tryColumn 193 = .ok (.iload_n 1, 1) := by decide +kernel
theorem dGr_tryColumn_194 : decode cGr_tryColumn 194 = .ok (.iload 10, 2) := by decide +kernel
theorem dGr_tryColumn_196 : decode cGr_tryColumn 196 = .ok (.aload_n 0, 1) := by decide +kernel
theorem dGr_tryColumn_197 : decode cGr_tryColumn 197 = .ok (.getfield 29, 3) := by decide +kernel
theorem dGr_tryColumn_200 : decode cGr_tryColumn 200 = .ok (.iconst 1, 1) := by decide +kernel
theorem dGr_tryColumn_201 : decode cGr_tryColumn 201 = .ok (.invokevirtual 222, 3) := by decide +kernel
theorem dGr_tryColumn_204 : decode cGr_tryColumn 204 = .ok (.aload_n 0, 1) := by decide +kernel
theorem dGr_tryColumn_205 : decode cGr_tryColumn 205 = .ok (.getfield 22, 3) := by decide +kernel
theorem dGr_tryColumn_208 : decode cGr_tryColumn 208 = .ok (.getfield 209, 3) := by decide +kernel
theorem dGr_tryColumn_211 : decode cGr_tryColumn 211 = .ok (.lconst 0, 1) := by decide +kernel
theorem dGr_tryColumn_212 : decode cGr_tryColumn 212 = .ok (.lcmp, 1) := by decide +kernel
theorem dGr_tryColumn_213 : decode cGr_tryColumn 213 = .ok (.ifCond .eq 16, 3) := by decide +kernel
theorem dGr_tryColumn_216 : decode cGr_tryColumn 216 = .ok (.aload_n 0, 1) := by decide +kernel
theorem dGr_tryColumn_217 : decode cGr_tryColumn 217 = .ok (.aload_n 2, 1) := by decide +kernel
theorem dGr_tryColumn_218 : decode cGr_tryColumn 218 = .ok (.iload_n 1, 1) := by decide +kernel
theorem dGr_tryColumn_219 : decode cGr_tryColumn 219 = .ok (.iload 10, 2) := by decide +kernel
theorem dGr_tryColumn_221 : decode cGr_tryColumn 221 = .ok (.aload_n 0, 1) := by decide +kernel
theorem dGr_tryColumn_222 : decode cGr_tryColumn 222 = .ok (.getfield 26, 3) := by decide +kernel
theorem dGr_tryColumn_225 : decode cGr_tryColumn 225 = .ok (.iconst 0, 1) := by decide +kernel
theorem dGr_tryColumn_226 : decode cGr_tryColumn 226 = .ok (.invokevirtual 222, 3) := by decide +kernel
theorem dGr_tryColumn_229 : decode cGr_tryColumn 229 = .ok (.iinc 8 1, 3) := by decide +kernel
theorem dGr_tryColumn_232 : decode cGr_tryColumn 232 = .ok (.goto (-173), 3) := by decide +kernel
theorem dGr_tryColumn_235 : decode cGr_tryColumn 235 = .ok (.return_, 1) := by decide +kernel
