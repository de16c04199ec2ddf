theorem dGr_consider_0 : decode cGr_consider 0 = .ok (.aload 4, 2) := by decide +kernel
theorem dGr_consider_2 : decode cGr_consider 2 = .ok (.getfield 209, 3) := by decide +kernel
theorem dGr_consider_5 : decode cGr_consider 5 = .ok (.invokestatic 69, 3) := by decide +kernel
theorem dGr_consider_8 : decode cGr_consider 8 = .ok (.istore 6, 2) := by decide +kernel
theorem dGr_consider_10 : decode cGr_consider 10 = .ok (.aload_n 1, 1) := by decide +kernel
theorem dGr_consider_11 : decode cGr_consider 11 = .ok (.getfield 165, 3) := by decide +kernel
theorem dGr_consider_14 : decode cGr_consider 14 = .ok (.iload 6, 2) := by decide +kernel
theorem dGr_consider_16 : decode cGr_consider 16 = .ok (.isub, 1) := by decide +kernel
theorem dGr_consider_17 : decode cGr_consider 17 = .ok (.istore 7, 2) := by decide +kernel
theorem dGr_consider_19 : decode cGr_consider 19 = .ok (.iload 6, 2) := by decide +kernel
theorem dGr_consider_21 : decode cGr_consider 21 = .ok (.aload_n 0, 1) := by decide +kernel
theorem dGr_consider_22 : decode cGr_consider 22 = .ok (.getfield 61, 3) := by decide +kernel
theorem dGr_consider_25 : decode cGr_consider 25 = .ok (.getfield 237, 3) := by decide +kernel
theorem dGr_consider_28 : decode cGr_consider 28 = .ok (.if_icmp .lt 15, 3) := by decide +kernel
theorem dGr_consider_31 : decode cGr_consider 31 = .ok (.iload 7, 2) := by decide +kernel
theorem dGr_consider_33 : decode cGr_consider 33 = .ok (.aload_n 0, 1) := by decide +kernel
theorem dGr_consider_34 : decode cGr_consider 34 = .ok (.getfield 61, 3) := by decide +kernel
theorem dGr_consider_37 : decode cGr_consider 37 = .ok (.getfield 237, 3) := by decide +kernel
theorem dGr_consider_40 : decode cGr_consider 40 = .ok (.if_icmp .ge 4, 3) := by decide +kernel
theorem dGr_consider_43 : decode cGr_consider 43 = .ok (.return_, 1) := by decide +kernel
theorem dGr_consider_44 : decode cGr_consider 44 = .ok (.iload 6, 2) := by decide +kernel
theorem dGr_consider_46 : decode cGr_consider 46 = .ok (.aload_n 0, 1) := by decide +kernel
theorem dGr_consider_47 : decode cGr_consider 47 = .ok (.getfield 61, 3) := by decide +kernel
theorem dGr_consider_50 : decode cGr_consider 50 = .ok (.getfield 166, 3) := by decide +kernel
theorem dGr_consider_53 : decode cGr_consider 53 = .ok (.iadd, 1) := by decide +kernel
theorem dGr_consider_54 : decode cGr_consider 54 = .ok (.istore 8, 2) := by decide +kernel
theorem dGr_consider_56 : decode cGr_consider 56 = .ok (.iload 7, 2) := by decide +kernel
theorem dGr_consider_58 : decode cGr_consider 58 = .ok (.aload_n 0, 1) := by decide +kernel
theorem dGr_consider_59 : decode cGr_consider 59 = .ok (.getfield 61, 3) := by decide +kernel
theorem dGr_consider_62 : decode cGr_consider 62 = .ok (.getfield 166, 3) := by decide +kernel
theorem dGr_consider_65 : decode cGr_consider 65 = .ok (.iadd, 1) := by decide +kernel
theorem dGr_consider_66 : decode cGr_consider 66 = .ok (.istore 9, 2) := by decide +kernel
theorem dGr_consider_68 : decode cGr_consider 68 = .ok (.aload_n 0, 1) := by decide +kernel
theorem dGr_consider_69 : decode cGr_consider 69 = .ok (.getfield 37, 3) := by decide +kernel
theorem dGr_consider_72 : decode cGr_consider 72 = .ok (.aload_n 1, 1) := by decide +kernel
theorem dGr_consider_73 : decode cGr_consider 73 = .ok (.getfield 85, 3) := by decide +kernel
theorem dGr_consider_76 : decode cGr_consider 76 = .ok (.invokevirtual 162, 3) := by decide +kernel
theorem dGr_consider_79 : decode cGr_consider 79 = .ok (.aload_n 0, 1) := by decide +kernel
theorem dGr_consider_80 : decode cGr_consider 80 = .ok (.getfield 37, 3) := by decide +kernel
theorem dGr_consider_83 : decode cGr_consider 83 = .ok (.aload 4, 2) := by decide +kernel
theorem dGr_consider_85 : decode cGr_consider 85 = .ok (.getfield 211, 3) := by decide +kernel
theorem dGr_consider_88 : decode cGr_consider 88 = .ok (.iconst 1, 1) := by decide +kernel
theorem dGr_consider_89 : decode cGr_consider 89 = .ok (.invokevirtual 145, 3) := by decide +kernel
theorem dGr_consider_92 : decode cGr_consider 92 = .ok (.aload_n 0, 1) := by decide +kernel
theorem dGr_consider_93 : decode cGr_consider 93 = .ok (.getfield 54, 3) := by decide +kernel
theorem dGr_consider_96 : decode cGr_consider 96 = .ok (.getfield 159, 3) := by decide +kernel
theorem dGr_consider_99 : decode cGr_consider 99 = .ok (.aload 4, 2) := by decide +kernel
theorem dGr_consider_101 : decode cGr_consider 101 = .ok (.getfield 211, 3) := by decide +kernel
theorem dGr_consider_104 : decode cGr_consider 104 = .ok (.iload 8, 2) := by decide +kernel
theorem dGr_consider_106 : decode cGr_consider 106 = .ok (.aload_n 0, 1) := by decide +kernel
theorem dGr_consider_107 : decode cGr_consider 107 = .ok (.getfield 37, 3) := by decide +kernel
theorem dGr_consider_110 : decode cGr_consider 110 = .ok (.iload 9, 2) := by decide +kernel
theorem dGr_consider_112 : decode cGr_consider 112 = .ok (.aload_n 0, 1) := by decide +kernel
theorem dGr_consider_113 : decode cGr_consider 113 = .ok (.getfield 41, 3) := by decide +kernel
theorem dGr_consider_116 : decode cGr_consider 116 = .ok (.invokestatic 240, 3) := by decide +kernel
theorem dGr_consider_119 : decode cGr_consider 119 = .ok (.aload_n 0, 1) := by decide +kernel
theorem dGr_consider_120 : decode cGr_consider 120 = .ok (.getfield 54, 3) := by decide +kernel
theorem dGr_consider_123 : decode cGr_consider 123 = .ok (.iload 8, 2) := by decide +kernel
theorem dGr_consider_125 : decode cGr_consider 125 = .ok (.iload 9, 2) := by decide +kernel
theorem dGr_consider_127 : decode cGr_consider 127 = .ok (.imul, 1) := by decide +kernel
theorem dGr_consider_128 : decode cGr_consider 128 = .ok (.putfield 177, 3) := by decide +kernel
theorem dGr_consider_131 : decode cGr_consider 131 = .ok (.aload_n 0, 1) := by decide +kernel
theorem dGr_consider_132 : decode cGr_consider 132 = .ok (.getfield 50, 3) := by decide +kernel
theorem dGr_consider_135 : decode cGr_consider 135 = .ok (.getfield 104, 3) := by decide +kernel
theorem dGr_consider_138 : decode cGr_consider 138 = .ok (.iconst (-1), 1) := by decide +kernel
theorem dGr_consider_139 : decode cGr_consider 139 = .ok (.if_icmp .eq 10, 3) := by decide +kernel
theorem dGr_consider_142 : decode cGr_consider 142 = .ok (.aload_n 0, 1) := by decide +kernel
theorem dGr_consider_143 : decode cGr_consider 143 = .ok (.invokevirtual 244, 3) := by decide +kernel
theorem dGr_consider_146 : decode cGr_consider 146 = .ok (.ifCond .eq 79, 3) := by decide +kernel
theorem dGr_consider_149 : decode cGr_consider 149 = .ok (.aload_n 0, 1) := by decide +kernel
theorem dGr_consider_150 : decode cGr_consider 150 = .ok (.getfield 54, 3) := by decide +kernel
theorem dGr_consider_153 : decode cGr_consider 153 = .ok (.iload_n 2, 1) := by decide +kernel
theorem dGr_consider_154 : decode cGr_consider 154 = .ok (.putfield 104, 3) := by decide +kernel
theorem dGr_consider_157 : decode cGr_consider 157 = .ok (.aload_n 0, 1) := by decide +kernel
theorem dGr_consider_158 : decode cGr_consider 158 = .ok (.getfield 54, 3) := by decide +kernel
theorem dGr_consider_161 : decode cGr_consider 161 = .ok (.iload_n 3, 1) := by decide +kernel
theorem dGr_consider_162 : decode cGr_consider 162 = .ok (.putfield 108, 3) := by decide +kernel
theorem dGr_consider_165 : decode cGr_consider 165 = .ok (.aload_n 0, 1) := by decide +kernel
theorem dGr_consider_166 : decode cGr_consider 166 = .ok (.getfield 54, 3) := by decide +kernel
theorem dGr_consider_169 : decode cGr_consider 169 = .ok (.aload_n 0, 1) := by decide +kernel
theorem dGr_consider_170 : decode cGr_consider 170 = .ok (.getfield 57, 3) := by decide +kernel
theorem dGr_consider_173 : decode cGr_consider 173 = .ok (.getfield 184, 3) := by decide +kernel
theorem dGr_consider_176 : decode cGr_consider 176 = .ok (.iload_n 2, 1) := by decide +kernel
theorem dGr_consider_177 : decode cGr_consider 177 = .ok (.aaload, 1) := by decide +kernel
theorem dGr_consider_178 : decode cGr_consider 178 = .ok (.getfield 192, 3) := by decide +kernel
theorem dGr_consider_181 : decode cGr_consider 181 = .ok (.putfield 112, 3) := by decide +kernel
theorem dGr_consider_184 : decode cGr_consider 184 = .ok (.aload_n 0, 1) := by decide +kernel
theorem dGr_consider_185 : decode cGr_consider 185 = .ok (.getfield 54, 3) := by decide +kernel
theorem dGr_consider_188 : decode cGr_consider 188 = .ok (.iload 5, 2) := by decide +kernel
theorem dGr_consider_190 : decode cGr_consider 190 = .ok (.putfield 117, 3) := by decide +kernel
theorem dGr_consider_193 : decode cGr_consider 193 = .ok (.aload_n 0, 1) := by decide +kernel
theorem dGr_consider_194 : decode cGr_consider 194 = .ok (.getfield 54, 3) := by decide +kernel
theorem dGr_consider_197 : decode cGr_consider 197 = .ok (.aload 4, 2) := by decide +kernel
theorem dGr_consider_199 : decode cGr_consider 199 = .ok (.getfield 209, 3) := by decide +kernel
theorem dGr_consider_202 : decode cGr_consider 202 = .ok (.putfield 121, 3) := by decide +kernel
theorem dGr_consider_205 : decode cGr_consider 205 = .ok (.aload_n 0, 1) := by decide +kernel
theorem dGr_consider_206 : decode cGr_consider 206 = .ok (.getfield 50, 3) := by decide +kernel
theorem dGr_consider_209 : decode cGr_consider 209 = .ok (.astore 10, 2) := by decide +kernel
theorem dGr_consider_211 : decode cGr_consider 211 = .ok (.aload_n 0, 1) := by decide +kernel
theorem dGr_consider_212 : decode cGr_consider 212 = .ok (.aload_n 0, 1) := by decide +kernel
theorem dGr_consider_213 : decode cGr_consider 213 = .ok (.getfield 54, 3) := by decide +kernel
theorem dGr_consider_216 : decode cGr_consider 216 = .ok (.putfield 50, 3) := by decide +kernel
theorem dGr_consider_219 : decode cGr_consider 219 = .ok (.aload_n 0, 1) := by decide +kernel
theorem dGr_consider_220 : decode cGr_consider 220 = .ok (.aload 10, 2) := by decide +kernel
theorem dGr_consider_222 : decode cGr_consider 222 = .ok (.putfield 54, 3) := by decide +kernel
theorem dGr_consider_225 : decode cGr_consider 225 = .ok (.return_, 1) := by decide +kernel
