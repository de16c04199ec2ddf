theorem dR_setToGain_0 : decode cR_setToGain 0 = .ok (.aload_n 1, 1) := by decide +kernel
theorem dR_setToGain_1 : decode cR_setToGain 1 = .ok (.aload_n 2, 1) := by decide +kernel
theorem dR_setToGain_2 : decode cR_setToGain 2 = .ok (.getfield 238, 3) := by decide +kernel
theorem dR_setToGain_5 : decode cR_setToGain 5 = .ok (.invokevirtual 223, 3) := by decide +kernel
theorem dR_setToGain_8 : decode cR_setToGain 8 = .ok (.astore_n 3, 1) := by decide +kernel
theorem dR_setToGain_9 : decode cR_setToGain 9 = .ok (.aload_n 1, 1) := by decide +kernel
theorem dR_setToGain_10 : decode cR_setToGain 10 = .ok (.aload_n 2, 1) := by decide +kernel
theorem dR_setToGain_11 : decode cR_setToGain 11 = .ok (.getfield 241, 3) := by decide +kernel
theorem dR_setToGain_14 : decode cR_setToGain 14 = .ok (.invokevirtual 223, 3) := by decide +kernel
theorem dR_setToGain_17 : decode cR_setToGain 17 = .ok (.astore 4, 2) := by decide +kernel
theorem dR_setToGain_19 : decode cR_setToGain 19 = .ok (.aload_n 2, 1) := by decide +kernel
theorem dR_setToGain_20 : decode cR_setToGain 20 = .ok (.getfield 244, 3) := by decide +kernel
theorem dR_setToGain_23 : decode cR_setToGain 23 = .ok (.aload_n 1, 1) := by decide +kernel
theorem dR_setToGain_24 : decode cR_setToGain 24 = .ok (.getfield 285, 3) := by decide +kernel
theorem dR_setToGain_27 : decode cR_setToGain 27 = .ok (.iadd, 1) := by decide +kernel
theorem dR_setToGain_28 : decode cR_setToGain 28 = .ok (.istore 5, 2) := by decide +kernel
theorem dR_setToGain_30 : decode cR_setToGain 30 = .ok (.aload_n 3, 1) := by decide +kernel
theorem dR_setToGain_31 : decode cR_setToGain 31 = .ok (.getfield 244, 3) := by decide +kernel
theorem dR_setToGain_34 : decode cR_setToGain 34 = .ok (.aload_n 1, 1) := by decide +kernel
theorem dR_setToGain_35 : decode cR_setToGain 35 = .ok (.getfield 285, 3) := by decide +kernel
theorem dR_setToGain_38 : decode cR_setToGain 38 = .ok (.iadd, 1) := by decide +kernel
theorem dR_setToGain_39 : decode cR_setToGain 39 = .ok (.istore 6, 2) := by decide +kernel
theorem dR_setToGain_41 : decode cR_setToGain 41 = .ok (.aload 4, 2) := by decide +kernel
theorem dR_setToGain_43 : decode cR_setToGain 43 = .ok (.getfield 244, 3) := by decide +kernel
theorem dR_setToGain_46 : decode cR_setToGain 46 = .ok (.aload_n 1, 1) := by decide +kernel
theorem dR_setToGain_47 : decode cR_setToGain 47 = .ok (.getfield 285, 3) := by decide +kernel
theorem dR_setToGain_50 : decode cR_setToGain 50 = .ok (.iadd, 1) := by decide +kernel
theorem dR_setToGain_51 : decode cR_setToGain 51 = .ok (.istore 7, 2) := by decide +kernel
theorem dR_setToGain_53 : decode cR_setToGain 53 = .ok (.aload_n 0, 1) := by decide +kernel
theorem dR_setToGain_54 : decode cR_setToGain 54 = .ok (.getfield 50, 3) := by decide +kernel
theorem dR_setToGain_57 : decode cR_setToGain 57 = .ok (.getfield 269, 3) := by decide +kernel
theorem dR_setToGain_60 : decode cR_setToGain 60 = .ok (.iconst 0, 1) := by decide +kernel
theorem dR_setToGain_61 : decode cR_setToGain 61 = .ok (.aaload, 1) := by decide +kernel
theorem dR_setToGain_62 : decode cR_setToGain 62 = .ok (.aload_n 3, 1) := by decide +kernel
theorem dR_setToGain_63 : decode cR_setToGain 63 = .ok (.getfield 272, 3) := by decide +kernel
theorem dR_setToGain_66 : decode cR_setToGain 66 = .ok (.iload 6, 2) := by decide +kernel
theorem dR_setToGain_68 : decode cR_setToGain 68 = .ok (.aload 4, 2) := by decide +kernel
theorem dR_setToGain_70 : decode cR_setToGain 70 = .ok (.getfield 272, 3) := by decide +kernel
theorem dR_setToGain_73 : decode cR_setToGain 73 = .ok (.iload 7, 2) := by decide +kernel
theorem dR_setToGain_75 : decode cR_setToGain 75 = .ok (.aload_n 0, 1) := by decide +kernel
theorem dR_setToGain_76 : decode cR_setToGain 76 = .ok (.getfield 70, 3) := by decide +kernel
theorem dR_setToGain_79 : decode cR_setToGain 79 = .ok (.invokestatic 357, 3) := by decide +kernel
theorem dR_setToGain_82 : decode cR_setToGain 82 = .ok (.aload_n 0, 1) := by decide +kernel
theorem dR_setToGain_83 : decode cR_setToGain 83 = .ok (.getfield 50, 3) := by decide +kernel
theorem dR_setToGain_86 : decode cR_setToGain 86 = .ok (.getfield 269, 3) := by decide +kernel
theorem dR_setToGain_89 : decode cR_setToGain 89 = .ok (.iconst 0, 1) := by decide +kernel
theorem dR_setToGain_90 : decode cR_setToGain 90 = .ok (.aaload, 1) := by decide +kernel
theorem dR_setToGain_91 : decode cR_setToGain 91 = .ok (.iload 5, 2) := by decide +kernel
theorem dR_setToGain_93 : decode cR_setToGain 93 = .ok (.i2l, 1) := by decide +kernel
theorem dR_setToGain_94 : decode cR_setToGain 94 = .ok (.invokevirtual 280, 3) := by decide +kernel
theorem dR_setToGain_97 : decode cR_setToGain 97 = .ok (.aload_n 0, 1) := by decide +kernel
theorem dR_setToGain_98 : decode cR_setToGain 98 = .ok (.getfield 70, 3) := by decide +kernel
theorem dR_setToGain_101 : decode cR_setToGain 101 = .ok (.aload_n 2, 1) := by decide +kernel
theorem dR_setToGain_102 : decode cR_setToGain 102 = .ok (.getfield 272, 3) := by decide +kernel
theorem dR_setToGain_105 : decode cR_setToGain 105 = .ok (.aload_n 2, 1) := by decide +kernel
theorem dR_setToGain_106 : decode cR_setToGain 106 = .ok (.getfield 272, 3) := by decide +kernel
theorem dR_setToGain_109 : decode cR_setToGain 109 = .ok (.invokevirtual 306, 3) := by decide +kernel
theorem dR_setToGain_112 : decode cR_setToGain 112 = .ok (.aload_n 0, 1) := by decide +kernel
theorem dR_setToGain_113 : decode cR_setToGain 113 = .ok (.getfield 70, 3) := by decide +kernel
theorem dR_setToGain_116 : decode cR_setToGain 116 = .ok (.iload 6, 2) := by decide +kernel
theorem dR_setToGain_118 : decode cR_setToGain 118 = .ok (.iload 7, 2) := by decide +kernel
theorem dR_setToGain_120 : decode cR_setToGain 120 = .ok (.imul, 1) := by decide +kernel
theorem dR_setToGain_121 : decode cR_setToGain 121 = .ok (.i2l, 1) := by decide +kernel
theorem dR_setToGain_122 : decode cR_setToGain 122 = .ok (.invokevirtual 280, 3) := by decide +kernel
theorem dR_setToGain_125 : decode cR_setToGain 125 = .ok (.aload_n 0, 1) := by decide +kernel
theorem dR_setToGain_126 : decode cR_setToGain 126 = .ok (.getfield 50, 3) := by decide +kernel
theorem dR_setToGain_129 : decode cR_setToGain 129 = .ok (.getfield 269, 3) := by decide +kernel
theorem dR_setToGain_132 : decode cR_setToGain 132 = .ok (.iconst 0, 1) := by decide +kernel
theorem dR_setToGain_133 : decode cR_setToGain 133 = .ok (.aaload, 1) := by decide +kernel
theorem dR_setToGain_134 : decode cR_setToGain 134 = .ok (.aload_n 0, 1) := by decide +kernel
theorem dR_setToGain_135 : decode cR_setToGain 135 = .ok (.getfield 70, 3) := by decide +kernel
theorem dR_setToGain_138 : decode cR_setToGain 138 = .ok (.iconst 1, 1) := by decide +kernel
theorem dR_setToGain_139 : decode cR_setToGain 139 = .ok (.invokevirtual 353, 3) := by decide +kernel
theorem dR_setToGain_142 : decode cR_setToGain 142 = .ok (.aload_n 0, 1) := by decide +kernel
theorem dR_setToGain_143 : decode cR_setToGain 143 = .ok (.getfield 67, 3) := by decide +kernel
theorem dR_setToGain_146 : decode cR_setToGain 146 = .ok (.aload_n 0, 1) := by decide +kernel
theorem dR_setToGain_147 : decode cR_setToGain 147 = .ok (.getfield 50, 3) := by decide +kernel
theorem dR_setToGain_150 : decode cR_setToGain 150 = .ok (.getfield 262, 3) := by decide +kernel
theorem dR_setToGain_153 : decode cR_setToGain 153 = .ok (.invokevirtual 275, 3) := by decide +kernel
theorem dR_setToGain_156 : decode cR_setToGain 156 = .ok (.aload_n 0, 1) := by decide +kernel
theorem dR_setToGain_157 : decode cR_setToGain 157 = .ok (.getfield 50, 3) := by decide +kernel
theorem dR_setToGain_160 : decode cR_setToGain 160 = .ok (.getfield 262, 3) := by decide +kernel
theorem dR_setToGain_163 : decode cR_setToGain 163 = .ok (.aload_n 0, 1) := by decide +kernel
theorem dR_setToGain_164 : decode cR_setToGain 164 = .ok (.getfield 67, 3) := by decide +kernel
theorem dR_setToGain_167 : decode cR_setToGain 167 = .ok (.aload_n 0, 1) := by decide +kernel
theorem dR_setToGain_168 : decode cR_setToGain 168 = .ok (.getfield 67, 3) := by decide +kernel
theorem dR_setToGain_171 : decode cR_setToGain 171 = .ok (.invokevirtual 306, 3) := by decide +kernel
theorem dR_setToGain_174 : decode cR_setToGain 174 = .ok (.aload_n 0, 1) := by decide +kernel
theorem dR_setToGain_175 : decode cR_setToGain 175 = .ok (.getfield 50, 3) := by decide +kernel
theorem dR_setToGain_178 : decode cR_setToGain 178 = .ok (.getfield 262, 3) := by decide +kernel
theorem dR_setToGain_181 : decode cR_setToGain 181 = .ok (.iload 6, 2) := by decide +kernel
theorem dR_setToGain_183 : decode cR_setToGain 183 = .ok (.iload 7, 2) := by decide +kernel
theorem dR_setToGain_185 : decode cR_setToGain 185 = .ok (.imul, 1) := by decide +kernel
theorem dR_setToGain_186 : decode cR_setToGain 186 = .ok (.iload 5, 2) := by decide +kernel
theorem dR_setToGain_188 : decode cR_setToGain 188 = .ok (.imul, 1) := by decide +kernel
theorem dR_setToGain_189 : decode cR_setToGain 189 = .ok (.i2l, 1) := by decide +kernel
theorem dR_setToGain_190 : decode cR_setToGain 190 = .ok (.invokevirtual 280, 3) := by decide +kernel
theorem dR_setToGain_193 : decode cR_setToGain 193 = .ok (.return_, 1) := by decide +kernel
theorem dR_tell_0 : decode cR_tell 0 = .ok (.aload_n 0, 1) := by decide +kernel
theorem dR_tell_1 : decode cR_tell 1 = .ok (.iload_n 1, 1) := by decide +kernel
theorem dR_tell_2 : decode cR_tell 2 = .ok (.iload_n 2, 1) := by decide +kernel
theorem dR_tell_3 : decode cR_tell 3 = .ok (.invokevirtual 215, 3) := by decide +kernel
theorem dR_tell_6 : decode cR_tell 6 = .ok (.invokestatic 86, 3) := by decide +kernel
theorem dR_tell_9 : decode cR_tell 9 = .ok (.aload_n 0, 1) := by decide +kernel
theorem dR_tell_10 : decode cR_tell 10 = .ok (.getfield 43, 3) := by decide +kernel
theorem dR_tell_13 : decode cR_tell 13 = .ok (.iload_n 1, 1) := by decide +kernel
theorem dR_tell_14 : decode cR_tell 14 = .ok (.invokevirtual 219, 3) := by decide +kernel
theorem dR_tell_17 : decode cR_tell 17 = .ok (.checkcast 207, 3) := by decide +kernel
theorem dR_tell_20 : decode cR_tell 20 = .ok (.astore_n 3, 1) := by decide +kernel
theorem dR_tell_21 : decode cR_tell 21 = .ok (.aload_n 3, 1) := by decide +kernel
theorem dR_tell_22 : decode cR_tell 22 = .ok (.iload_n 2, 1) := by decide +kernel
theorem dR_tell_23 : decode cR_tell 23 = .ok (.invokevirtual 223, 3) := by decide +kernel
theorem dR_tell_26 : decode cR_tell 26 = .ok (.astore 4, 2) := by decide +kernel
theorem dR_tell_28 : decode cR_tell 28 = .ok (.aload_n 0, 1) := by decide +kernel
theorem dR_tell_29 : decode cR_tell 29 = .ok (.aload_n 0, 1) := by decide +kernel
theorem dR_tell_30 : decode cR_tell 30 = .ok (.getfield 50, 3) := by decide +kernel
theorem dR_tell_33 : decode cR_tell 33 = .ok (.getfield 262, 3) := by decide +kernel
theorem dR_tell_36 : decode cR_tell 36 = .ok (.iload_n 1, 1) := by decide +kernel
theorem dR_tell_37 : decode cR_tell 37 = .ok (.invokevirtual 265, 3) := by decide +kernel
theorem dR_tell_40 : decode cR_tell 40 = .ok (.aload 4, 2) := by decide +kernel
theorem dR_tell_42 : decode cR_tell 42 = .ok (.getfield 227, 3) := by decide +kernel
theorem dR_tell_45 : decode cR_tell 45 = .ok (.iconst (-1), 1) := by decide +kernel
theorem dR_tell_46 : decode cR_tell 46 = .ok (.if_icmp .ne 66, 3) := by decide +kernel
theorem dR_tell_49 : decode cR_tell 49 = .ok (.aload_n 0, 1) := by decide +kernel
theorem dR_tell_50 : decode cR_tell 50 = .ok (.getfield 50, 3) := by decide +kernel
theorem dR_tell_53 : decode cR_tell 53 = .ok (.getfield 269, 3) := by decide +kernel
theorem dR_tell_56 : decode cR_tell 56 = .ok (.iconst 0, 1) := by decide +kernel
theorem dR_tell_57 : decode cR_tell 57 = .ok (.aaload, 1) := by decide +kernel
theorem dR_tell_58 : decode cR_tell 58 = .ok (.aload 4, 2) := by decide +kernel
theorem dR_tell_60 : decode cR_tell 60 = .ok (.getfield 272, 3) := by decide +kernel
theorem dR_tell_63 : decode cR_tell 63 = .ok (.invokevirtual 275, 3) := by decide +kernel
theorem dR_tell_66 : decode cR_tell 66 = .ok (.aload_n 0, 1) := by decide +kernel
theorem dR_tell_67 : decode cR_tell 67 = .ok (.getfield 50, 3) := by decide +kernel
theorem dR_tell_70 : decode cR_tell 70 = .ok (.getfield 269, 3) := by decide +kernel
theorem dR_tell_73 : decode cR_tell 73 = .ok (.iconst 0, 1) := by decide +kernel
theorem dR_tell_74 : decode cR_tell 74 = .ok (.aaload, 1) := by decide +kernel
theorem dR_tell_75 : decode cR_tell 75 = .ok (.aload_n 3, 1) := by decide +kernel
theorem dR_tell_76 : decode cR_tell 76 = .ok (.getfield 279, 3) := by decide +kernel
theorem dR_tell_79 : decode cR_tell 79 = .ok (.i2l, 1) := by decide +kernel
theorem dR_tell_80 : decode cR_tell 80 = .ok (.invokevirtual 280, 3) := by decide +kernel
theorem dR_tell_83 : decode cR_tell 83 = .ok (.aload_n 0, 1) := by decide +kernel
theorem dR_tell_84 : decode cR_tell 84 = .ok (.getfield 50, 3) := by decide +kernel
theorem dR_tell_87 : decode cR_tell 87 = .ok (.getfield 262, 3) := by decide +kernel
theorem dR_tell_90 : decode cR_tell 90 = .ok (.aload_n 3, 1) := by decide +kernel
theorem dR_tell_91 : decode cR_tell 91 = .ok (.getfield 284, 3) := by decide +kernel
theorem dR_tell_94 : decode cR_tell 94 = .ok (.aload 4, 2) := by decide +kernel
theorem dR_tell_96 : decode cR_tell 96 = .ok (.getfield 244, 3) := by decide +kernel
theorem dR_tell_99 : decode cR_tell 99 = .ok (.aload_n 3, 1) := by decide +kernel
theorem dR_tell_100 : decode cR_tell 100 = .ok (.getfield 285, 3) := by decide +kernel
theorem dR_tell_103 : decode cR_tell 103 = .ok (.iadd, 1) := by decide +kernel
theorem dR_tell_104 : decode cR_tell 104 = .ok (.imul, 1) := by decide +kernel
theorem dR_tell_105 : decode cR_tell 105 = .ok (.i2l, 1) := by decide +kernel
theorem dR_tell_106 : decode cR_tell 106 = .ok (.invokevirtual 280, 3) := by decide +kernel
theorem dR_tell_109 : decode cR_tell 109 = .ok (.goto 10, 3) := by decide +kernel
theorem dR_tell_112 : decode cR_tell 112 = .ok (.aload_n 0, 1) := by decide +kernel
theorem dR_tell_113 : decode cR_tell 113 = .ok (.aload_n 3, 1) := by decide +kernel
theorem dR_tell_114 : decode cR_tell 114 = .ok (.aload 4, 2) := by decide +kernel
theorem dR_tell_116 : decode cR_tell 116 = .ok (.invokevirtual 286, 3) := by decide +kernel
theorem dR_tell_119 : decode cR_tell 119 = .ok (.aload_n 0, 1) := by decide +kernel
theorem dR_tell_120 : decode cR_tell 120 = .ok (.getfield 50, 3) := by decide +kernel
theorem dR_tell_123 : decode cR_tell 123 = .ok (.invokevirtual 290, 3) := by decide +kernel
theorem dR_tell_126 : decode cR_tell 126 = .ok (.ireturn, 1) := by decide +kernel
