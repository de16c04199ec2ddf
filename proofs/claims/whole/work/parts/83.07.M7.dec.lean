theorem dM_multiply_0 : decode cM_multiply 0 = .ok (.aload_n 1, 1) := by decide +kernel
theorem dM_multiply_1 : decode cM_multiply 1 = .ok (.sipush 300, 3) := by decide +kernel
theorem dM_multiply_4 : decode cM_multiply 4 = .ok (.iaload, 1) := by decide +kernel
theorem dM_multiply_5 : decode cM_multiply 5 = .ok (.aload_n 2, 1) := by decide +kernel
theorem dM_multiply_6 : decode cM_multiply 6 = .ok (.sipush 300, 3) := by decide +kernel
theorem dM_multiply_9 : decode cM_multiply 9 = .ok (.iaload, 1) := by decide +kernel
theorem dM_multiply_10 : decode cM_multiply 10 = .ok (.iadd, 1) := by decide +kernel
theorem dM_multiply_11 : decode cM_multiply 11 = .ok (.istore_n 3, 1) := by decide +kernel
theorem dM_multiply_12 : decode cM_multiply 12 = .ok (.iconst 0, 1) := by decide +kernel
theorem dM_multiply_13 : decode cM_multiply 13 = .ok (.istore 4, 2) := by decide +kernel
theorem dM_multiply_15 : decode cM_multiply 15 = .ok (.iload 4, 2) := by decide +kernel
theorem dM_multiply_17 : decode cM_multiply 17 = .ok (.iload_n 3, 1) := by decide +kernel
theorem dM_multiply_18 : decode cM_multiply 18 = .ok (.if_icmp .ge 17, 3) := by decide +kernel
theorem dM_multiply_21 : decode cM_multiply 21 = .ok (.aload_n 0, 1) := by decide +kernel
theorem dM_multiply_22 : decode cM_multiply 22 = .ok (.getfield 75, 3) := by decide +kernel
theorem dM_multiply_25 : decode cM_multiply 25 = .ok (.iload 4, 2) := by decide +kernel
theorem dM_multiply_27 : decode cM_multiply 27 = .ok (.iconst 0, 1) := by decide +kernel
theorem dM_multiply_28 : decode cM_multiply 28 = .ok (.iastore, 1) := by decide +kernel
theorem dM_multiply_29 : decode cM_multiply 29 = .ok (.iinc 4 1, 3) := by decide +kernel
theorem dM_multiply_32 : decode cM_multiply 32 = .ok (.goto (-17), 3) := by decide +kernel
theorem dM_multiply_35 : decode cM_multiply 35 = .ok (.iconst 0, 1) := by decide +kernel
theorem dM_multiply_36 : decode cM_multiply 36 = .ok (.istore 4, 2) := by decide +kernel
theorem dM_multiply_38 : decode cM_multiply 38 = .ok (.iload 4, 2) := by decide +kernel
theorem dM_multiply_40 : decode cM_multiply 40 = .ok (.aload_n 1, 1) := by decide +kernel
theorem dM_multiply_41 : decode cM_multiply 41 = .ok (.sipush 300, 3) := by decide +kernel
theorem dM_multiply_44 : decode cM_multiply 44 = .ok (.iaload, 1) := by decide +kernel
theorem dM_multiply_45 : decode cM_multiply 45 = .ok (.if_icmp .ge 104, 3) := by decide +kernel
theorem dM_multiply_48 : decode cM_multiply 48 = .ok (.lconst 0, 1) := by decide +kernel
theorem dM_multiply_49 : decode cM_multiply 49 = .ok (.lstore 5, 2) := by decide +kernel
theorem dM_multiply_51 : decode cM_multiply 51 = .ok (.iconst 0, 1) := by decide +kernel
theorem dM_multiply_52 : decode cM_multiply 52 = .ok (.istore 7, 2) := by decide +kernel
theorem dM_multiply_54 : decode cM_multiply 54 = .ok (.iload 7, 2) := by decide +kernel
theorem dM_multiply_56 : decode cM_multiply 56 = .ok (.aload_n 2, 1) := by decide +kernel
theorem dM_multiply_57 : decode cM_multiply 57 = .ok (.sipush 300, 3) := by decide +kernel
theorem dM_multiply_60 : decode cM_multiply 60 = .ok (.iaload, 1) := by decide +kernel
theorem dM_multiply_61 : decode cM_multiply 61 = .ok (.if_icmp .lt 10, 3) := by decide +kernel
theorem dM_multiply_64 : decode cM_multiply 64 = .ok (.lload 5, 2) := by decide +kernel
theorem dM_multiply_66 : decode cM_multiply 66 = .ok (.lconst 0, 1) := by decide +kernel
theorem dM_multiply_67 : decode cM_multiply 67 = .ok (.lcmp, 1) := by decide +kernel
theorem dM_multiply_68 : decode cM_multiply 68 = .ok (.ifCond .le 75, 3) := by decide +kernel
theorem dM_multiply_71 : decode cM_multiply 71 = .ok (.aload_n 0, 1) := by decide +kernel
theorem dM_multiply_72 : decode cM_multiply 72 = .ok (.getfield 75, 3) := by decide +kernel
theorem dM_multiply_75 : decode cM_multiply 75 = .ok (.iload 4, 2) := by decide +kernel
theorem dM_multiply_77 : decode cM_multiply 77 = .ok (.iload 7, 2) := by decide +kernel
theorem dM_multiply_79 : decode cM_multiply 79 = .ok (.iadd, 1) := by decide +kernel
theorem dM_multiply_80 : decode cM_multiply 80 = .ok (.iaload, 1) := by decide +kernel
theorem dM_multiply_81 : decode cM_multiply 81 = .ok (.i2l, 1) := by decide +kernel
theorem dM_multiply_82 : decode cM_multiply 82 = .ok (.lload 5, 2) := by decide +kernel
theorem dM_multiply_84 : decode cM_multiply 84 = .ok (.ladd, 1) := by decide +kernel
theorem dM_multiply_85 : decode cM_multiply 85 = .ok (.iload 7, 2) := by decide +kernel
theorem dM_multiply_87 : decode cM_multiply 87 = .ok (.aload_n 2, 1) := by decide +kernel
theorem dM_multiply_88 : decode cM_multiply 88 = .ok (.sipush 300, 3) := by decide +kernel
theorem dM_multiply_91 : decode cM_multiply 91 = .ok (.iaload, 1) := by decide +kernel
theorem dM_multiply_92 : decode cM_multiply 92 = .ok (.if_icmp .ge 17, 3) := by decide +kernel
theorem dM_multiply_95 : decode cM_multiply 95 = .ok (.aload_n 1, 1) := by decide +kernel
theorem dM_multiply_96 : decode cM_multiply 96 = .ok (.iload 4, 2) := by decide +kernel
theorem dM_multiply_98 : decode cM_multiply 98 = .ok (.iaload, 1) := by decide +kernel
theorem dM_multiply_99 : decode cM_multiply 99 = .ok (.i2l, 1) := by decide +kernel
theorem dM_multiply_100 : decode cM_multiply 100 = .ok (.aload_n 2, 1) := by decide +kernel
theorem dM_multiply_101 : decode cM_multiply 101 = .ok (.iload 7, 2) := by decide +kernel
theorem dM_multiply_103 : decode cM_multiply 103 = .ok (.iaload, 1) := by decide +kernel
theorem dM_multiply_104 : decode cM_multiply 104 = .ok (.i2l, 1) := by decide +kernel
theorem dM_multiply_105 : decode cM_multiply 105 = .ok (.lmul, 1) := by decide +kernel
theorem dM_multiply_106 : decode cM_multiply 106 = .ok (.goto 4, 3) := by decide +kernel
theorem dM_multiply_109 : decode cM_multiply 109 = .ok (.lconst 0, 1) := by decide +kernel
theorem dM_multiply_110 : decode cM_multiply 110 = .ok (.ladd, 1) := by decide +kernel
theorem dM_multiply_111 : decode cM_multiply 111 = .ok (.lstore 8, 2) := by decide +kernel
theorem dM_multiply_113 : decode cM_multiply 113 = .ok (.aload_n 0, 1) := by decide +kernel
theorem dM_multiply_114 : decode cM_multiply 114 = .ok (.getfield 75, 3) := by decide +kernel
theorem dM_multiply_117 : decode cM_multiply 117 = .ok (.iload 4, 2) := by decide +kernel
theorem dM_multiply_119 : decode cM_multiply 119 = .ok (.iload 7, 2) := by decide +kernel
theorem dM_multiply_121 : decode cM_multiply 121 = .ok (.iadd, 1) := by decide +kernel
theorem dM_multiply_122 : decode cM_multiply 122 = .ok (.lload 8, 2) := by decide +kernel
theorem dM_multiply_124 : decode cM_multiply 124 = .ok (.ldc2_w 148, 3) := by decide +kernel
theorem dM_multiply_127 : decode cM_multiply 127 = .ok (.land, 1) := by decide +kernel
theorem dM_multiply_128 : decode cM_multiply 128 = .ok (.l2i, 1) := by decide +kernel
theorem dM_multiply_129 : decode cM_multiply 129 = .ok (.iastore, 1) := by decide +kernel
theorem dM_multiply_130 : decode cM_multiply 130 = .ok (.lload 8, 2) := by decide +kernel
theorem dM_multiply_132 : decode cM_multiply 132 = .ok (.bipush 28, 2) := by decide +kernel
theorem dM_multiply_134 : decode cM_multiply 134 = .ok (.lshr, 1) := by decide +kernel
theorem dM_multiply_135 : decode cM_multiply 135 = .ok (.lstore 5, 2) := by decide +kernel
theorem dM_multiply_137 : decode cM_multiply 137 = .ok (.iinc 7 1, 3) := by decide +kernel
theorem dM_multiply_140 : decode cM_multiply 140 = .ok (.goto (-86), 3) := by decide +kernel
theorem dM_multiply_143 : decode cM_multiply 143 = .ok (.iinc 4 1, 3) := by decide +kernel
theorem dM_multiply_146 : decode cM_multiply 146 = .ok (.goto (-108), 3) := by decide +kernel
theorem dM_multiply_149 : decode cM_multiply 149 = .ok (.aload_n 0, 1) := by decide +kernel
theorem dM_multiply_150 : decode cM_multiply 150 = .ok (.getfield 75, 3) := by decide +kernel
theorem dM_multiply_153 : decode cM_multiply 153 = .ok (.sipush 301, 3) := by decide +kernel
theorem dM_multiply_156 : decode cM_multiply 156 = .ok (.aload_n 1, 1) := by decide +kernel
theorem dM_multiply_157 : decode cM_multiply 157 = .ok (.sipush 301, 3) := by decide +kernel
theorem dM_multiply_160 : decode cM_multiply 160 = .ok (.iaload, 1) := by decide +kernel
theorem dM_multiply_161 : decode cM_multiply 161 = .ok (.aload_n 2, 1) := by decide +kernel
theorem dM_multiply_162 : decode cM_multiply 162 = .ok (.sipush 301, 3) := by decide +kernel
theorem dM_multiply_165 : decode cM_multiply 165 = .ok (.iaload, 1) := by decide +kernel
theorem dM_multiply_166 : decode cM_multiply 166 = .ok (.imul, 1) := by decide +kernel
theorem dM_multiply_167 : decode cM_multiply 167 = .ok (.iastore, 1) := by decide +kernel
theorem dM_multiply_168 : decode cM_multiply 168 = .ok (.aload_n 0, 1) := by decide +kernel
theorem dM_multiply_169 : decode cM_multiply 169 = .ok (.getfield 75, 3) := by decide +kernel
theorem dM_multiply_172 : decode cM_multiply 172 = .ok (.iload_n 3, 1) := by decide +kernel
theorem dM_multiply_173 : decode cM_multiply 173 = .ok (.invokestatic 166, 3) := by decide +kernel
theorem dM_multiply_176 : decode cM_multiply 176 = .ok (.return_, 1) := by decide +kernel
