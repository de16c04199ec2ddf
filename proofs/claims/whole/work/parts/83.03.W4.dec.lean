theorem dAr_rangeCheck_0 : decode cAr_rangeCheck 0 = .ok (.iload_n 1, 1) := by decide +kernel
theorem dAr_rangeCheck_1 : decode cAr_rangeCheck 1 = .ok (.iload_n 2, 1) := by decide +kernel
theorem dAr_rangeCheck_2 : decode cAr_rangeCheck 2 = .ok (.if_icmp .le 44, 3) := by decide +kernel
theorem dAr_rangeCheck_5 : decode cAr_rangeCheck 5 = .ok (.new 43, 3) := by decide +kernel
theorem dAr_rangeCheck_8 : decode cAr_rangeCheck 8 = .ok (.dup, 1) := by decide +kernel
theorem dAr_rangeCheck_9 : decode cAr_rangeCheck 9 = .ok (.new 45, 3) := by decide +kernel
theorem dAr_rangeCheck_12 : decode cAr_rangeCheck 12 = .ok (.dup, 1) := by decide +kernel
theorem dAr_rangeCheck_13 : decode cAr_rangeCheck 13 = .ok (.invokespecial 47, 3) := by decide +kernel
theorem dAr_rangeCheck_16 : decode cAr_rangeCheck 16 = .ok (.ldc 48, 2) := by decide +kernel
theorem dAr_rangeCheck_18 : decode cAr_rangeCheck 18 = .ok (.invokevirtual 50, 3) := by decide +kernel
theorem dAr_rangeCheck_21 : decode cAr_rangeCheck 21 = .ok (.iload_n 1, 1) := by decide +kernel
theorem dAr_rangeCheck_22 : decode cAr_rangeCheck 22 = .ok (.invokevirtual 54, 3) := by decide +kernel
theorem dAr_rangeCheck_25 : decode cAr_rangeCheck 25 = .ok (.ldc 57, 2) := by decide +kernel
theorem dAr_rangeCheck_27 : decode cAr_rangeCheck 27 = .ok (.invokevirtual 50, 3) := by decide +kernel
theorem dAr_rangeCheck_30 : decode cAr_rangeCheck 30 = .ok (.iload_n 2, 1) := by decide +kernel
theorem dAr_rangeCheck_31 : decode cAr_rangeCheck 31 = .ok (.invokevirtual 54, 3) := by decide +kernel
theorem dAr_rangeCheck_34 : decode cAr_rangeCheck 34 = .ok (.ldc 59, 2) := by decide +kernel
theorem dAr_rangeCheck_36 : decode cAr_rangeCheck 36 = .ok (.invokevirtual 50, 3) := by decide +kernel
theorem dAr_rangeCheck_39 : decode cAr_rangeCheck 39 = .ok (.invokevirtual 61, 3) := by decide +kernel
theorem dAr_rangeCheck_42 : decode cAr_rangeCheck 42 = .ok (.invokespecial 65, 3) := by decide +kernel
theorem dAr_rangeCheck_45 : decode cAr_rangeCheck 45 = .ok (.athrow, 1) := by decide +kernel
theorem dAr_rangeCheck_46 : decode cAr_rangeCheck 46 = .ok (.iload_n 1, 1) := by decide +kernel
theorem dAr_rangeCheck_47 : decode cAr_rangeCheck 47 = .ok (.ifCond .ge 12, 3) := by decide +kernel
theorem dAr_rangeCheck_50 : decode cAr_rangeCheck 50 = .ok (.new 68, 3) := by decide +kernel
theorem dAr_rangeCheck_53 : decode cAr_rangeCheck 53 = .ok (.dup, 1) := by decide +kernel
theorem dAr_rangeCheck_54 : decode cAr_rangeCheck 54 = .ok (.iload_n 1, 1) := by decide +kernel
theorem dAr_rangeCheck_55 : decode cAr_rangeCheck 55 = .ok (.invokespecial 70, 3) := by decide +kernel
theorem dAr_rangeCheck_58 : decode cAr_rangeCheck 58 = .ok (.athrow, 1) := by decide +kernel
theorem dAr_rangeCheck_59 : decode cAr_rangeCheck 59 = .ok (.iload_n 2, 1) := by decide +kernel
theorem dAr_rangeCheck_60 : decode cAr_rangeCheck 60 = .ok (.iload_n 0, 1) := by decide +kernel
theorem dAr_rangeCheck_61 : decode cAr_rangeCheck 61 = .ok (.if_icmp .le 12, 3) := by decide +kernel
theorem dAr_rangeCheck_64 : decode cAr_rangeCheck 64 = .ok (.new 68, 3) := by decide +kernel
theorem dAr_rangeCheck_67 : decode cAr_rangeCheck 67 = .ok (.dup, 1) := by decide +kernel
theorem dAr_rangeCheck_68 : decode cAr_rangeCheck 68 = .ok (.iload_n 2, 1) := by decide +kernel
theorem dAr_rangeCheck_69 : decode cAr_rangeCheck 69 = .ok (.invokespecial 70, 3) := by decide +kernel
theorem dAr_rangeCheck_72 : decode cAr_rangeCheck 72 = .ok (.athrow, 1) := by decide +kernel
theorem dAr_rangeCheck_73 : decode cAr_rangeCheck 73 = .ok (.return_, 1) := by decide +kernel
theorem dAr_fill_0 : decode cAr_fill 0 = .ok (.aload_n 0, 1) := by decide +kernel
theorem dAr_fill_1 : decode cAr_fill 1 = .ok (.arraylength, 1) := by decide +kernel
theorem dAr_fill_2 : decode cAr_fill 2 = .ok (.iload_n 1, 1) := by decide +kernel
theorem dAr_fill_3 : decode cAr_fill 3 = .ok (.iload_n 2, 1) := by decide +kernel
theorem dAr_fill_4 : decode cAr_fill 4 = .ok (.invokestatic 13, 3) := by decide +kernel
theorem dAr_fill_7 : decode cAr_fill 7 = .ok (.iload_n 1, 1) := by decide +kernel
theorem dAr_fill_8 : decode cAr_fill 8 = .ok (.istore 4, 2) := by decide +kernel
theorem dAr_fill_10 : decode cAr_fill 10 = .ok (.iload 4, 2) := by decide +kernel
theorem dAr_fill_12 : decode cAr_fill 12 = .ok (.iload_n 2, 1) := by decide +kernel
theorem dAr_fill_13 : decode cAr_fill 13 = .ok (.if_icmp .ge 14, 3) := by decide +kernel
theorem dAr_fill_16 : decode cAr_fill 16 = .ok (.aload_n 0, 1) := by decide +kernel
theorem dAr_fill_17 : decode cAr_fill 17 = .ok (.iload 4, 2) := by decide +kernel
theorem dAr_fill_19 : decode cAr_fill 19 = .ok (.iload_n 3, 1) := by decide +kernel
theorem dAr_fill_20 : decode cAr_fill 20 = .ok (.iastore, 1) := by decide +kernel
theorem dAr_fill_21 : decode cAr_fill 21 = .ok (.iinc 4 1, 3) := by decide +kernel
theorem dAr_fill_24 : decode cAr_fill 24 = .ok (.goto (-14), 3) := by decide +kernel
theorem dAr_fill_27 : decode cAr_fill 27 = .ok (.return_, 1) := by decide +kernel
theorem dW_setProduct_0 : decode cW_setProduct 0 = .ok (.aload_n 1, 1) := by decide +kernel
theorem dW_setProduct_1 : decode cW_setProduct 1 = .ok (.getfield 21, 3) := by decide +kernel
theorem dW_setProduct_4 : decode cW_setProduct 4 = .ok (.aload_n 2, 1) := by decide +kernel
theorem dW_setProduct_5 : decode cW_setProduct 5 = .ok (.getfield 21, 3) := by decide +kernel
theorem dW_setProduct_8 : decode cW_setProduct 8 = .ok (.iadd, 1) := by decide +kernel
theorem dW_setProduct_9 : decode cW_setProduct 9 = .ok (.aload_n 0, 1) := by decide +kernel
theorem dW_setProduct_10 : decode cW_setProduct 10 = .ok (.getfield 7, 3) := by decide +kernel
theorem dW_setProduct_13 : decode cW_setProduct 13 = .ok (.arraylength, 1) := by decide +kernel
theorem dW_setProduct_14 : decode cW_setProduct 14 = .ok (.invokestatic 25, 3) := by decide +kernel
theorem dW_setProduct_17 : decode cW_setProduct 17 = .ok (.istore_n 3, 1) := by decide +kernel
theorem dW_setProduct_18 : decode cW_setProduct 18 = .ok (.aload_n 0, 1) := by decide +kernel
theorem dW_setProduct_19 : decode cW_setProduct 19 = .ok (.getfield 7, 3) := by decide +kernel
theorem dW_setProduct_22 : decode cW_setProduct 22 = .ok (.iconst 0, 1) := by decide +kernel
theorem dW_setProduct_23 : decode cW_setProduct 23 = .ok (.iload_n 3, 1) := by decide +kernel
theorem dW_setProduct_24 : decode cW_setProduct 24 = .ok (.iconst 0, 1) := by decide +kernel
theorem dW_setProduct_25 : decode cW_setProduct 25 = .ok (.invokestatic 39, 3) := by decide +kernel
theorem dW_setProduct_28 : decode cW_setProduct 28 = .ok (.iconst 0, 1) := by decide +kernel
theorem dW_setProduct_29 : decode cW_setProduct 29 = .ok (.istore 4, 2) := by decide +kernel
theorem dW_setProduct_31 : decode cW_setProduct 31 = .ok (.iload 4, 2) := by decide +kernel
theorem dW_setProduct_33 : decode cW_setProduct 33 = .ok (.aload_n 1, 1) := by decide +kernel
theorem dW_setProduct_34 : decode cW_setProduct 34 = .ok (.getfield 21, 3) := by decide +kernel
theorem dW_setProduct_37 : decode cW_setProduct 37 = .ok (.if_icmp .ge 131, 3) := by decide +kernel
theorem dW_setProduct_40 : decode cW_setProduct 40 = .ok (.aload_n 1, 1) := by decide +kernel
theorem dW_setProduct_41 : decode cW_setProduct 41 = .ok (.getfield 7, 3) := by decide +kernel
theorem dW_setProduct_44 : decode cW_setProduct 44 = .ok (.iload 4, 2) := by decide +kernel
theorem dW_setProduct_46 : decode cW_setProduct 46 = .ok (.iaload, 1) := by decide +kernel
theorem dW_setProduct_47 : decode cW_setProduct 47 = .ok (.i2l, 1) := by decide +kernel
theorem dW_setProduct_48 : decode cW_setProduct 48 = .ok (.lstore 5, 2) := by decide +kernel
theorem dW_setProduct_50 : decode cW_setProduct 50 = .ok (.lconst 0, 1) := by decide +kernel
theorem dW_setProduct_51 : decode cW_setProduct 51 = .ok (.lstore 7, 2) := by decide +kernel
theorem dW_setProduct_53 : decode cW_setProduct 53 = .ok (.iconst 0, 1) := by decide +kernel
theorem dW_setProduct_54 : decode cW_setProduct 54 = .ok (.istore 9, 2) := by decide +kernel
theorem dW_setProduct_56 : decode cW_setProduct 56 = .ok (.iload 9, 2) := by decide +kernel
theorem dW_setProduct_58 : decode cW_setProduct 58 = .ok (.aload_n 2, 1) := by decide +kernel
theorem dW_setProduct_59 : decode cW_setProduct 59 = .ok (.getfield 21, 3) := by decide +kernel
theorem dW_setProduct_62 : decode cW_setProduct 62 = .ok (.if_icmp .ge 74, 3) := by decide +kernel
theorem dW_setProduct_65 : decode cW_setProduct 65 = .ok (.iload 4, 2) := by decide +kernel
theorem dW_setProduct_67 : decode cW_setProduct 67 = .ok (.iload 9, 2) := by decide +kernel
theorem dW_setProduct_69 : decode cW_setProduct 69 = .ok (.iadd, 1) := by decide +kernel
theorem dW_setProduct_70 : decode cW_setProduct 70 = .ok (.iload_n 3, 1) := by decide +kernel
theorem dW_setProduct_71 : decode cW_setProduct 71 = .ok (.if_icmp .ge 65, 3) := by decide +kernel
theorem dW_setProduct_74 : decode cW_setProduct 74 = .ok (.lload 5, 2) := by decide +kernel
theorem dW_setProduct_76 : decode cW_setProduct 76 = .ok (.aload_n 2, 1) := by decide +kernel
theorem dW_setProduct_77 : decode cW_setProduct 77 = .ok (.getfield 7, 3) := by decide +kernel
theorem dW_setProduct_80 : decode cW_setProduct 80 = .ok (.iload 9, 2) := by decide +kernel
theorem dW_setProduct_82 : decode cW_setProduct 82 = .ok (.iaload, 1) := by decide +kernel
theorem dW_setProduct_83 : decode cW_setProduct 83 = .ok (.i2l, 1) := by decide +kernel
theorem dW_setProduct_84 : decode cW_setProduct 84 = .ok (.lmul, 1) := by decide +kernel
theorem dW_setProduct_85 : decode cW_setProduct 85 = .ok (.aload_n 0, 1) := by decide +kernel
theorem dW_setProduct_86 : decode cW_setProduct 86 = .ok (.getfield 7, 3) := by decide +kernel
theorem dW_setProduct_89 : decode cW_setProduct 89 = .ok (.iload 4, 2) := by decide +kernel
theorem dW_setProduct_91 : decode cW_setProduct 91 = .ok (.iload 9, 2) := by decide +kernel
theorem dW_setProduct_93 : decode cW_setProduct 93 = .ok (.iadd, 1) := by decide +kernel
theorem dW_setProduct_94 : decode cW_setProduct 94 = .ok (.iaload, 1) := by decide +kernel
theorem dW_setProduct_95 : decode cW_setProduct 95 = .ok (.i2l, 1) := by decide +kernel
theorem dW_setProduct_96 : decode cW_setProduct 96 = .ok (.ladd, 1) := by decide +kernel
theorem dW_setProduct_97 : decode cW_setProduct 97 = .ok (.lload 7, 2) := by decide +kernel
theorem dW_setProduct_99 : decode cW_setProduct 99 = .ok (.ladd, 1) := by decide +kernel
theorem dW_setProduct_100 : decode cW_setProduct 100 = .ok (.lstore 10, 2) := by decide +kernel
theorem dW_setProduct_102 : decode cW_setProduct 102 = .ok (.lload 10, 2) := by decide +kernel
theorem dW_setProduct_104 : decode cW_setProduct 104 = .ok (.ldc2_w 37, 3) := by decide +kernel
theorem dW_setProduct_107 : decode cW_setProduct 107 = .ok (.ldiv, 1) := by decide +kernel
theorem dW_setProduct_108 : decode cW_setProduct 108 = .ok (.lstore 7, 2) := by decide +kernel
theorem dW_setProduct_110 : decode cW_setProduct 110 = .ok (.aload_n 0, 1) := by decide +kernel
theorem dW_setProduct_111 : decode cW_setProduct 111 = .ok (.getfield 7, 3) := by decide +kernel
theorem dW_setProduct_114 : decode cW_setProduct 114 = .ok (.iload 4, 2) := by decide +kernel
theorem dW_setProduct_116 : decode cW_setProduct 116 = .ok (.iload 9, 2) := by decide +kernel
theorem dW_setProduct_118 : decode cW_setProduct 118 = .ok (.iadd, 1) := by decide +kernel
theorem dW_setProduct_119 : decode cW_setProduct 119 = .ok (.lload 10, 2) := by decide +kernel
theorem dW_setProduct_121 : decode cW_setProduct 121 = .ok (.lload 7, 2) := by decide +kernel
theorem dW_setProduct_123 : decode cW_setProduct 123 = .ok (.ldc2_w 37, 3) := by decide +kernel
theorem dW_setProduct_126 : decode cW_setProduct 126 = .ok (.lmul, 1) := by decide +kernel
theorem dW_setProduct_127 : decode cW_setProduct 127 = .ok (.lsub, 1) := by decide +kernel
theorem dW_setProduct_128 : decode cW_setProduct 128 = .ok (.l2i, 1) := by decide +kernel
theorem dW_setProduct_129 : decode cW_setProduct 129 = .ok (.iastore, 1) := by decide +kernel
theorem dW_setProduct_130 : decode cW_setProduct 130 = .ok (.iinc 9 1, 3) := by decide +kernel
theorem dW_setProduct_133 : decode cW_setProduct 133 = .ok (.goto (-77), 3) := by decide +kernel
theorem dW_setProduct_136 : decode cW_setProduct 136 = .ok (.iload 4, 2) := by decide +kernel
theorem dW_setProduct_138 : decode cW_setProduct 138 = .ok (.aload_n 2, 1) := by decide +kernel
theorem dW_setProduct_139 : decode cW_setProduct 139 = .ok (.getfield 21, 3) := by decide +kernel
theorem dW_setProduct_142 : decode cW_setProduct 142 = .ok (.iadd, 1) := by decide +kernel
theorem dW_setProduct_143 : decode cW_setProduct 143 = .ok (.iload_n 3, 1) := by decide +kernel
theorem dW_setProduct_144 : decode cW_setProduct 144 = .ok (.if_icmp .ge 18, 3) := by decide +kernel
theorem dW_setProduct_147 : decode cW_setProduct 147 = .ok (.aload_n 0, 1) := by decide +kernel
theorem dW_setProduct_148 : decode cW_setProduct 148 = .ok (.getfield 7, 3) := by decide +kernel
theorem dW_setProduct_151 : decode cW_setProduct 151 = .ok (.iload 4, 2) := by decide +kernel
theorem dW_setProduct_153 : decode cW_setProduct 153 = .ok (.aload_n 2, 1) := by decide +kernel
theorem dW_setProduct_154 : decode cW_setProduct 154 = .ok (.getfield 21, 3) := by decide +kernel
theorem dW_setProduct_157 : decode cW_setProduct 157 = .ok (.iadd, 1) := by decide +kernel
theorem dW_setProduct_158 : decode cW_setProduct 158 = .ok (.lload 7, 2) := by decide +kernel
theorem dW_setProduct_160 : decode cW_setProduct 160 = .ok (.l2i, 1) := by decide +kernel
theorem dW_setProduct_161 : decode cW_setProduct 161 = .ok (.iastore, 1) := by decide +kernel
theorem dW_setProduct_162 : decode cW_setProduct 162 = .ok (.iinc 4 1, 3) := by decide +kernel
theorem dW_setProduct_165 : decode cW_setProduct 165 = .ok (.goto (-134), 3) := by decide +kernel
theorem dW_setProduct_168 : decode cW_setProduct 168 = .ok (.aload_n 0, 1) := by decide +kernel
theorem dW_setProduct_169 : decode cW_setProduct 169 = .ok (.aload_n 1, 1) := by decide +kernel
theorem dW_setProduct_170 : decode cW_setProduct 170 = .ok (.getfield 13, 3) := by decide +kernel
theorem dW_setProduct_173 : decode cW_setProduct 173 = .ok (.aload_n 2, 1) := by decide +kernel
theorem dW_setProduct_174 : decode cW_setProduct 174 = .ok (.getfield 13, 3) := by decide +kernel
theorem dW_setProduct_177 : decode cW_setProduct 177 = .ok (.if_icmp .eq 7, 3) := by decide +kernel
theorem dW_setProduct_180 : decode cW_setProduct 180 = .ok (.iconst 1, 1) := by decide +kernel
theorem dW_setProduct_181 : decode cW_setProduct 181 = .ok (.goto 4, 3) := by decide +kernel
theorem dW_setProduct_184 : decode cW_setProduct 184 = .ok (.iconst 0, 1) := by decide +kernel
theorem dW_setProduct_185 : decode cW_setProduct 185 = .ok (.putfield 13, 3) := by decide +kernel
theorem dW_setProduct_188 : decode cW_setProduct 188 = .ok (.aload_n 0, 1) := by decide +kernel
theorem dW_setProduct_189 : decode cW_setProduct 189 = .ok (.iload_n 3, 1) := by decide +kernel
theorem dW_setProduct_190 : decode cW_setProduct 190 = .ok (.invokevirtual 17, 3) := by decide +kernel
theorem dW_setProduct_193 : decode cW_setProduct 193 = .ok (.return_, 1) := by decide +kernel
theorem dW_halveAway_0 : decode cW_halveAway 0 = .ok (.iconst 0, 1) := by decide +kernel
theorem dW_halveAway_1 : decode cW_halveAway 1 = .ok (.istore_n 1, 1) := by decide +kernel
theorem dW_halveAway_2 : decode cW_halveAway 2 = .ok (.iload_n 1, 1) := by decide +kernel
theorem dW_halveAway_3 : decode cW_halveAway 3 = .ok (.aload_n 0, 1) := by decide +kernel
theorem dW_halveAway_4 : decode cW_halveAway 4 = .ok (.invokevirtual 58, 3) := by decide +kernel
theorem dW_halveAway_7 : decode cW_halveAway 7 = .ok (.if_icmp .ge 21, 3) := by decide +kernel
theorem dW_halveAway_10 : decode cW_halveAway 10 = .ok (.aload_n 0, 1) := by decide +kernel
theorem dW_halveAway_11 : decode cW_halveAway 11 = .ok (.getfield 21, 3) := by decide +kernel
theorem dW_halveAway_14 : decode cW_halveAway 14 = .ok (.ifCond .le 14, 3) := by decide +kernel
theorem dW_halveAway_17 : decode cW_halveAway 17 = .ok (.aload_n 0, 1) := by decide +kernel
theorem dW_halveAway_18 : decode cW_halveAway 18 = .ok (.iconst 2, 1) := by decide +kernel
theorem dW_halveAway_19 : decode cW_halveAway 19 = .ok (.invokevirtual 61, 3) := by decide +kernel
theorem dW_halveAway_22 : decode cW_halveAway 22 = .ok (.iinc 1 1, 3) := by decide +kernel
theorem dW_halveAway_25 : decode cW_halveAway 25 = .ok (.goto (-23), 3) := by decide +kernel
theorem dW_halveAway_28 : decode cW_halveAway 28 = .ok (.iload_n 1, 1) := by decide +kernel
theorem dW_halveAway_29 : decode cW_halveAway 29 = .ok (.ireturn, 1) := by decide +kernel
