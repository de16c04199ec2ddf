theorem dIn_compare_0 : decode cIn_compare 0 = .ok (.iload_n 0, 1) := by decide +kernel
theorem dIn_compare_1 : decode cIn_compare 1 = .ok (.iload_n 1, 1) := by decide +kernel
theorem dIn_compare_2 : decode cIn_compare 2 = .ok (.if_icmp .ge 7, 3) := by decide +kernel
theorem dIn_compare_5 : decode cIn_compare 5 = .ok (.iconst (-1), 1) := by decide +kernel
theorem dIn_compare_6 : decode cIn_compare 6 = .ok (.goto 13, 3) := by decide +kernel
theorem dIn_compare_9 : decode cIn_compare 9 = .ok (.iload_n 0, 1) := by decide +kernel
theorem dIn_compare_10 : decode cIn_compare 10 = .ok (.iload_n 1, 1) := by decide +kernel
theorem dIn_compare_11 : decode cIn_compare 11 = .ok (.if_icmp .ne 7, 3) := by decide +kernel
theorem dIn_compare_14 : decode cIn_compare 14 = .ok (.iconst 0, 1) := by decide +kernel
theorem dIn_compare_15 : decode cIn_compare 15 = .ok (.goto 4, 3) := by decide +kernel
theorem dIn_compare_18 : decode cIn_compare 18 = .ok (.iconst 1, 1) := by decide +kernel
theorem dIn_compare_19 : decode cIn_compare 19 = .ok (.ireturn, 1) := by decide +kernel
theorem dW_compare_0 : decode cW_compare 0 = .ok (.aload_n 0, 1) := by decide +kernel
theorem dW_compare_1 : decode cW_compare 1 = .ok (.invokevirtual 49, 3) := by decide +kernel
theorem dW_compare_4 : decode cW_compare 4 = .ok (.aload_n 1, 1) := by decide +kernel
theorem dW_compare_5 : decode cW_compare 5 = .ok (.invokevirtual 49, 3) := by decide +kernel
theorem dW_compare_8 : decode cW_compare 8 = .ok (.invokestatic 53, 3) := by decide +kernel
theorem dW_compare_11 : decode cW_compare 11 = .ok (.istore_n 2, 1) := by decide +kernel
theorem dW_compare_12 : decode cW_compare 12 = .ok (.iload_n 2, 1) := by decide +kernel
theorem dW_compare_13 : decode cW_compare 13 = .ok (.ifCond .ne 66, 3) := by decide +kernel
theorem dW_compare_16 : decode cW_compare 16 = .ok (.aload_n 0, 1) := by decide +kernel
theorem dW_compare_17 : decode cW_compare 17 = .ok (.getfield 21, 3) := by decide +kernel
theorem dW_compare_20 : decode cW_compare 20 = .ok (.aload_n 1, 1) := by decide +kernel
theorem dW_compare_21 : decode cW_compare 21 = .ok (.getfield 21, 3) := by decide +kernel
theorem dW_compare_24 : decode cW_compare 24 = .ok (.invokestatic 53, 3) := by decide +kernel
theorem dW_compare_27 : decode cW_compare 27 = .ok (.istore_n 2, 1) := by decide +kernel
theorem dW_compare_28 : decode cW_compare 28 = .ok (.aload_n 0, 1) := by decide +kernel
theorem dW_compare_29 : decode cW_compare 29 = .ok (.getfield 21, 3) := by decide +kernel
theorem dW_compare_32 : decode cW_compare 32 = .ok (.iconst 1, 1) := by decide +kernel
theorem dW_compare_33 : decode cW_compare 33 = .ok (.isub, 1) := by decide +kernel
theorem dW_compare_34 : decode cW_compare 34 = .ok (.istore_n 3, 1) := by decide +kernel
theorem dW_compare_35 : decode cW_compare 35 = .ok (.iload_n 3, 1) := by decide +kernel
theorem dW_compare_36 : decode cW_compare 36 = .ok (.ifCond .lt 29, 3) := by decide +kernel
theorem dW_compare_39 : decode cW_compare 39 = .ok (.iload_n 2, 1) := by decide +kernel
theorem dW_compare_40 : decode cW_compare 40 = .ok (.ifCond .ne 25, 3) := by decide +kernel
theorem dW_compare_43 : decode cW_compare 43 = .ok (.aload_n 0, 1) := by decide +kernel
theorem dW_compare_44 : decode cW_compare 44 = .ok (.getfield 7, 3) := by decide +kernel
theorem dW_compare_47 : decode cW_compare 47 = .ok (.iload_n 3, 1) := by decide +kernel
theorem dW_compare_48 : decode cW_compare 48 = .ok (.iaload, 1) := by decide +kernel
theorem dW_compare_49 : decode cW_compare 49 = .ok (.aload_n 1, 1) := by decide +kernel
theorem dW_compare_50 : decode cW_compare 50 = .ok (.getfield 7, 3) := by decide +kernel
theorem dW_compare_53 : decode cW_compare 53 = .ok (.iload_n 3, 1) := by decide +kernel
theorem dW_compare_54 : decode cW_compare 54 = .ok (.iaload, 1) := by decide +kernel
theorem dW_compare_55 : decode cW_compare 55 = .ok (.invokestatic 53, 3) := by decide +kernel
theorem dW_compare_58 : decode cW_compare 58 = .ok (.istore_n 2, 1) := by decide +kernel
theorem dW_compare_59 : decode cW_compare 59 = .ok (.iinc 3 (-1), 3) := by decide +kernel
theorem dW_compare_62 : decode cW_compare 62 = .ok (.goto (-27), 3) := by decide +kernel
theorem dW_compare_65 : decode cW_compare 65 = .ok (.aload_n 0, 1) := by decide +kernel
theorem dW_compare_66 : decode cW_compare 66 = .ok (.getfield 13, 3) := by decide +kernel
theorem dW_compare_69 : decode cW_compare 69 = .ok (.ifCond .eq 8, 3) := by decide +kernel
theorem dW_compare_72 : decode cW_compare 72 = .ok (.iload_n 2, 1) := by decide +kernel
theorem dW_compare_73 : decode cW_compare 73 = .ok (.ineg, 1) := by decide +kernel
theorem dW_compare_74 : decode cW_compare 74 = .ok (.goto 4, 3) := by decide +kernel
theorem dW_compare_77 : decode cW_compare 77 = .ok (.iload_n 2, 1) := by decide +kernel
theorem dW_compare_78 : decode cW_compare 78 = .ok (.istore_n 2, 1) := by decide +kernel
theorem dW_compare_79 : decode cW_compare 79 = .ok (.iload_n 2, 1) := by decide +kernel
theorem dW_compare_80 : decode cW_compare 80 = .ok (.ireturn, 1) := by decide +kernel
theorem dW_complement_0 : decode cW_complement 0 = .ok (.iconst 0, 1) := by decide +kernel
theorem dW_complement_1 : decode cW_complement 1 = .ok (.istore_n 2, 1) := by decide +kernel
theorem dW_complement_2 : decode cW_complement 2 = .ok (.iconst 0, 1) := by decide +kernel
theorem dW_complement_3 : decode cW_complement 3 = .ok (.istore_n 3, 1) := by decide +kernel
theorem dW_complement_4 : decode cW_complement 4 = .ok (.iload_n 3, 1) := by decide +kernel
theorem dW_complement_5 : decode cW_complement 5 = .ok (.iload_n 1, 1) := by decide +kernel
theorem dW_complement_6 : decode cW_complement 6 = .ok (.if_icmp .ge 53, 3) := by decide +kernel
theorem dW_complement_9 : decode cW_complement 9 = .ok (.iload_n 3, 1) := by decide +kernel
theorem dW_complement_10 : decode cW_complement 10 = .ok (.aload_n 0, 1) := by decide +kernel
theorem dW_complement_11 : decode cW_complement 11 = .ok (.getfield 7, 3) := by decide +kernel
theorem dW_complement_14 : decode cW_complement 14 = .ok (.arraylength, 1) := by decide +kernel
theorem dW_complement_15 : decode cW_complement 15 = .ok (.if_icmp .ge 44, 3) := by decide +kernel
theorem dW_complement_18 : decode cW_complement 18 = .ok (.aload_n 0, 1) := by decide +kernel
theorem dW_complement_19 : decode cW_complement 19 = .ok (.getfield 7, 3) := by decide +kernel
theorem dW_complement_22 : decode cW_complement 22 = .ok (.iload_n 3, 1) := by decide +kernel
theorem dW_complement_23 : decode cW_complement 23 = .ok (.iaload, 1) := by decide +kernel
theorem dW_complement_24 : decode cW_complement 24 = .ok (.ineg, 1) := by decide +kernel
theorem dW_complement_25 : decode cW_complement 25 = .ok (.iload_n 2, 1) := by decide +kernel
theorem dW_complement_26 : decode cW_complement 26 = .ok (.isub, 1) := by decide +kernel
theorem dW_complement_27 : decode cW_complement 27 = .ok (.istore 4, 2) := by decide +kernel
theorem dW_complement_29 : decode cW_complement 29 = .ok (.iload 4, 2) := by decide +kernel
theorem dW_complement_31 : decode cW_complement 31 = .ok (.ifCond .ge 7, 3) := by decide +kernel
theorem dW_complement_34 : decode cW_complement 34 = .ok (.iconst 1, 1) := by decide +kernel
theorem dW_complement_35 : decode cW_complement 35 = .ok (.goto 4, 3) := by decide +kernel
theorem dW_complement_38 : decode cW_complement 38 = .ok (.iconst 0, 1) := by decide +kernel
theorem dW_complement_39 : decode cW_complement 39 = .ok (.istore_n 2, 1) := by decide +kernel
theorem dW_complement_40 : decode cW_complement 40 = .ok (.aload_n 0, 1) := by decide +kernel
theorem dW_complement_41 : decode cW_complement 41 = .ok (.getfield 7, 3) := by decide +kernel
theorem dW_complement_44 : decode cW_complement 44 = .ok (.iload_n 3, 1) := by decide +kernel
theorem dW_complement_45 : decode cW_complement 45 = .ok (.iload 4, 2) := by decide +kernel
theorem dW_complement_47 : decode cW_complement 47 = .ok (.iload_n 2, 1) := by decide +kernel
theorem dW_complement_48 : decode cW_complement 48 = .ok (.ldc 45, 2) := by decide +kernel
theorem dW_complement_50 : decode cW_complement 50 = .ok (.imul, 1) := by decide +kernel
theorem dW_complement_51 : decode cW_complement 51 = .ok (.iadd, 1) := by decide +kernel
theorem dW_complement_52 : decode cW_complement 52 = .ok (.iastore, 1) := by decide +kernel
theorem dW_complement_53 : decode cW_complement 53 = .ok (.iinc 3 1, 3) := by decide +kernel
theorem dW_complement_56 : decode cW_complement 56 = .ok (.goto (-52), 3) := by decide +kernel
theorem dW_complement_59 : decode cW_complement 59 = .ok (.aload_n 0, 1) := by decide +kernel
theorem dW_complement_60 : decode cW_complement 60 = .ok (.aload_n 0, 1) := by decide +kernel
theorem dW_complement_61 : decode cW_complement 61 = .ok (.getfield 13, 3) := by decide +kernel
theorem dW_complement_64 : decode cW_complement 64 = .ok (.ifCond .ne 7, 3) := by decide +kernel
theorem dW_complement_67 : decode cW_complement 67 = .ok (.iconst 1, 1) := by decide +kernel
theorem dW_complement_68 : decode cW_complement 68 = .ok (.goto 4, 3) := by decide +kernel
theorem dW_complement_71 : decode cW_complement 71 = .ok (.iconst 0, 1) := by decide +kernel
theorem dW_complement_72 : decode cW_complement 72 = .ok (.putfield 13, 3) := by decide +kernel
theorem dW_complement_75 : decode cW_complement 75 = .ok (.return_, 1) := by decide +kernel
theorem dW_setb_0 : decode cW_setb 0 = .ok (.aload_n 0, 1) := by decide +kernel
theorem dW_setb_1 : decode cW_setb 1 = .ok (.aload_n 1, 1) := by decide +kernel
theorem dW_setb_2 : decode cW_setb 2 = .ok (.getfield 21, 3) := by decide +kernel
theorem dW_setb_5 : decode cW_setb 5 = .ok (.aload_n 0, 1) := by decide +kernel
theorem dW_setb_6 : decode cW_setb 6 = .ok (.getfield 7, 3) := by decide +kernel
theorem dW_setb_9 : decode cW_setb 9 = .ok (.arraylength, 1) := by decide +kernel
theorem dW_setb_10 : decode cW_setb 10 = .ok (.invokestatic 25, 3) := by decide +kernel
theorem dW_setb_13 : decode cW_setb 13 = .ok (.putfield 21, 3) := by decide +kernel
theorem dW_setb_16 : decode cW_setb 16 = .ok (.aload_n 1, 1) := by decide +kernel
theorem dW_setb_17 : decode cW_setb 17 = .ok (.getfield 7, 3) := by decide +kernel
theorem dW_setb_20 : decode cW_setb 20 = .ok (.iconst 0, 1) := by decide +kernel
theorem dW_setb_21 : decode cW_setb 21 = .ok (.aload_n 0, 1) := by decide +kernel
theorem dW_setb_22 : decode cW_setb 22 = .ok (.getfield 7, 3) := by decide +kernel
theorem dW_setb_25 : decode cW_setb 25 = .ok (.iconst 0, 1) := by decide +kernel
theorem dW_setb_26 : decode cW_setb 26 = .ok (.aload_n 0, 1) := by decide +kernel
theorem dW_setb_27 : decode cW_setb 27 = .ok (.getfield 21, 3) := by decide +kernel
theorem dW_setb_30 : decode cW_setb 30 = .ok (.invokestatic 31, 3) := by decide +kernel
theorem dW_setb_33 : decode cW_setb 33 = .ok (.aload_n 0, 1) := by decide +kernel
theorem dW_setb_34 : decode cW_setb 34 = .ok (.aload_n 1, 1) := by decide +kernel
theorem dW_setb_35 : decode cW_setb 35 = .ok (.getfield 13, 3) := by decide +kernel
theorem dW_setb_38 : decode cW_setb 38 = .ok (.putfield 13, 3) := by decide +kernel
theorem dW_setb_41 : decode cW_setb 41 = .ok (.return_, 1) := by decide +kernel
theorem dW_plus_0 : decode cW_plus 0 = .ok (.aload_n 0, 1) := by decide +kernel
theorem dW_plus_1 : decode cW_plus 1 = .ok (.getfield 13, 3) := by decide +kernel
theorem dW_plus_4 : decode cW_plus 4 = .ok (.aload_n 1, 1) := by decide +kernel
theorem dW_plus_5 : decode cW_plus 5 = .ok (.getfield 13, 3) := by decide +kernel
theorem dW_plus_8 : decode cW_plus 8 = .ok (.if_icmp .ne 7, 3) := by decide +kernel
theorem dW_plus_11 : decode cW_plus 11 = .ok (.iconst 1, 1) := by decide +kernel
theorem dW_plus_12 : decode cW_plus 12 = .ok (.goto 4, 3) := by decide +kernel
theorem dW_plus_15 : decode cW_plus 15 = .ok (.iconst 0, 1) := by decide +kernel
theorem dW_plus_16 : decode cW_plus 16 = .ok (.iload_n 2, 1) := by decide +kernel
theorem dW_plus_17 : decode cW_plus 17 = .ok (.if_icmp .eq 7, 3) := by decide +kernel
theorem dW_plus_20 : decode cW_plus 20 = .ok (.iconst 1, 1) := by decide +kernel
theorem dW_plus_21 : decode cW_plus 21 = .ok (.goto 4, 3) := by decide +kernel
theorem dW_plus_24 : decode cW_plus 24 = .ok (.iconst 0, 1) := by decide +kernel
theorem dW_plus_25 : decode cW_plus 25 = .ok (.istore_n 3, 1) := by decide +kernel
theorem dW_plus_26 : decode cW_plus 26 = .ok (.iconst 0, 1) := by decide +kernel
theorem dW_plus_27 : decode cW_plus 27 = .ok (.istore 4, 2) := by decide +kernel
theorem dW_plus_29 : decode cW_plus 29 = .ok (.iconst 0, 1) := by decide +kernel
theorem dW_plus_30 : decode cW_plus 30 = .ok (.istore 5, 2) := by decide +kernel
theorem dW_plus_32 : decode cW_plus 32 = .ok (.iload 5, 2) := by decide +kernel
theorem dW_plus_34 : decode cW_plus 34 = .ok (.aload_n 0, 1) := by decide +kernel
theorem dW_plus_35 : decode cW_plus 35 = .ok (.getfield 7, 3) := by decide +kernel
theorem dW_plus_38 : decode cW_plus 38 = .ok (.arraylength, 1) := by decide +kernel
theorem dW_plus_39 : decode cW_plus 39 = .ok (.if_icmp .ge 130, 3) := by decide +kernel
theorem dW_plus_42 : decode cW_plus 42 = .ok (.iload 5, 2) := by decide +kernel
theorem dW_plus_44 : decode cW_plus 44 = .ok (.aload_n 0, 1) := by decide +kernel
theorem dW_plus_45 : decode cW_plus 45 = .ok (.getfield 21, 3) := by decide +kernel
theorem dW_plus_48 : decode cW_plus 48 = .ok (.if_icmp .lt 17, 3) := by decide +kernel
theorem dW_plus_51 : decode cW_plus 51 = .ok (.iload 5, 2) := by decide +kernel
theorem dW_plus_53 : decode cW_plus 53 = .ok (.aload_n 1, 1) := by decide +kernel
theorem dW_plus_54 : decode cW_plus 54 = .ok (.getfield 21, 3) := by decide +kernel
theorem dW_plus_57 : decode cW_plus 57 = .ok (.if_icmp .lt 8, 3) := by decide +kernel
theorem dW_plus_60 : decode cW_plus 60 = .ok (.iload 4, 2) := by decide +kernel
theorem dW_plus_62 : decode cW_plus 62 = .ok (.ifCond .le 107, 3) := by decide +kernel
theorem dW_plus_65 : decode cW_plus 65 = .ok (.iload 5, 2) := by decide +kernel
theorem dW_plus_67 : decode cW_plus 67 = .ok (.aload_n 1, 1) := by decide +kernel
theorem dW_plus_68 : decode cW_plus 68 = .ok (.getfield 21, 3) := by decide +kernel
theorem dW_plus_71 : decode cW_plus 71 = .ok (.if_icmp .ge 13, 3) := by decide +kernel
theorem dW_plus_74 : decode cW_plus 74 = .ok (.aload_n 1, 1) := by decide +kernel
theorem dW_plus_75 : decode cW_plus 75 = .ok (.getfield 7, 3) := by decide +kernel
theorem dW_plus_78 : decode cW_plus 78 = .ok (.iload 5, 2) := by decide +kernel
theorem dW_plus_80 : decode cW_plus 80 = .ok (.iaload, 1) := by decide +kernel
theorem dW_plus_81 : decode cW_plus 81 = .ok (.goto 4, 3) := by decide +kernel
theorem dW_plus_84 : decode cW_plus 84 = .ok (.iconst 0, 1) := by decide +kernel
theorem dW_plus_85 : decode cW_plus 85 = .ok (.istore 6, 2) := by decide +kernel
theorem dW_plus_87 : decode cW_plus 87 = .ok (.iload 5, 2) := by decide +kernel
theorem dW_plus_89 : decode cW_plus 89 = .ok (.aload_n 0, 1) := by decide +kernel
theorem dW_plus_90 : decode cW_plus 90 = .ok (.getfield 21, 3) := by decide +kernel
theorem dW_plus_93 : decode cW_plus 93 = .ok (.if_icmp .ge 13, 3) := by decide +kernel
theorem dW_plus_96 : decode cW_plus 96 = .ok (.aload_n 0, 1) := by decide +kernel
theorem dW_plus_97 : decode cW_plus 97 = .ok (.getfield 7, 3) := by decide +kernel
theorem dW_plus_100 : decode cW_plus 100 = .ok (.iload 5, 2) := by decide +kernel
theorem dW_plus_102 : decode cW_plus 102 = .ok (.iaload, 1) := by decide +kernel
theorem dW_plus_103 : decode cW_plus 103 = .ok (.goto 4, 3) := by decide +kernel
theorem dW_plus_106 : decode cW_plus 106 = .ok (.iconst 0, 1) := by decide +kernel
theorem dW_plus_107 : decode cW_plus 107 = .ok (.iload_n 3, 1) := by decide +kernel
theorem dW_plus_108 : decode cW_plus 108 = .ok (.ifCond .eq 8, 3) := by decide +kernel
theorem dW_plus_111 : decode cW_plus 111 = .ok (.iload 6, 2) := by decide +kernel
theorem dW_plus_113 : decode cW_plus 113 = .ok (.goto 6, 3) := by decide +kernel
theorem dW_plus_116 : decode cW_plus 116 = .ok (.iload 6, 2) := by decide +kernel
theorem dW_plus_118 : decode cW_plus 118 = .ok (.ineg, 1) := by decide +kernel
theorem dW_plus_119 : decode cW_plus 119 = .ok (.iadd, 1) := by decide +kernel
theorem dW_plus_120 : decode cW_plus 120 = .ok (.iload 4, 2) := by decide +kernel
theorem dW_plus_122 : decode cW_plus 122 = .ok (.iadd, 1) := by decide +kernel
theorem dW_plus_123 : decode cW_plus 123 = .ok (.istore 7, 2) := by decide +kernel
theorem dW_plus_125 : decode cW_plus 125 = .ok (.iload 7, 2) := by decide +kernel
theorem dW_plus_127 : decode cW_plus 127 = .ok (.ldc 45, 2) := by decide +kernel
theorem dW_plus_129 : decode cW_plus 129 = .ok (.if_icmp .lt 7, 3) := by decide +kernel
theorem dW_plus_132 : decode cW_plus 132 = .ok (.iconst 1, 1) := by decide +kernel
theorem dW_plus_133 : decode cW_plus 133 = .ok (.goto 13, 3) := by decide +kernel
theorem dW_plus_136 : decode cW_plus 136 = .ok (.iload 7, 2) := by decide +kernel
theorem dW_plus_138 : decode cW_plus 138 = .ok (.ifCond .ge 7, 3) := by decide +kernel
theorem dW_plus_141 : decode cW_plus 141 = .ok (.iconst (-1), 1) := by decide +kernel
theorem dW_plus_142 : decode cW_plus 142 = .ok (.goto 4, 3) := by decide +kernel
theorem dW_plus_145 : decode cW_plus 145 = .ok (.iconst 0, 1) := by decide +kernel
theorem dW_plus_146 : decode cW_plus 146 = .ok (.istore 4, 2) := by decide +kernel
theorem dW_plus_148 : decode cW_plus 148 = .ok (.aload_n 0, 1) := by decide +kernel
theorem dW_plus_149 : decode cW_plus 149 = .ok (.getfield 7, 3) := by decide +kernel
theorem dW_plus_152 : decode cW_plus 152 = .ok (.iload 5, 2) := by decide +kernel
theorem dW_plus_154 : decode cW_plus 154 = .ok (.iload 7, 2) := by decide +kernel
theorem dW_plus_156 : decode cW_plus 156 = .ok (.iload 4, 2) := by decide +kernel
theorem dW_plus_158 : decode cW_plus 158 = .ok (.ldc 45, 2) := by decide +kernel
theorem dW_plus_160 : decode cW_plus 160 = .ok (.imul, 1) := by decide +kernel
theorem dW_plus_161 : decode cW_plus 161 = .ok (.isub, 1) := by decide +kernel
theorem dW_plus_162 : decode cW_plus 162 = .ok (.iastore, 1) := by decide +kernel
theorem dW_plus_163 : decode cW_plus 163 = .ok (.iinc 5 1, 3) := by decide +kernel
theorem dW_plus_166 : decode cW_plus 166 = .ok (.goto (-134), 3) := by decide +kernel
theorem dW_plus_169 : decode cW_plus 169 = .ok (.iload 4, 2) := by decide +kernel
theorem dW_plus_171 : decode cW_plus 171 = .ok (.ifCond .ge 9, 3) := by decide +kernel
theorem dW_plus_174 : decode cW_plus 174 = .ok (.aload_n 0, 1) := by decide +kernel
theorem dW_plus_175 : decode cW_plus 175 = .ok (.iload 5, 2) := by decide +kernel
theorem dW_plus_177 : decode cW_plus 177 = .ok (.invokevirtual 46, 3) := by decide +kernel
theorem dW_plus_180 : decode cW_plus 180 = .ok (.aload_n 0, 1) := by decide +kernel
theorem dW_plus_181 : decode cW_plus 181 = .ok (.iload 5, 2) := by decide +kernel
theorem dW_plus_183 : decode cW_plus 183 = .ok (.invokevirtual 17, 3) := by decide +kernel
theorem dW_plus_186 : decode cW_plus 186 = .ok (.return_, 1) := by decide +kernel
