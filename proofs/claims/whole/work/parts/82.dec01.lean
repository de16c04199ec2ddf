theorem dW_plus_161 : decode cW_plus 161 = .ok (.isub, 1) := by decide +kernel
theorem dW_plus_162 : decode cW_plus 162 = .ok (.iastore, 1) := by decide +kernel
theorem dW_plus_163 : decode cW_plus 163 = .ok (.iinc 5 1, 3) := by decide +kernel
theorem dW_plus_166 : decode cW_plus 166 = .ok (.goto (-134), 3) := by decide +kernel
theorem dW_plus_169 : decode cW_plus 169 = .ok (.iload 4, 2) := by decide +kernel
theorem dW_plus_171 : decode cW_plus 171 = .ok (.ifCond .ge 9, 3) := by decide +kernel
theorem dW_plus_174 : decode cW_plus 174 = .ok (.aload_n 0, 1) := by decide +kernel
theorem dW_plus_175 : decode cW_plus 175 = .ok (.iload 5, 2) := by decide +kernel
theorem dW_plus_177 : decode cW_plus 177 = .ok (.invokevirtual 46, 3) := by decide +kernel
theorem dW_plus_180 : decode cW_plus 180 = .ok (.aload_n 0, 1) := by decide +kernel
theorem dW_plus_181 : decode cW_plus 181 = .ok (.iload 5, 2) := by decide +kernel
theorem dW_plus_183 : decode cW_plus 183 = .ok (.invokevirtual 17, 3) := by decide +kernel
theorem dW_plus_186 : decode cW_plus 186 = .ok (.return_, 1) := by decide +kernel
theorem dM_trim_0 : decode cM_trim 0 = .ok (.iload_n 1, 1) := by decide +kernel
theorem dM_trim_1 : decode cM_trim 1 = .ok (.istore_n 2, 1) := by decide +kernel
theorem dM_trim_2 : decode cM_trim 2 = .ok (.iload_n 2, 1) := by decide +kernel
theorem dM_trim_3 : decode cM_trim 3 = .ok (.ifCond .le 17, 3) := by decide +kernel
theorem dM_trim_6 : decode cM_trim 6 = .ok (.aload_n 0, 1) := by decide +kernel
theorem dM_trim_7 : decode cM_trim 7 = .ok (.iload_n 2, 1) := by decide +kernel
theorem dM_trim_8 : decode cM_trim 8 = .ok (.iconst 1, 1) := by decide +kernel
theorem dM_trim_9 : decode cM_trim 9 = .ok (.isub, 1) := by decide +kernel
theorem dM_trim_10 : decode cM_trim 10 = .ok (.iaload, 1) := by decide +kernel
theorem dM_trim_11 : decode cM_trim 11 = .ok (.ifCond .ne 9, 3) := by decide +kernel
theorem dM_trim_14 : decode cM_trim 14 = .ok (.iinc 2 (-1), 3) := by decide +kernel
theorem dM_trim_17 : decode cM_trim 17 = .ok (.goto (-15), 3) := by decide +kernel
theorem dM_trim_20 : decode cM_trim 20 = .ok (.aload_n 0, 1) := by decide +kernel
theorem dM_trim_21 : decode cM_trim 21 = .ok (.sipush 300, 3) := by decide +kernel
theorem dM_trim_24 : decode cM_trim 24 = .ok (.iload_n 2, 1) := by decide +kernel
theorem dM_trim_25 : decode cM_trim 25 = .ok (.iastore, 1) := by decide +kernel
theorem dM_trim_26 : decode cM_trim 26 = .ok (.aload_n 0, 1) := by decide +kernel
theorem dM_trim_27 : decode cM_trim 27 = .ok (.sipush 301, 3) := by decide +kernel
theorem dM_trim_30 : decode cM_trim 30 = .ok (.iload_n 2, 1) := by decide +kernel
theorem dM_trim_31 : decode cM_trim 31 = .ok (.ifCond .ne 7, 3) := by decide +kernel
theorem dM_trim_34 : decode cM_trim 34 = .ok (.iconst 0, 1) := by decide +kernel
theorem dM_trim_35 : decode cM_trim 35 = .ok (.goto 8, 3) := by decide +kernel
theorem dM_trim_38 : decode cM_trim 38 = .ok (.aload_n 0, 1) := by decide +kernel
theorem dM_trim_39 : decode cM_trim 39 = .ok (.sipush 301, 3) := by decide +kernel
theorem dM_trim_42 : decode cM_trim 42 = .ok (.iaload, 1) := by decide +kernel
theorem dM_trim_43 : decode cM_trim 43 = .ok (.iastore, 1) := by decide +kernel
theorem dM_trim_44 : decode cM_trim 44 = .ok (.return_, 1) := by decide +kernel
theorem dM_rest_0 : decode cM_rest 0 = .ok (.lconst 0, 1) := by decide +kernel
theorem dM_rest_1 : decode cM_rest 1 = .ok (.lstore_n 2, 1) := by decide +kernel
theorem dM_rest_2 : decode cM_rest 2 = .ok (.aload_n 0, 1) := by decide +kernel
theorem dM_rest_3 : decode cM_rest 3 = .ok (.sipush 300, 3) := by decide +kernel
theorem dM_rest_6 : decode cM_rest 6 = .ok (.iaload, 1) := by decide +kernel
theorem dM_rest_7 : decode cM_rest 7 = .ok (.iconst 1, 1) := by decide +kernel
theorem dM_rest_8 : decode cM_rest 8 = .ok (.isub, 1) := by decide +kernel
theorem dM_rest_9 : decode cM_rest 9 = .ok (.istore 4, 2) := by decide +kernel
theorem dM_rest_11 : decode cM_rest 11 = .ok (.iload 4, 2) := by decide +kernel
theorem dM_rest_13 : decode cM_rest 13 = .ok (.ifCond .lt 23, 3) := by decide +kernel
theorem dM_rest_16 : decode cM_rest 16 = .ok (.lload_n 2, 1) := by decide +kernel
theorem dM_rest_17 : decode cM_rest 17 = .ok (.bipush 28, 2) := by decide +kernel
theorem dM_rest_19 : decode cM_rest 19 = .ok (.lshl, 1) := by decide +kernel
theorem dM_rest_20 : decode cM_rest 20 = .ok (.aload_n 0, 1) := by decide +kernel
theorem dM_rest_21 : decode cM_rest 21 = .ok (.iload 4, 2) := by decide +kernel
theorem dM_rest_23 : decode cM_rest 23 = .ok (.iaload, 1) := by decide +kernel
theorem dM_rest_24 : decode cM_rest 24 = .ok (.i2l, 1) := by decide +kernel
theorem dM_rest_25 : decode cM_rest 25 = .ok (.lor, 1) := by decide +kernel
theorem dM_rest_26 : decode cM_rest 26 = .ok (.iload_n 1, 1) := by decide +kernel
theorem dM_rest_27 : decode cM_rest 27 = .ok (.i2l, 1) := by decide +kernel
theorem dM_rest_28 : decode cM_rest 28 = .ok (.lrem, 1) := by decide +kernel
theorem dM_rest_29 : decode cM_rest 29 = .ok (.lstore_n 2, 1) := by decide +kernel
theorem dM_rest_30 : decode cM_rest 30 = .ok (.iinc 4 (-1), 3) := by decide +kernel
theorem dM_rest_33 : decode cM_rest 33 = .ok (.goto (-22), 3) := by decide +kernel
theorem dM_rest_36 : decode cM_rest 36 = .ok (.lload_n 2, 1) := by decide +kernel
theorem dM_rest_37 : decode cM_rest 37 = .ok (.l2i, 1) := by decide +kernel
theorem dM_rest_38 : decode cM_rest 38 = .ok (.ireturn, 1) := by decide +kernel
theorem dM_divide_0 : decode cM_divide 0 = .ok (.lconst 0, 1) := by decide +kernel
theorem dM_divide_1 : decode cM_divide 1 = .ok (.lstore_n 2, 1) := by decide +kernel
theorem dM_divide_2 : decode cM_divide 2 = .ok (.aload_n 0, 1) := by decide +kernel
theorem dM_divide_3 : decode cM_divide 3 = .ok (.sipush 300, 3) := by decide +kernel
theorem dM_divide_6 : decode cM_divide 6 = .ok (.iaload, 1) := by decide +kernel
theorem dM_divide_7 : decode cM_divide 7 = .ok (.iconst 1, 1) := by decide +kernel
theorem dM_divide_8 : decode cM_divide 8 = .ok (.isub, 1) := by decide +kernel
theorem dM_divide_9 : decode cM_divide 9 = .ok (.istore 4, 2) := by decide +kernel
theorem dM_divide_11 : decode cM_divide 11 = .ok (.iload 4, 2) := by decide +kernel
theorem dM_divide_13 : decode cM_divide 13 = .ok (.ifCond .lt 37, 3) := by decide +kernel
theorem dM_divide_16 : decode cM_divide 16 = .ok (.lload_n 2, 1) := by decide +kernel
theorem dM_divide_17 : decode cM_divide 17 = .ok (.bipush 28, 2) := by decide +kernel
theorem dM_divide_19 : decode cM_divide 19 = .ok (.lshl, 1) := by decide +kernel
theorem dM_divide_20 : decode cM_divide 20 = .ok (.aload_n 0, 1) := by decide +kernel
theorem dM_divide_21 : decode cM_divide 21 = .ok (.iload 4, 2) := by decide +kernel
theorem dM_divide_23 : decode cM_divide 23 = .ok (.iaload, 1) := by decide +kernel
theorem dM_divide_24 : decode cM_divide 24 = .ok (.i2l, 1) := by decide +kernel
theorem dM_divide_25 : decode cM_divide 25 = .ok (.lor, 1) := by decide +kernel
theorem dM_divide_26 : decode cM_divide 26 = .ok (.lstore 5, 2) := by decide +kernel
theorem dM_divide_28 : decode cM_divide 28 = .ok (.aload_n 0, 1) := by decide +kernel
theorem dM_divide_29 : decode cM_divide 29 = .ok (.iload 4, 2) := by decide +kernel
theorem dM_divide_31 : decode cM_divide 31 = .ok (.lload 5, 2) := by decide +kernel
theorem dM_divide_33 : decode cM_divide 33 = .ok (.iload_n 1, 1) := by decide +kernel
theorem dM_divide_34 : decode cM_divide 34 = .ok (.i2l, 1) := by decide +kernel
theorem dM_divide_35 : decode cM_divide 35 = .ok (.ldiv, 1) := by decide +kernel
theorem dM_divide_36 : decode cM_divide 36 = .ok (.l2i, 1) := by decide +kernel
theorem dM_divide_37 : decode cM_divide 37 = .ok (.iastore, 1) := by decide +kernel
theorem dM_divide_38 : decode cM_divide 38 = .ok (.lload 5, 2) := by decide +kernel
theorem dM_divide_40 : decode cM_divide 40 = .ok (.iload_n 1, 1) := by decide +kernel
theorem dM_divide_41 : decode cM_divide 41 = .ok (.i2l, 1) := by decide +kernel
theorem dM_divide_42 : decode cM_divide 42 = .ok (.lrem, 1) := by decide +kernel
theorem dM_divide_43 : decode cM_divide 43 = .ok (.lstore_n 2, 1) := by decide +kernel
theorem dM_divide_44 : decode cM_divide 44 = .ok (.iinc 4 (-1), 3) := by decide +kernel
theorem dM_divide_47 : decode cM_divide 47 = .ok (.goto (-36), 3) := by decide +kernel
theorem dM_divide_50 : decode cM_divide 50 = .ok (.aload_n 0, 1) := by decide +kernel
theorem dM_divide_51 : decode cM_divide 51 = .ok (.aload_n 0, 1) := by decide +kernel
theorem dM_divide_52 : decode cM_divide 52 = .ok (.sipush 300, 3) := by decide +kernel
theorem dM_divide_55 : decode cM_divide 55 = .ok (.iaload, 1) := by decide +kernel
theorem dM_divide_56 : decode cM_divide 56 = .ok (.invokestatic 166, 3) := by decide +kernel
theorem dM_divide_59 : decode cM_divide 59 = .ok (.lload_n 2, 1) := by decide +kernel
theorem dM_divide_60 : decode cM_divide 60 = .ok (.l2i, 1) := by decide +kernel
theorem dM_divide_61 : decode cM_divide 61 = .ok (.ireturn, 1) := by decide +kernel
theorem dM_times_0 : decode cM_times 0 = .ok (.lconst 0, 1) := by decide +kernel
theorem dM_times_1 : decode cM_times 1 = .ok (.lstore_n 2, 1) := by decide +kernel
theorem dM_times_2 : decode cM_times 2 = .ok (.aload_n 0, 1) := by decide +kernel
theorem dM_times_3 : decode cM_times 3 = .ok (.sipush 300, 3) := by decide +kernel
theorem dM_times_6 : decode cM_times 6 = .ok (.iaload, 1) := by decide +kernel
theorem dM_times_7 : decode cM_times 7 = .ok (.istore 4, 2) := by decide +kernel
theorem dM_times_9 : decode cM_times 9 = .ok (.iconst 0, 1) := by decide +kernel
theorem dM_times_10 : decode cM_times 10 = .ok (.istore 5, 2) := by decide +kernel
theorem dM_times_12 : decode cM_times 12 = .ok (.iload 5, 2) := by decide +kernel
theorem dM_times_14 : decode cM_times 14 = .ok (.iload 4, 2) := by decide +kernel
theorem dM_times_16 : decode cM_times 16 = .ok (.if_icmp .ge 38, 3) := by decide +kernel
theorem dM_times_19 : decode cM_times 19 = .ok (.aload_n 0, 1) := by decide +kernel
theorem dM_times_20 : decode cM_times 20 = .ok (.iload 5, 2) := by decide +kernel
theorem dM_times_22 : decode cM_times 22 = .ok (.iaload, 1) := by decide +kernel
theorem dM_times_23 : decode cM_times 23 = .ok (.i2l, 1) := by decide +kernel
theorem dM_times_24 : decode cM_times 24 = .ok (.iload_n 1, 1) := by decide +kernel
theorem dM_times_25 : decode cM_times 25 = .ok (.i2l, 1) := by decide +kernel
theorem dM_times_26 : decode cM_times 26 = .ok (.lmul, 1) := by decide +kernel
theorem dM_times_27 : decode cM_times 27 = .ok (.lload_n 2, 1) := by decide +kernel
theorem dM_times_28 : decode cM_times 28 = .ok (.ladd, 1) := by decide +kernel
theorem dM_times_29 : decode cM_times 29 = .ok (.lstore 6, 2) := by decide +kernel
theorem dM_times_31 : decode cM_times 31 = .ok (.aload_n 0, 1) := by decide +kernel
theorem dM_times_32 : decode cM_times 32 = .ok (.iload 5, 2) := by decide +kernel
theorem dM_times_34 : decode cM_times 34 = .ok (.lload 6, 2) := by decide +kernel
theorem dM_times_36 : decode cM_times 36 = .ok (.ldc2_w 148, 3) := by decide +kernel
theorem dM_times_39 : decode cM_times 39 = .ok (.land, 1) := by decide +kernel
theorem dM_times_40 : decode cM_times 40 = .ok (.l2i, 1) := by decide +kernel
theorem dM_times_41 : decode cM_times 41 = .ok (.iastore, 1) := by decide +kernel
theorem dM_times_42 : decode cM_times 42 = .ok (.lload 6, 2) := by decide +kernel
theorem dM_times_44 : decode cM_times 44 = .ok (.bipush 28, 2) := by decide +kernel
theorem dM_times_46 : decode cM_times 46 = .ok (.lshr, 1) := by decide +kernel
theorem dM_times_47 : decode cM_times 47 = .ok (.lstore_n 2, 1) := by decide +kernel
theorem dM_times_48 : decode cM_times 48 = .ok (.iinc 5 1, 3) := by decide +kernel
theorem dM_times_51 : decode cM_times 51 = .ok (.goto (-39), 3) := by decide +kernel
theorem dM_times_54 : decode cM_times 54 = .ok (.lload_n 2, 1) := by decide +kernel
theorem dM_times_55 : decode cM_times 55 = .ok (.lconst 0, 1) := by decide +kernel
theorem dM_times_56 : decode cM_times 56 = .ok (.lcmp, 1) := by decide +kernel
theorem dM_times_57 : decode cM_times 57 = .ok (.ifCond .le 24, 3) := by decide +kernel
theorem dM_times_60 : decode cM_times 60 = .ok (.aload_n 0, 1) := by decide +kernel
theorem dM_times_61 : decode cM_times 61 = .ok (.iload 4, 2) := by decide +kernel
theorem dM_times_63 : decode cM_times 63 = .ok (.lload_n 2, 1) := by decide +kernel
theorem dM_times_64 : decode cM_times 64 = .ok (.ldc2_w 148, 3) := by decide +kernel
theorem dM_times_67 : decode cM_times 67 = .ok (.land, 1) := by decide +kernel
theorem dM_times_68 : decode cM_times 68 = .ok (.l2i, 1) := by decide +kernel
theorem dM_times_69 : decode cM_times 69 = .ok (.iastore, 1) := by decide +kernel
theorem dM_times_70 : decode cM_times 70 = .ok (.lload_n 2, 1) := by decide +kernel
theorem dM_times_71 : decode cM_times 71 = .ok (.bipush 28, 2) := by decide +kernel
theorem dM_times_73 : decode cM_times 73 = .ok (.lshr, 1) := by decide +kernel
theorem dM_times_74 : decode cM_times 74 = .ok (.lstore_n 2, 1) := by decide +kernel
theorem dM_times_75 : decode cM_times 75 = .ok (.iinc 4 1, 3) := by decide +kernel
theorem dM_times_78 : decode cM_times 78 = .ok (.goto (-24), 3) := by decide +kernel
theorem dM_times_81 : decode cM_times 81 = .ok (.aload_n 0, 1) := by decide +kernel
theorem dM_times_82 : decode cM_times 82 = .ok (.iload 4, 2) := by decide +kernel
theorem dM_times_84 : decode cM_times 84 = .ok (.invokestatic 166, 3) := by decide +kernel
theorem dM_times_87 : decode cM_times 87 = .ok (.return_, 1) := by decide +kernel
theorem dAr_rangeCheck_0 : decode cAr_rangeCheck 0 = .ok (.iload_n 1, 1) := by decide +kernel
theorem dAr_rangeCheck_1 : decode cAr_rangeCheck 1 = .ok (.iload_n 2, 1) := by decide +kernel
theorem dAr_rangeCheck_2 : decode cAr_rangeCheck 2 = .ok (.if_icmp .le 44, 3) := by decide +kernel
theorem dAr_rangeCheck_5 : decode cAr_rangeCheck 5 = .ok (.new 43, 3) := by decide +kernel
theorem dAr_rangeCheck_8 : decode cAr_rangeCheck 8 = .ok (.dup, 1) := by decide +kernel
theorem dAr_rangeCheck_9 : decode cAr_rangeCheck 9 = .ok (.new 45, 3) := by decide +kernel
theorem dAr_rangeCheck_12 : decode cAr_rangeCheck 12 = .ok (.dup, 1) := by decide +kernel
theorem dAr_rangeCheck_13 : decode cAr_rangeCheck 13 = .ok (.invokespecial 47, 3) := by decide +kernel
theorem dAr_rangeCheck_16 : decode cAr_rangeCheck 16 = .ok (.ldc 48, 2) := by decide +kernel
theorem dAr_rangeCheck_18 : decode cAr_rangeCheck 18 = .ok (.invokevirtual 50, 3) := by decide +kernel
theorem dAr_rangeCheck_21 : decode cAr_rangeCheck 21 = .ok (.iload_n 1, 1) := by decide +kernel
theorem dAr_rangeCheck_22 : decode cAr_rangeCheck 22 = .ok (.invokevirtual 54, 3) := by decide +kernel
theorem dAr_rangeCheck_25 : decode cAr_rangeCheck 25 = .ok (.ldc 57, 2) := by decide +kernel
theorem dAr_rangeCheck_27 : decode cAr_rangeCheck 27 = .ok (.invokevirtual 50, 3) := by decide +kernel
theorem dAr_rangeCheck_30 : decode cAr_rangeCheck 30 = .ok (.iload_n 2, 1) := by decide +kernel
theorem dAr_rangeCheck_31 : decode cAr_rangeCheck 31 = .ok (.invokevirtual 54, 3) := by decide +kernel
theorem dAr_rangeCheck_34 : decode cAr_rangeCheck 34 = .ok (.ldc 59, 2) := by decide +kernel
theorem dAr_rangeCheck_36 : decode cAr_rangeCheck 36 = .ok (.invokevirtual 50, 3) := by decide +kernel
theorem dAr_rangeCheck_39 : decode cAr_rangeCheck 39 = .ok (.invokevirtual 61, 3) := by decide +kernel
theorem dAr_rangeCheck_42 : decode cAr_rangeCheck 42 = .ok (.invokespecial 65, 3) := by decide +kernel
theorem dAr_rangeCheck_45 : decode cAr_rangeCheck 45 = .ok (.athrow, 1) := by decide +kernel
theorem dAr_rangeCheck_46 : decode cAr_rangeCheck 46 = .ok (.iload_n 1, 1) := by decide +kernel
theorem dAr_rangeCheck_47 : decode cAr_rangeCheck 47 = .ok (.ifCond .ge 12, 3) := by decide +kernel
theorem dAr_rangeCheck_50 : decode cAr_rangeCheck 50 = .ok (.new 68, 3) := by decide +kernel
theorem dAr_rangeCheck_53 : decode cAr_rangeCheck 53 = .ok (.dup, 1) := by decide +kernel
theorem dAr_rangeCheck_54 : decode cAr_rangeCheck 54 = .ok (.iload_n 1, 1) := by decide +kernel
theorem dAr_rangeCheck_55 : decode cAr_rangeCheck 55 = .ok (.invokespecial 70, 3) := by decide +kernel
theorem dAr_rangeCheck_58 : decode cAr_rangeCheck 58 = .ok (.athrow, 1) := by decide +kernel
theorem dAr_rangeCheck_59 : decode cAr_rangeCheck 59 = .ok (.iload_n 2, 1) := by decide +kernel
theorem dAr_rangeCheck_60 : decode cAr_rangeCheck 60 = .ok (.iload_n 0, 1) := by decide +kernel
theorem dAr_rangeCheck_61 : decode cAr_rangeCheck 61 = .ok (.if_icmp .le 12, 3) := by decide +kernel
theorem dAr_rangeCheck_64 : decode cAr_rangeCheck 64 = .ok (.new 68, 3) := by decide +kernel
theorem dAr_rangeCheck_67 : decode cAr_rangeCheck 67 = .ok (.dup, 1) := by decide +kernel
theorem dAr_rangeCheck_68 : decode cAr_rangeCheck 68 = .ok (.iload_n 2, 1) := by decide +kernel
theorem dAr_rangeCheck_69 : decode cAr_rangeCheck 69 = .ok (.invokespecial 70, 3) := by decide +kernel
theorem dAr_rangeCheck_72 : decode cAr_rangeCheck 72 = .ok (.athrow, 1) := by decide +kernel
theorem dAr_rangeCheck_73 : decode cAr_rangeCheck 73 = .ok (.return_, 1) := by decide +kernel
theorem dAr_fill_0 : decode cAr_fill 0 = .ok (.aload_n 0, 1) := by decide +kernel
theorem dAr_fill_1 : decode cAr_fill 1 = .ok (.arraylength, 1) := by decide +kernel
theorem dAr_fill_2 : decode cAr_fill 2 = .ok (.iload_n 1, 1) := by decide +kernel
theorem dAr_fill_3 : decode cAr_fill 3 = .ok (.iload_n 2, 1) := by decide +kernel
theorem dAr_fill_4 : decode cAr_fill 4 = .ok (.invokestatic 13, 3) := by decide +kernel
theorem dAr_fill_7 : decode cAr_fill 7 = .ok (.iload_n 1, 1) := by decide +kernel
theorem dAr_fill_8 : decode cAr_fill 8 = .ok (.istore 4, 2) := by decide +kernel
theorem dAr_fill_10 : decode cAr_fill 10 = .ok (.iload 4, 2) := by decide +kernel
theorem dAr_fill_12 : decode cAr_fill 12 = .ok (.iload_n 2, 1) := by decide +kernel
theorem dAr_fill_13 : decode cAr_fill 13 = .ok (.if_icmp .ge 14, 3) := by decide +kernel
theorem dAr_fill_16 : decode cAr_fill 16 = .ok (.aload_n 0, 1) := by decide +kernel
theorem dAr_fill_17 : decode cAr_fill 17 = .ok (.iload 4, 2) := by decide +kernel
theorem dAr_fill_19 : decode cAr_fill 19 = .ok (.iload_n 3, 1) := by decide +kernel
theorem dAr_fill_20 : decode cAr_fill 20 = .ok (.iastore, 1) := by decide +kernel
theorem dAr_fill_21 : decode cAr_fill 21 = .ok (.iinc 4 1, 3) := by decide +kernel
theorem dAr_fill_24 : decode cAr_fill 24 = .ok (.goto (-14), 3) := by decide +kernel
theorem dAr_fill_27 : decode cAr_fill 27 = .ok (.return_, 1) := by decide +kernel
theorem dW_setProduct_0 : decode cW_setProduct 0 = .ok (.aload_n 1, 1) := by decide +kernel
theorem dW_setProduct_1 : decode cW_setProduct 1 = .ok (.getfield 21, 3) := by decide +kernel
theorem dW_setProduct_4 : decode cW_setProduct 4 = .ok (.aload_n 2, 1) := by decide +kernel
theorem dW_setProduct_5 : decode cW_setProduct 5 = .ok (.getfield 21, 3) := by decide +kernel
theorem dW_setProduct_8 : decode cW_setProduct 8 = .ok (.iadd, 1) := by decide +kernel
theorem dW_setProduct_9 : decode cW_setProduct 9 = .ok (.aload_n 0, 1) := by decide +kernel
theorem dW_setProduct_10 : decode cW_setProduct 10 = .ok (.getfield 7, 3) := by decide +kernel
theorem dW_setProduct_13 : decode cW_setProduct 13 = .ok (.arraylength, 1) := by decide +kernel
theorem dW_setProduct_14 : decode cW_setProduct 14 = .ok (.invokestatic 25, 3) := by decide +kernel
theorem dW_setProduct_17 : decode cW_setProduct 17 = .ok (.istore_n 3, 1) := by decide +kernel
theorem dW_setProduct_18 : decode cW_setProduct 18 = .ok (.aload_n 0, 1) := by decide +kernel
theorem dW_setProduct_19 : decode cW_setProduct 19 = .ok (.getfield 7, 3) := by decide +kernel
theorem dW_setProduct_22 : decode cW_setProduct 22 = .ok (.iconst 0, 1) := by decide +kernel
theorem dW_setProduct_23 : decode cW_setProduct 23 = .ok (.iload_n 3, 1) := by decide +kernel
theorem dW_setProduct_24 : decode cW_setProduct 24 = .ok (.iconst 0, 1) := by decide +kernel
theorem dW_setProduct_25 : decode cW_setProduct 25 = .ok (.invokestatic 39, 3) := by decide +kernel
theorem dW_setProduct_28 : decode cW_setProduct 28 = .ok (.iconst 0, 1) := by decide +kernel
theorem dW_setProduct_29 : decode cW_setProduct 29 = .ok (.istore 4, 2) := by decide +kernel
theorem dW_setProduct_31 : decode cW_setProduct 31 = .ok (.iload 4, 2) := by decide +kernel
theorem dW_setProduct_33 : decode cW_setProduct 33 = .ok (.aload_n 1, 1) := by decide +kernel
theorem dW_setProduct_34 : decode cW_setProduct 34 = .ok (.getfield 21, 3) := by decide +kernel
theorem dW_setProduct_37 : decode cW_setProduct 37 = .ok (.if_icmp .ge 131, 3) := by decide +kernel
theorem dW_setProduct_40 : decode cW_setProduct 40 = .ok (.aload_n 1, 1) := by decide +kernel
theorem dW_setProduct_41 : decode cW_setProduct 41 = .ok (.getfield 7, 3) := by decide +kernel
theorem dW_setProduct_44 : decode cW_setProduct 44 = .ok (.iload 4, 2) := by decide +kernel
theorem dW_setProduct_46 : decode cW_setProduct 46 = .ok (.iaload, 1) := by decide +kernel
theorem dW_setProduct_47 : decode cW_setProduct 47 = .ok (.i2l, 1) := by decide +kernel
theorem dW_setProduct_48 : decode cW_setProduct 48 = .ok (.lstore 5, 2) := by decide +kernel
theorem dW_setProduct_50 : decode cW_setProduct 50 = .ok (.lconst 0, 1) := by decide +kernel
theorem dW_setProduct_51 : decode cW_setProduct 51 = .ok (.lstore 7, 2) := by decide +kernel
theorem dW_setProduct_53 : decode cW_setProduct 53 = .ok (.iconst 0, 1) := by decide +kernel
theorem dW_setProduct_54 : decode cW_setProduct 54 = .ok (.istore 9, 2) := by decide +kernel
theorem dW_setProduct_56 : decode cW_setProduct 56 = .ok (.iload 9, 2) := by decide +kernel
theorem dW_setProduct_58 : decode cW_setProduct 58 = .ok (.aload_n 2, 1) := by decide +kernel
theorem dW_setProduct_59 : decode cW_setProduct 59 = .ok (.getfield 21, 3) := by decide +kernel
theorem dW_setProduct_62 : decode cW_setProduct 62 = .ok (.if_icmp .ge 74, 3) := by decide +kernel
theorem dW_setProduct_65 : decode cW_setProduct 65 = .ok (.iload 4, 2) := by decide +kernel
theorem dW_setProduct_67 : decode cW_setProduct 67 = .ok (.iload 9, 2) := by decide +kernel
theorem dW_setProduct_69 : decode cW_setProduct 69 = .ok (.iadd, 1) := by decide +kernel
theorem dW_setProduct_70 : decode cW_setProduct 70 = .ok (.iload_n 3, 1) := by decide +kernel
theorem dW_setProduct_71 : decode cW_setProduct 71 = .ok (.if_icmp .ge 65, 3) := by decide +kernel
theorem dW_setProduct_74 : decode cW_setProduct 74 = .ok (.lload 5, 2) := by decide +kernel
theorem dW_setProduct_76 : decode cW_setProduct 76 = .ok (.aload_n 2, 1) := by decide +kernel
theorem dW_setProduct_77 : decode cW_setProduct 77 = .ok (.getfield 7, 3) := by decide +kernel
theorem dW_setProduct_80 : decode cW_setProduct 80 = .ok (.iload 9, 2) := by decide +kernel
theorem dW_setProduct_82 : decode cW_setProduct 82 = .ok (.iaload, 1) := by decide +kernel
theorem dW_setProduct_83 : decode cW_setProduct 83 = .ok (.i2l, 1) := by decide +kernel
theorem dW_setProduct_84 : decode cW_setProduct 84 = .ok (.lmul, 1) := by decide +kernel
theorem dW_setProduct_85 : decode cW_setProduct 85 = .ok (.aload_n 0, 1) := by decide +kernel
theorem dW_setProduct_86 : decode cW_setProduct 86 = .ok (.getfield 7, 3) := by decide +kernel
theorem dW_setProduct_89 : decode cW_setProduct 89 = .ok (.iload 4, 2) := by decide +kernel
theorem dW_setProduct_91 : decode cW_setProduct 91 = .ok (.iload 9, 2) := by decide +kernel
theorem dW_setProduct_93 : decode cW_setProduct 93 = .ok (.iadd, 1) := by decide +kernel
theorem dW_setProduct_94 : decode cW_setProduct 94 = .ok (.iaload, 1) := by decide +kernel
theorem dW_setProduct_95 : decode cW_setProduct 95 = .ok (.i2l, 1) := by decide +kernel
theorem dW_setProduct_96 : decode cW_setProduct 96 = .ok (.ladd, 1) := by decide +kernel
theorem dW_setProduct_97 : decode cW_setProduct 97 = .ok (.lload 7, 2) := by decide +kernel
theorem dW_setProduct_99 : decode cW_setProduct 99 = .ok (.ladd, 1) := by decide +kernel
theorem dW_setProduct_100 : decode cW_setProduct 100 = .ok (.lstore 10, 2) := by decide +kernel
theorem dW_setProduct_102 : decode cW_setProduct 102 = .ok (.lload 10, 2) := by decide +kernel
theorem dW_setProduct_104 : decode cW_setProduct 104 = .ok (.ldc2_w 37, 3) := by decide +kernel
theorem dW_setProduct_107 : decode cW_setProduct 107 = .ok (.ldiv, 1) := by decide +kernel
theorem dW_setProduct_108 : decode cW_setProduct 108 = .ok (.lstore 7, 2) := by decide +kernel
theorem dW_setProduct_110 : decode cW_setProduct 110 = .ok (.aload_n 0, 1) := by decide +kernel
theorem dW_setProduct_111 : decode cW_setProduct 111 = .ok (.getfield 7, 3) := by decide +kernel
theorem dW_setProduct_114 : decode cW_setProduct 114 = .ok (.iload 4, 2) := by decide +kernel
theorem dW_setProduct_116 : decode cW_setProduct 116 = .ok (.iload 9, 2) := by decide +kernel
theorem dW_setProduct_118 : decode cW_setProduct 118 = .ok (.iadd, 1) := by decide +kernel
theorem dW_setProduct_119 : decode cW_setProduct 119 = .ok (.lload 10, 2) := by decide +kernel
theorem dW_setProduct_121 : decode cW_setProduct 121 = .ok (.lload 7, 2) := by decide +kernel
theorem dW_setProduct_123 : decode cW_setProduct 123 = .ok (.ldc2_w 37, 3) := by decide +kernel
theorem dW_setProduct_126 : decode cW_setProduct 126 = .ok (.lmul, 1) := by decide +kernel
theorem dW_setProduct_127 : decode cW_setProduct 127 = .ok (.lsub, 1) := by decide +kernel
theorem dW_setProduct_128 : decode cW_setProduct 128 = .ok (.l2i, 1) := by decide +kernel
theorem dW_setProduct_129 : decode cW_setProduct 129 = .ok (.iastore, 1) := by decide +kernel
theorem dW_setProduct_130 : decode cW_setProduct 130 = .ok (.iinc 9 1, 3) := by decide +kernel
theorem dW_setProduct_133 : decode cW_setProduct 133 = .ok (.goto (-77), 3) := by decide +kernel
theorem dW_setProduct_136 : decode cW_setProduct 136 = .ok (.iload 4, 2) := by decide +kernel
theorem dW_setProduct_138 : decode cW_setProduct 138 = .ok (.aload_n 2, 1) := by decide +kernel
theorem dW_setProduct_139 : decode cW_setProduct 139 = .ok (.getfield 21, 3) := by decide +kernel
theorem dW_setProduct_142 : decode cW_setProduct 142 = .ok (.iadd, 1) := by decide +kernel
theorem dW_setProduct_143 : decode cW_setProduct 143 = .ok (.iload_n 3, 1) := by decide +kernel
theorem dW_setProduct_144 : decode cW_setProduct 144 = .ok (.if_icmp .ge 18, 3) := by decide +kernel
theorem dW_setProduct_147 : decode cW_setProduct 147 = .ok (.aload_n 0, 1) := by decide +kernel
theorem dW_setProduct_148 : decode cW_setProduct 148 = .ok (.getfield 7, 3) := by decide +kernel
theorem dW_setProduct_151 : decode cW_setProduct 151 = .ok (.iload 4, 2) := by decide +kernel
theorem dW_setProduct_153 : decode cW_setProduct 153 = .ok (.aload_n 2, 1) := by decide +kernel
theorem dW_setProduct_154 : decode cW_setProduct 154 = .ok (.getfield 21, 3) := by decide +kernel
theorem dW_setProduct_157 : decode cW_setProduct 157 = .ok (.iadd, 1) := by decide +kernel
theorem dW_setProduct_158 : decode cW_setProduct 158 = .ok (.lload 7, 2) := by decide +kernel
theorem dW_setProduct_160 : decode cW_setProduct 160 = .ok (.l2i, 1) := by decide +kernel
theorem dW_setProduct_161 : decode cW_setProduct 161 = .ok (.iastore, 1) := by decide +kernel
theorem dW_setProduct_162 : decode cW_setProduct 162 = .ok (.iinc 4 1, 3) := by decide +kernel
theorem dW_setProduct_165 : decode cW_setProduct 165 = .ok (.goto (-134), 3) := by decide +kernel
theorem dW_setProduct_168 : decode cW_setProduct 168 = .ok (.aload_n 0, 1) := by decide +kernel
theorem dW_setProduct_169 : decode cW_setProduct 169 = .ok (.aload_n 1, 1) := by decide +kernel
theorem dW_setProduct_170 : decode cW_setProduct 170 = .ok (.getfield 13, 3) := by decide +kernel
theorem dW_setProduct_173 : decode cW_setProduct 173 = .ok (.aload_n 2, 1) := by decide +kernel
theorem dW_setProduct_174 : decode cW_setProduct 174 = .ok (.getfield 13, 3) := by decide +kernel
theorem dW_setProduct_177 : decode cW_setProduct 177 = .ok (.if_icmp .eq 7, 3) := by decide +kernel
theorem dW_setProduct_180 : decode cW_setProduct 180 = .ok (.iconst 1, 1) := by decide +kernel
theorem dW_setProduct_181 : decode cW_setProduct 181 = .ok (.goto 4, 3) := by decide +kernel
theorem dW_setProduct_184 : decode cW_setProduct 184 = .ok (.iconst 0, 1) := by decide +kernel
theorem dW_setProduct_185 : decode cW_setProduct 185 = .ok (.putfield 13, 3) := by decide +kernel
theorem dW_setProduct_188 : decode cW_setProduct 188 = .ok (.aload_n 0, 1) := by decide +kernel
theorem dW_setProduct_189 : decode cW_setProduct 189 = .ok (.iload_n 3, 1) := by decide +kernel
theorem dW_setProduct_190 : decode cW_setProduct 190 = .ok (.invokevirtual 17, 3) := by decide +kernel
theorem dW_setProduct_193 : decode cW_setProduct 193 = .ok (.return_, 1) := by decide +kernel
theorem dW_halveAway_0 : decode cW_halveAway 0 = .ok (.iconst 0, 1) := by decide +kernel
theorem dW_halveAway_1 : decode cW_halveAway 1 = .ok (.istore_n 1, 1) := by decide +kernel
theorem dW_halveAway_2 : decode cW_halveAway 2 = .ok (.iload_n 1, 1) := by decide +kernel
theorem dW_halveAway_3 : decode cW_halveAway 3 = .ok (.aload_n 0, 1) := by decide +kernel
theorem dW_halveAway_4 : decode cW_halveAway 4 = .ok (.invokevirtual 58, 3) := by decide +kernel
theorem dW_halveAway_7 : decode cW_halveAway 7 = .ok (.if_icmp .ge 21, 3) := by decide +kernel
theorem dW_halveAway_10 : decode cW_halveAway 10 = .ok (.aload_n 0, 1) := by decide +kernel
theorem dW_halveAway_11 : decode cW_halveAway 11 = .ok (.getfield 21, 3) := by decide +kernel
theorem dW_halveAway_14 : decode cW_halveAway 14 = .ok (.ifCond .le 14, 3) := by decide +kernel
theorem dW_halveAway_17 : decode cW_halveAway 17 = .ok (.aload_n 0, 1) := by decide +kernel
theorem dW_halveAway_18 : decode cW_halveAway 18 = .ok (.iconst 2, 1) := by decide +kernel
theorem dW_halveAway_19 : decode cW_halveAway 19 = .ok (.invokevirtual 61, 3) := by decide +kernel
theorem dW_halveAway_22 : decode cW_halveAway 22 = .ok (.iinc 1 1, 3) := by decide +kernel
theorem dW_halveAway_25 : decode cW_halveAway 25 = .ok (.goto (-23), 3) := by decide +kernel
theorem dW_halveAway_28 : decode cW_halveAway 28 = .ok (.iload_n 1, 1) := by decide +kernel
theorem dW_halveAway_29 : decode cW_halveAway 29 = .ok (.ireturn, 1) := by decide +kernel
theorem dM_copy_0 : decode cM_copy 0 = .ok (.iconst 0, 1) := by decide +kernel
theorem dM_copy_1 : decode cM_copy 1 = .ok (.istore_n 2, 1) := by decide +kernel
theorem dM_copy_2 : decode cM_copy 2 = .ok (.iload_n 2, 1) := by decide +kernel
theorem dM_copy_3 : decode cM_copy 3 = .ok (.aload_n 0, 1) := by decide +kernel
theorem dM_copy_4 : decode cM_copy 4 = .ok (.sipush 300, 3) := by decide +kernel
theorem dM_copy_7 : decode cM_copy 7 = .ok (.iaload, 1) := by decide +kernel
theorem dM_copy_8 : decode cM_copy 8 = .ok (.if_icmp .ge 15, 3) := by decide +kernel
theorem dM_copy_11 : decode cM_copy 11 = .ok (.aload_n 1, 1) := by decide +kernel
theorem dM_copy_12 : decode cM_copy 12 = .ok (.iload_n 2, 1) := by decide +kernel
theorem dM_copy_13 : decode cM_copy 13 = .ok (.aload_n 0, 1) := by decide +kernel
theorem dM_copy_14 : decode cM_copy 14 = .ok (.iload_n 2, 1) := by decide +kernel
theorem dM_copy_15 : decode cM_copy 15 = .ok (.iaload, 1) := by decide +kernel
theorem dM_copy_16 : decode cM_copy 16 = .ok (.iastore, 1) := by decide +kernel
theorem dM_copy_17 : decode cM_copy 17 = .ok (.iinc 2 1, 3) := by decide +kernel
theorem dM_copy_20 : decode cM_copy 20 = .ok (.goto (-18), 3) := by decide +kernel
theorem dM_copy_23 : decode cM_copy 23 = .ok (.aload_n 1, 1) := by decide +kernel
theorem dM_copy_24 : decode cM_copy 24 = .ok (.sipush 300, 3) := by decide +kernel
theorem dM_copy_27 : decode cM_copy 27 = .ok (.aload_n 0, 1) := by decide +kernel
theorem dM_copy_28 : decode cM_copy 28 = .ok (.sipush 300, 3) := by decide +kernel
theorem dM_copy_31 : decode cM_copy 31 = .ok (.iaload, 1) := by decide +kernel
theorem dM_copy_32 : decode cM_copy 32 = .ok (.iastore, 1) := by decide +kernel
theorem dM_copy_33 : decode cM_copy 33 = .ok (.aload_n 1, 1) := by decide +kernel
theorem dM_copy_34 : decode cM_copy 34 = .ok (.sipush 301, 3) := by decide +kernel
theorem dM_copy_37 : decode cM_copy 37 = .ok (.aload_n 0, 1) := by decide +kernel
theorem dM_copy_38 : decode cM_copy 38 = .ok (.sipush 301, 3) := by decide +kernel
theorem dM_copy_41 : decode cM_copy 41 = .ok (.iaload, 1) := by decide +kernel
theorem dM_copy_42 : decode cM_copy 42 = .ok (.iastore, 1) := by decide +kernel
theorem dM_copy_43 : decode cM_copy 43 = .ok (.return_, 1) := by decide +kernel
theorem dM_compareSizes_0 : decode cM_compareSizes 0 = .ok (.aload_n 0, 1) := by decide +kernel
theorem dM_compareSizes_1 : decode cM_compareSizes 1 = .ok (.sipush 300, 3) := by decide +kernel
theorem dM_compareSizes_4 : decode cM_compareSizes 4 = .ok (.iaload, 1) := by decide +kernel
theorem dM_compareSizes_5 : decode cM_compareSizes 5 = .ok (.aload_n 1, 1) := by decide +kernel
theorem dM_compareSizes_6 : decode cM_compareSizes 6 = .ok (.sipush 300, 3) := by decide +kernel
theorem dM_compareSizes_9 : decode cM_compareSizes 9 = .ok (.iaload, 1) := by decide +kernel
theorem dM_compareSizes_10 : decode cM_compareSizes 10 = .ok (.if_icmp .eq 22, 3) := by decide +kernel
theorem dM_compareSizes_13 : decode cM_compareSizes 13 = .ok (.aload_n 0, 1) := by decide +kernel
theorem dM_compareSizes_14 : decode cM_compareSizes 14 = .ok (.sipush 300, 3) := by decide +kernel
theorem dM_compareSizes_17 : decode cM_compareSizes 17 = .ok (.iaload, 1) := by decide +kernel
theorem dM_compareSizes_18 : decode cM_compareSizes 18 = .ok (.aload_n 1, 1) := by decide +kernel
theorem dM_compareSizes_19 : decode cM_compareSizes 19 = .ok (.sipush 300, 3) := by decide +kernel
theorem dM_compareSizes_22 : decode cM_compareSizes 22 = .ok (.iaload, 1) := by decide +kernel
theorem dM_compareSizes_23 : decode cM_compareSizes 23 = .ok (.if_icmp .ge 7, 3) := by decide +kernel
theorem dM_compareSizes_26 : decode cM_compareSizes 26 = .ok (.iconst (-1), 1) := by decide +kernel
theorem dM_compareSizes_27 : decode cM_compareSizes 27 = .ok (.goto 4, 3) := by decide +kernel
theorem dM_compareSizes_30 : decode cM_compareSizes 30 = .ok (.iconst 1, 1) := by decide +kernel
theorem dM_compareSizes_31 : decode cM_compareSizes 31 = .ok (.ireturn, 1) := by decide +kernel
theorem dM_compareSizes_32 : decode cM_compareSizes 32 = .ok (.aload_n 0, 1) := by decide +kernel
theorem dM_compareSizes_33 : decode cM_compareSizes 33 = .ok (.sipush 300, 3) := by decide +kernel
theorem dM_compareSizes_36 : decode cM_compareSizes 36 = .ok (.iaload, 1) := by decide +kernel
theorem dM_compareSizes_37 : decode cM_compareSizes 37 = .ok (.iconst 1, 1) := by decide +kernel
theorem dM_compareSizes_38 : decode cM_compareSizes 38 = .ok (.isub, 1) := by decide +kernel
theorem dM_compareSizes_39 : decode cM_compareSizes 39 = .ok (.istore_n 2, 1) := by decide +kernel
theorem dM_compareSizes_40 : decode cM_compareSizes 40 = .ok (.iload_n 2, 1) := by decide +kernel
theorem dM_compareSizes_41 : decode cM_compareSizes 41 = .ok (.ifCond .lt 18, 3) := by decide +kernel
theorem dM_compareSizes_44 : decode cM_compareSizes 44 = .ok (.aload_n 0, 1) := by decide +kernel
theorem dM_compareSizes_45 : decode cM_compareSizes 45 = .ok (.iload_n 2, 1) := by decide +kernel
theorem dM_compareSizes_46 : decode cM_compareSizes 46 = .ok (.iaload, 1) := by decide +kernel
theorem dM_compareSizes_47 : decode cM_compareSizes 47 = .ok (.aload_n 1, 1) := by decide +kernel
theorem dM_compareSizes_48 : decode cM_compareSizes 48 = .ok (.iload_n 2, 1) := by decide +kernel
theorem dM_compareSizes_49 : decode cM_compareSizes 49 = .ok (.iaload, 1) := by decide +kernel
theorem dM_compareSizes_50 : decode cM_compareSizes 50 = .ok (.if_icmp .ne 9, 3) := by decide +kernel
theorem dM_compareSizes_53 : decode cM_compareSizes 53 = .ok (.iinc 2 (-1), 3) := by decide +kernel
theorem dM_compareSizes_56 : decode cM_compareSizes 56 = .ok (.goto (-16), 3) := by decide +kernel
theorem dM_compareSizes_59 : decode cM_compareSizes 59 = .ok (.iload_n 2, 1) := by decide +kernel
theorem dM_compareSizes_60 : decode cM_compareSizes 60 = .ok (.ifCond .ge 7, 3) := by decide +kernel
theorem dM_compareSizes_63 : decode cM_compareSizes 63 = .ok (.iconst 0, 1) := by decide +kernel
theorem dM_compareSizes_64 : decode cM_compareSizes 64 = .ok (.goto 17, 3) := by decide +kernel
theorem dM_compareSizes_67 : decode cM_compareSizes 67 = .ok (.aload_n 0, 1) := by decide +kernel
theorem dM_compareSizes_68 : decode cM_compareSizes 68 = .ok (.iload_n 2, 1) := by decide +kernel
theorem dM_compareSizes_69 : decode cM_compareSizes 69 = .ok (.iaload, 1) := by decide +kernel
theorem dM_compareSizes_70 : decode cM_compareSizes 70 = .ok (.aload_n 1, 1) := by decide +kernel
theorem dM_compareSizes_71 : decode cM_compareSizes 71 = .ok (.iload_n 2, 1) := by decide +kernel
theorem dM_compareSizes_72 : decode cM_compareSizes 72 = .ok (.iaload, 1) := by decide +kernel
theorem dM_compareSizes_73 : decode cM_compareSizes 73 = .ok (.if_icmp .ge 7, 3) := by decide +kernel
theorem dM_compareSizes_76 : decode cM_compareSizes 76 = .ok (.iconst (-1), 1) := by decide +kernel
theorem dM_compareSizes_77 : decode cM_compareSizes 77 = .ok (.goto 4, 3) := by decide +kernel
theorem dM_compareSizes_80 : decode cM_compareSizes 80 = .ok (.iconst 1, 1) := by decide +kernel
theorem dM_compareSizes_81 : decode cM_compareSizes 81 = .ok (.ireturn, 1) := by decide +kernel
