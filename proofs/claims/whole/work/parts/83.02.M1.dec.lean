theorem dM_trim_0 : decode cM_trim 0 = .ok (.iload_n 1, 1) := by decide +kernel
theorem dM_trim_1 : decode cM_trim 1 = .ok (.istore_n 2, 1) := by decide +kernel
theorem dM_trim_2 : decode cM_trim 2 = .ok (.iload_n 2, 1) := by decide +kernel
theorem dM_trim_3 : decode cM_trim 3 = .ok (.ifCond .le 17, 3) := by decide +kernel
theorem dM_trim_6 : decode cM_trim 6 = .ok (.aload_n 0, 1) := by decide +kernel
theorem dM_trim_7 : decode cM_trim 7 = .ok (.iload_n 2, 1) := by decide +kernel
theorem dM_trim_8 : decode cM_trim 8 = .ok (.iconst 1, 1) := by decide +kernel
theorem dM_trim_9 : decode cM_trim 9 = .ok (.isub, 1) := by decide +kernel
theorem dM_trim_10 : decode cM_trim 10 = .ok (.iaload, 1) := by decide +kernel
theorem dM_trim_11 : decode cM_trim 11 = .ok (.ifCond .ne 9, 3) := by decide +kernel
theorem dM_trim_14 : decode cM_trim 14 = .ok (.iinc 2 (-1), 3) := by decide +kernel
theorem dM_trim_17 : decode cM_trim 17 = .ok (.goto (-15), 3) := by decide +kernel
theorem dM_trim_20 : decode cM_trim 20 = .ok (.aload_n 0, 1) := by decide +kernel
theorem dM_trim_21 : decode cM_trim 21 = .ok (.sipush 300, 3) := by decide +kernel
theorem dM_trim_24 : decode cM_trim 24 = .ok (.iload_n 2, 1) := by decide +kernel
theorem dM_trim_25 : decode cM_trim 25 = .ok (.iastore, 1) := by decide +kernel
theorem dM_trim_26 : decode cM_trim 26 = .ok (.aload_n 0, 1) := by decide +kernel
theorem dM_trim_27 : decode cM_trim 27 = .ok (.sipush 301, 3) := by decide +kernel
theorem dM_trim_30 : decode cM_trim 30 = .ok (.iload_n 2, 1) := by decide +kernel
theorem dM_trim_31 : decode cM_trim 31 = .ok (.ifCond .ne 7, 3) := by decide +kernel
theorem dM_trim_34 : decode cM_trim 34 = .ok (.iconst 0, 1) := by decide +kernel
theorem dM_trim_35 : decode cM_trim 35 = .ok (.goto 8, 3) := by decide +kernel
theorem dM_trim_38 : decode cM_trim 38 = .ok (.aload_n 0, 1) := by decide +kernel
theorem dM_trim_39 : decode cM_trim 39 = .ok (.sipush 301, 3) := by decide +kernel
theorem dM_trim_42 : decode cM_trim 42 = .ok (.iaload, 1) := by decide +kernel
theorem dM_trim_43 : decode cM_trim 43 = .ok (.iastore, 1) := by decide +kernel
theorem dM_trim_44 : decode cM_trim 44 = .ok (.return_, 1) := by decide +kernel
theorem dM_rest_0 : decode cM_rest 0 = .ok (.lconst 0, 1) := by decide +kernel
theorem dM_rest_1 : decode cM_rest 1 = .ok (.lstore_n 2, 1) := by decide +kernel
theorem dM_rest_2 : decode cM_rest 2 = .ok (.aload_n 0, 1) := by decide +kernel
theorem dM_rest_3 : decode cM_rest 3 = .ok (.sipush 300, 3) := by decide +kernel
theorem dM_rest_6 : decode cM_rest 6 = .ok (.iaload, 1) := by decide +kernel
theorem dM_rest_7 : decode cM_rest 7 = .ok (.iconst 1, 1) := by decide +kernel
theorem dM_rest_8 : decode cM_rest 8 = .ok (.isub, 1) := by decide +kernel
theorem dM_rest_9 : decode cM_rest 9 = .ok (.istore 4, 2) := by decide +kernel
theorem dM_rest_11 : decode cM_rest 11 = .ok (.iload 4, 2) := by decide +kernel
theorem dM_rest_13 : decode cM_rest 13 = .ok (.ifCond .lt 23, 3) := by decide +kernel
theorem dM_rest_16 : decode cM_rest 16 = .ok (.lload_n 2, 1) := by decide +kernel
theorem dM_rest_17 : decode cM_rest 17 = .ok (.bipush 28, 2) := by decide +kernel
theorem dM_rest_19 : decode cM_rest 19 = .ok (.lshl, 1) := by decide +kernel
theorem dM_rest_20 : decode cM_rest 20 = .ok (.aload_n 0, 1) := by decide +kernel
theorem dM_rest_21 : decode cM_rest 21 = .ok (.iload 4, 2) := by decide +kernel
theorem dM_rest_23 : decode cM_rest 23 = .ok (.iaload, 1) := by decide +kernel
theorem dM_rest_24 : decode cM_rest 24 = .ok (.i2l, 1) := by decide +kernel
theorem dM_rest_25 : decode cM_rest 25 = .ok (.lor, 1) := by decide +kernel
theorem dM_rest_26 : decode cM_rest 26 = .ok (.iload_n 1, 1) := by decide +kernel
theorem dM_rest_27 : decode cM_rest 27 = .ok (.i2l, 1) := by decide +kernel
theorem dM_rest_28 : decode cM_rest 28 = .ok (.lrem, 1) := by decide +kernel
theorem dM_rest_29 : decode cM_rest 29 = .ok (.lstore_n 2, 1) := by decide +kernel
theorem dM_rest_30 : decode cM_rest 30 = .ok (.iinc 4 (-1), 3) := by decide +kernel
theorem dM_rest_33 : decode cM_rest 33 = .ok (.goto (-22), 3) := by decide +kernel
theorem dM_rest_36 : decode cM_rest 36 = .ok (.lload_n 2, 1) := by decide +kernel
theorem dM_rest_37 : decode cM_rest 37 = .ok (.l2i, 1) := by decide +kernel
theorem dM_rest_38 : decode cM_rest 38 = .ok (.ireturn, 1) := by decide +kernel
theorem dM_divide_0 : decode cM_divide 0 = .ok (.lconst 0, 1) := by decide +kernel
theorem dM_divide_1 : decode cM_divide 1 = .ok (.lstore_n 2, 1) := by decide +kernel
theorem dM_divide_2 : decode cM_divide 2 = .ok (.aload_n 0, 1) := by decide +kernel
theorem dM_divide_3 : decode cM_divide 3 = .ok (.sipush 300, 3) := by decide +kernel
theorem dM_divide_6 : decode cM_divide 6 = .ok (.iaload, 1) := by decide +kernel
theorem dM_divide_7 : decode cM_divide 7 = .ok (.iconst 1, 1) := by decide +kernel
theorem dM_divide_8 : decode cM_divide 8 = .ok (.isub, 1) := by decide +kernel
theorem dM_divide_9 : decode cM_divide 9 = .ok (.istore 4, 2) := by decide +kernel
theorem dM_divide_11 : decode cM_divide 11 = .ok (.iload 4, 2) := by decide +kernel
theorem dM_divide_13 : decode cM_divide 13 = .ok (.ifCond .lt 37, 3) := by decide +kernel
theorem dM_divide_16 : decode cM_divide 16 = .ok (.lload_n 2, 1) := by decide +kernel
theorem dM_divide_17 : decode cM_divide 17 = .ok (.bipush 28, 2) := by decide +kernel
theorem dM_divide_19 : decode cM_divide 19 = .ok (.lshl, 1) := by decide +kernel
theorem dM_divide_20 : decode cM_divide 20 = .ok (.aload_n 0, 1) := by decide +kernel
theorem dM_divide_21 : decode cM_divide 21 = .ok (.iload 4, 2) := by decide +kernel
theorem dM_divide_23 : decode cM_divide 23 = .ok (.iaload, 1) := by decide +kernel
theorem dM_divide_24 : decode cM_divide 24 = .ok (.i2l, 1) := by decide +kernel
theorem dM_divide_25 : decode cM_divide 25 = .ok (.lor, 1) := by decide +kernel
theorem dM_divide_26 : decode cM_divide 26 = .ok (.lstore 5, 2) := by decide +kernel
theorem dM_divide_28 : decode cM_divide 28 = .ok (.aload_n 0, 1) := by decide +kernel
theorem dM_divide_29 : decode cM_divide 29 = .ok (.iload 4, 2) := by decide +kernel
theorem dM_divide_31 : decode cM_divide 31 = .ok (.lload 5, 2) := by decide +kernel
theorem dM_divide_33 : decode cM_divide 33 = .ok (.iload_n 1, 1) := by decide +kernel
theorem dM_divide_34 : decode cM_divide 34 = .ok (.i2l, 1) := by decide +kernel
theorem dM_divide_35 : decode cM_divide 35 = .ok (.ldiv, 1) := by decide +kernel
theorem dM_divide_36 : decode cM_divide 36 = .ok (.l2i, 1) := by decide +kernel
theorem dM_divide_37 : decode cM_divide 37 = .ok (.iastore, 1) := by decide +kernel
theorem dM_divide_38 : decode cM_divide 38 = .ok (.lload 5, 2) := by decide +kernel
theorem dM_divide_40 : decode cM_divide 40 = .ok (.iload_n 1, 1) := by decide +kernel
theorem dM_divide_41 : decode cM_divide 41 = .ok (.i2l, 1) := by decide +kernel
theorem dM_divide_42 : decode cM_divide 42 = .ok (.lrem, 1) := by decide +kernel
theorem dM_divide_43 : decode cM_divide 43 = .ok (.lstore_n 2, 1) := by decide +kernel
theorem dM_divide_44 : decode cM_divide 44 = .ok (.iinc 4 (-1), 3) := by decide +kernel
theorem dM_divide_47 : decode cM_divide 47 = .ok (.goto (-36), 3) := by decide +kernel
theorem dM_divide_50 : decode cM_divide 50 = .ok (.aload_n 0, 1) := by decide +kernel
theorem dM_divide_51 : decode cM_divide 51 = .ok (.aload_n 0, 1) := by decide +kernel
theorem dM_divide_52 : decode cM_divide 52 = .ok (.sipush 300, 3) := by decide +kernel
theorem dM_divide_55 : decode cM_divide 55 = .ok (.iaload, 1) := by decide +kernel
theorem dM_divide_56 : decode cM_divide 56 = .ok (.invokestatic 166, 3) := by decide +kernel
theorem dM_divide_59 : decode cM_divide 59 = .ok (.lload_n 2, 1) := by decide +kernel
theorem dM_divide_60 : decode cM_divide 60 = .ok (.l2i, 1) := by decide +kernel
theorem dM_divide_61 : decode cM_divide 61 = .ok (.ireturn, 1) := by decide +kernel
theorem dM_times_0 : decode cM_times 0 = .ok (.lconst 0, 1) := by decide +kernel
theorem dM_times_1 : decode cM_times 1 = .ok (.lstore_n 2, 1) := by decide +kernel
theorem dM_times_2 : decode cM_times 2 = .ok (.aload_n 0, 1) := by decide +kernel
theorem dM_times_3 : decode cM_times 3 = .ok (.sipush 300, 3) := by decide +kernel
theorem dM_times_6 : decode cM_times 6 = .ok (.iaload, 1) := by decide +kernel
theorem dM_times_7 : decode cM_times 7 = .ok (.istore 4, 2) := by decide +kernel
theorem dM_times_9 : decode cM_times 9 = .ok (.iconst 0, 1) := by decide +kernel
theorem dM_times_10 : decode cM_times 10 = .ok (.istore 5, 2) := by decide +kernel
theorem dM_times_12 : decode cM_times 12 = .ok (.iload 5, 2) := by decide +kernel
theorem dM_times_14 : decode cM_times 14 = .ok (.iload 4, 2) := by decide +kernel
theorem dM_times_16 : decode cM_times 16 = .ok (.if_icmp .ge 38, 3) := by decide +kernel
theorem dM_times_19 : decode cM_times 19 = .ok (.aload_n 0, 1) := by decide +kernel
theorem dM_times_20 : decode cM_times 20 = .ok (.iload 5, 2) := by decide +kernel
theorem dM_times_22 : decode cM_times 22 = .ok (.iaload, 1) := by decide +kernel
theorem dM_times_23 : decode cM_times 23 = .ok (.i2l, 1) := by decide +kernel
theorem dM_times_24 : decode cM_times 24 = .ok (.iload_n 1, 1) := by decide +kernel
theorem dM_times_25 : decode cM_times 25 = .ok (.i2l, 1) := by decide +kernel
theorem dM_times_26 : decode cM_times 26 = .ok (.lmul, 1) := by decide +kernel
theorem dM_times_27 : decode cM_times 27 = .ok (.lload_n 2, 1) := by decide +kernel
theorem dM_times_28 : decode cM_times 28 = .ok (.ladd, 1) := by decide +kernel
theorem dM_times_29 : decode cM_times 29 = .ok (.lstore 6, 2) := by decide +kernel
theorem dM_times_31 : decode cM_times 31 = .ok (.aload_n 0, 1) := by decide +kernel
theorem dM_times_32 : decode cM_times 32 = .ok (.iload 5, 2) := by decide +kernel
theorem dM_times_34 : decode cM_times 34 = .ok (.lload 6, 2) := by decide +kernel
theorem dM_times_36 : decode cM_times 36 = .ok (.ldc2_w 148, 3) := by decide +kernel
theorem dM_times_39 : decode cM_times 39 = .ok (.land, 1) := by decide +kernel
theorem dM_times_40 : decode cM_times 40 = .ok (.l2i, 1) := by decide +kernel
theorem dM_times_41 : decode cM_times 41 = .ok (.iastore, 1) := by decide +kernel
theorem dM_times_42 : decode cM_times 42 = .ok (.lload 6, 2) := by decide +kernel
theorem dM_times_44 : decode cM_times 44 = .ok (.bipush 28, 2) := by decide +kernel
theorem dM_times_46 : decode cM_times 46 = .ok (.lshr, 1) := by decide +kernel
theorem dM_times_47 : decode cM_times 47 = .ok (.lstore_n 2, 1) := by decide +kernel
theorem dM_times_48 : decode cM_times 48 = .ok (.iinc 5 1, 3) := by decide +kernel
theorem dM_times_51 : decode cM_times 51 = .ok (.goto (-39), 3) := by decide +kernel
theorem dM_times_54 : decode cM_times 54 = .ok (.lload_n 2, 1) := by decide +kernel
theorem dM_times_55 : decode cM_times 55 = .ok (.lconst 0, 1) := by decide +kernel
theorem dM_times_56 : decode cM_times 56 = .ok (.lcmp, 1) := by decide +kernel
theorem dM_times_57 : decode cM_times 57 = .ok (.ifCond .le 24, 3) := by decide +kernel
theorem dM_times_60 : decode cM_times 60 = .ok (.aload_n 0, 1) := by decide +kernel
theorem dM_times_61 : decode cM_times 61 = .ok (.iload 4, 2) := by decide +kernel
theorem dM_times_63 : decode cM_times 63 = .ok (.lload_n 2, 1) := by decide +kernel
theorem dM_times_64 : decode cM_times 64 = .ok (.ldc2_w 148, 3) := by decide +kernel
theorem dM_times_67 : decode cM_times 67 = .ok (.land, 1) := by decide +kernel
theorem dM_times_68 : decode cM_times 68 = .ok (.l2i, 1) := by decide +kernel
theorem dM_times_69 : decode cM_times 69 = .ok (.iastore, 1) := by decide +kernel
theorem dM_times_70 : decode cM_times 70 = .ok (.lload_n 2, 1) := by decide +kernel
theorem dM_times_71 : decode cM_times 71 = .ok (.bipush 28, 2) := by decide +kernel
theorem dM_times_73 : decode cM_times 73 = .ok (.lshr, 1) := by decide +kernel
theorem dM_times_74 : decode cM_times 74 = .ok (.lstore_n 2, 1) := by decide +kernel
theorem dM_times_75 : decode cM_times 75 = .ok (.iinc 4 1, 3) := by decide +kernel
theorem dM_times_78 : decode cM_times 78 = .ok (.goto (-24), 3) := by decide +kernel
theorem dM_times_81 : decode cM_times 81 = .ok (.aload_n 0, 1) := by decide +kernel
theorem dM_times_82 : decode cM_times 82 = .ok (.iload 4, 2) := by decide +kernel
theorem dM_times_84 : decode cM_times 84 = .ok (.invokestatic 166, 3) := by decide +kernel
theorem dM_times_87 : decode cM_times 87 = .ok (.return_, 1) := by decide +kernel
