theorem dM_setInt_0 : decode cM_setInt 0 = .ok (.lload_n 1, 1) := by decide +kernel
theorem dM_setInt_1 : decode cM_setInt 1 = .ok (.lconst 0, 1) := by decide +kernel
theorem dM_setInt_2 : decode cM_setInt 2 = .ok (.lcmp, 1) := by decide +kernel
theorem dM_setInt_3 : decode cM_setInt 3 = .ok (.ifCond .ge 8, 3) := by decide +kernel
theorem dM_setInt_6 : decode cM_setInt 6 = .ok (.lload_n 1, 1) := by decide +kernel
theorem dM_setInt_7 : decode cM_setInt 7 = .ok (.lneg, 1) := by decide +kernel
theorem dM_setInt_8 : decode cM_setInt 8 = .ok (.goto 4, 3) := by decide +kernel
theorem dM_setInt_11 : decode cM_setInt 11 = .ok (.lload_n 1, 1) := by decide +kernel
theorem dM_setInt_12 : decode cM_setInt 12 = .ok (.lstore_n 3, 1) := by decide +kernel
theorem dM_setInt_13 : decode cM_setInt 13 = .ok (.iconst 0, 1) := by decide +kernel
theorem dM_setInt_14 : decode cM_setInt 14 = .ok (.istore 5, 2) := by decide +kernel
theorem dM_setInt_16 : decode cM_setInt 16 = .ok (.lload_n 3, 1) := by decide +kernel
theorem dM_setInt_17 : decode cM_setInt 17 = .ok (.lconst 0, 1) := by decide +kernel
theorem dM_setInt_18 : decode cM_setInt 18 = .ok (.lcmp, 1) := by decide +kernel
theorem dM_setInt_19 : decode cM_setInt 19 = .ok (.ifCond .le 24, 3) := by decide +kernel
theorem dM_setInt_22 : decode cM_setInt 22 = .ok (.aload_n 0, 1) := by decide +kernel
theorem dM_setInt_23 : decode cM_setInt 23 = .ok (.iload 5, 2) := by decide +kernel
theorem dM_setInt_25 : decode cM_setInt 25 = .ok (.lload_n 3, 1) := by decide +kernel
theorem dM_setInt_26 : decode cM_setInt 26 = .ok (.ldc2_w 148, 3) := by decide +kernel
theorem dM_setInt_29 : decode cM_setInt 29 = .ok (.land, 1) := by decide +kernel
theorem dM_setInt_30 : decode cM_setInt 30 = .ok (.l2i, 1) := by decide +kernel
theorem dM_setInt_31 : decode cM_setInt 31 = .ok (.iastore, 1) := by decide +kernel
theorem dM_setInt_32 : decode cM_setInt 32 = .ok (.lload_n 3, 1) := by decide +kernel
theorem dM_setInt_33 : decode cM_setInt 33 = .ok (.bipush 28, 2) := by decide +kernel
theorem dM_setInt_35 : decode cM_setInt 35 = .ok (.lshr, 1) := by decide +kernel
theorem dM_setInt_36 : decode cM_setInt 36 = .ok (.lstore_n 3, 1) := by decide +kernel
theorem dM_setInt_37 : decode cM_setInt 37 = .ok (.iinc 5 1, 3) := by decide +kernel
theorem dM_setInt_40 : decode cM_setInt 40 = .ok (.goto (-24), 3) := by decide +kernel
theorem dM_setInt_43 : decode cM_setInt 43 = .ok (.aload_n 0, 1) := by decide +kernel
theorem dM_setInt_44 : decode cM_setInt 44 = .ok (.sipush 300, 3) := by decide +kernel
theorem dM_setInt_47 : decode cM_setInt 47 = .ok (.iload 5, 2) := by decide +kernel
theorem dM_setInt_49 : decode cM_setInt 49 = .ok (.iastore, 1) := by decide +kernel
theorem dM_setInt_50 : decode cM_setInt 50 = .ok (.aload_n 0, 1) := by decide +kernel
theorem dM_setInt_51 : decode cM_setInt 51 = .ok (.sipush 301, 3) := by decide +kernel
theorem dM_setInt_54 : decode cM_setInt 54 = .ok (.lload_n 1, 1) := by decide +kernel
theorem dM_setInt_55 : decode cM_setInt 55 = .ok (.lconst 0, 1) := by decide +kernel
theorem dM_setInt_56 : decode cM_setInt 56 = .ok (.lcmp, 1) := by decide +kernel
theorem dM_setInt_57 : decode cM_setInt 57 = .ok (.ifCond .ge 7, 3) := by decide +kernel
theorem dM_setInt_60 : decode cM_setInt 60 = .ok (.iconst (-1), 1) := by decide +kernel
theorem dM_setInt_61 : decode cM_setInt 61 = .ok (.goto 14, 3) := by decide +kernel
theorem dM_setInt_64 : decode cM_setInt 64 = .ok (.lload_n 1, 1) := by decide +kernel
theorem dM_setInt_65 : decode cM_setInt 65 = .ok (.lconst 0, 1) := by decide +kernel
theorem dM_setInt_66 : decode cM_setInt 66 = .ok (.lcmp, 1) := by decide +kernel
theorem dM_setInt_67 : decode cM_setInt 67 = .ok (.ifCond .le 7, 3) := by decide +kernel
theorem dM_setInt_70 : decode cM_setInt 70 = .ok (.iconst 1, 1) := by decide +kernel
theorem dM_setInt_71 : decode cM_setInt 71 = .ok (.goto 4, 3) := by decide +kernel
theorem dM_setInt_74 : decode cM_setInt 74 = .ok (.iconst 0, 1) := by decide +kernel
theorem dM_setInt_75 : decode cM_setInt 75 = .ok (.iastore, 1) := by decide +kernel
theorem dM_setInt_76 : decode cM_setInt 76 = .ok (.return_, 1) := by decide +kernel
theorem dM_zero_0 : decode cM_zero 0 = .ok (.iconst 0, 1) := by decide +kernel
theorem dM_zero_1 : decode cM_zero 1 = .ok (.istore_n 1, 1) := by decide +kernel
theorem dM_zero_2 : decode cM_zero 2 = .ok (.iload_n 1, 1) := by decide +kernel
theorem dM_zero_3 : decode cM_zero 3 = .ok (.bipush 19, 2) := by decide +kernel
theorem dM_zero_5 : decode cM_zero 5 = .ok (.if_icmp .ge 13, 3) := by decide +kernel
theorem dM_zero_8 : decode cM_zero 8 = .ok (.aload_n 0, 1) := by decide +kernel
theorem dM_zero_9 : decode cM_zero 9 = .ok (.iload_n 1, 1) := by decide +kernel
theorem dM_zero_10 : decode cM_zero 10 = .ok (.iconst 0, 1) := by decide +kernel
theorem dM_zero_11 : decode cM_zero 11 = .ok (.iastore, 1) := by decide +kernel
theorem dM_zero_12 : decode cM_zero 12 = .ok (.iinc 1 1, 3) := by decide +kernel
theorem dM_zero_15 : decode cM_zero 15 = .ok (.goto (-13), 3) := by decide +kernel
theorem dM_zero_18 : decode cM_zero 18 = .ok (.return_, 1) := by decide +kernel
theorem dM_trim_0 : decode cM_trim 0 = .ok (.iload_n 1, 1) := by decide +kernel
theorem dM_trim_1 : decode cM_trim 1 = .ok (.istore_n 2, 1) := by decide +kernel
theorem dM_trim_2 : decode cM_trim 2 = .ok (.iload_n 2, 1) := by decide +kernel
theorem dM_trim_3 : decode cM_trim 3 = .ok (.ifCond .le 17, 3) := by decide +kernel
theorem dM_trim_6 : decode cM_trim 6 = .ok (.aload_n 0, 1) := by decide +kernel
theorem dM_trim_7 : decode cM_trim 7 = .ok (.iload_n 2, 1) := by decide +kernel
theorem dM_trim_8 : decode cM_trim 8 = .ok (.iconst 1, 1) := by decide +kernel
theorem dM_trim_9 : decode cM_trim 9 = .ok (.isub, 1) := by decide +kernel
theorem dM_trim_10 : decode cM_trim 10 = .ok (.iaload, 1) := by decide +kernel
theorem dM_trim_11 : decode cM_trim 11 = .ok (.ifCond .ne 9, 3) := by decide +kernel
theorem dM_trim_14 : decode cM_trim 14 = .ok (.iinc 2 (-1), 3) := by decide +kernel
theorem dM_trim_17 : decode cM_trim 17 = .ok (.goto (-15), 3) := by decide +kernel
theorem dM_trim_20 : decode cM_trim 20 = .ok (.aload_n 0, 1) := by decide +kernel
theorem dM_trim_21 : decode cM_trim 21 = .ok (.sipush 300, 3) := by decide +kernel
theorem dM_trim_24 : decode cM_trim 24 = .ok (.iload_n 2, 1) := by decide +kernel
theorem dM_trim_25 : decode cM_trim 25 = .ok (.iastore, 1) := by decide +kernel
theorem dM_trim_26 : decode cM_trim 26 = .ok (.aload_n 0, 1) := by decide +kernel
theorem dM_trim_27 : decode cM_trim 27 = .ok (.sipush 301, 3) := by decide +kernel
theorem dM_trim_30 : decode cM_trim 30 = .ok (.iload_n 2, 1) := by decide +kernel
theorem dM_trim_31 : decode cM_trim 31 = .ok (.ifCond .ne 7, 3) := by decide +kernel
theorem dM_trim_34 : decode cM_trim 34 = .ok (.iconst 0, 1) := by decide +kernel
theorem dM_trim_35 : decode cM_trim 35 = .ok (.goto 8, 3) := by decide +kernel
theorem dM_trim_38 : decode cM_trim 38 = .ok (.aload_n 0, 1) := by decide +kernel
theorem dM_trim_39 : decode cM_trim 39 = .ok (.sipush 301, 3) := by decide +kernel
theorem dM_trim_42 : decode cM_trim 42 = .ok (.iaload, 1) := by decide +kernel
theorem dM_trim_43 : decode cM_trim 43 = .ok (.iastore, 1) := by decide +kernel
theorem dM_trim_44 : decode cM_trim 44 = .ok (.return_, 1) := by decide +kernel
theorem dM_divide_0 : decode cM_divide 0 = .ok (.lconst 0, 1) := by decide +kernel
theorem dM_divide_1 : decode cM_divide 1 = .ok (.lstore_n 2, 1) := by decide +kernel
theorem dM_divide_2 : decode cM_divide 2 = .ok (.aload_n 0, 1) := by decide +kernel
theorem dM_divide_3 : decode cM_divide 3 = .ok (.sipush 300, 3) := by decide +kernel
theorem dM_divide_6 : decode cM_divide 6 = .ok (.iaload, 1) := by decide +kernel
theorem dM_divide_7 : decode cM_divide 7 = .ok (.iconst 1, 1) := by decide +kernel
theorem dM_divide_8 : decode cM_divide 8 = .ok (.isub, 1) := by decide +kernel
theorem dM_divide_9 : decode cM_divide 9 = .ok (.istore 4, 2) := by decide +kernel
theorem dM_divide_11 : decode cM_divide 11 = .ok (.iload 4, 2) := by decide +kernel
theorem dM_divide_13 : decode cM_divide 13 = .ok (.ifCond .lt 37, 3) := by decide +kernel
theorem dM_divide_16 : decode cM_divide 16 = .ok (.lload_n 2, 1) := by decide +kernel
theorem dM_divide_17 : decode cM_divide 17 = .ok (.bipush 28, 2) := by decide +kernel
theorem dM_divide_19 : decode cM_divide 19 = .ok (.lshl, 1) := by decide +kernel
theorem dM_divide_20 : decode cM_divide 20 = .ok (.aload_n 0, 1) := by decide +kernel
theorem dM_divide_21 : decode cM_divide 21 = .ok (.iload 4, 2) := by decide +kernel
theorem dM_divide_23 : decode cM_divide 23 = .ok (.iaload, 1) := by decide +kernel
theorem dM_divide_24 : decode cM_divide 24 = .ok (.i2l, 1) := by decide +kernel
theorem dM_divide_25 : decode cM_divide 25 = .ok (.lor, 1) := by decide +kernel
theorem dM_divide_26 : decode cM_divide 26 = .ok (.lstore 5, 2) := by decide +kernel
theorem dM_divide_28 : decode cM_divide 28 = .ok (.aload_n 0, 1) := by decide +kernel
theorem dM_divide_29 : decode cM_divide 29 = .ok (.iload 4, 2) := by decide +kernel
theorem dM_divide_31 : decode cM_divide 31 = .ok (.lload 5, 2) := by decide +kernel
theorem dM_divide_33 : decode cM_divide 33 = .ok (.iload_n 1, 1) := by decide +kernel
theorem dM_divide_34 : decode cM_divide 34 = .ok (.i2l, 1) := by decide +kernel
theorem dM_divide_35 : decode cM_divide 35 = .ok (.ldiv, 1) := by decide +kernel
theorem dM_divide_36 : decode cM_divide 36 = .ok (.l2i, 1) := by decide +kernel
theorem dM_divide_37 : decode cM_divide 37 = .ok (.iastore, 1) := by decide +kernel
theorem dM_divide_38 : decode cM_divide 38 = .ok (.lload 5, 2) := by decide +kernel
theorem dM_divide_40 : decode cM_divide 40 = .ok (.iload_n 1, 1) := by decide +kernel
theorem dM_divide_41 : decode cM_divide 41 = .ok (.i2l, 1) := by decide +kernel
theorem dM_divide_42 : decode cM_divide 42 = .ok (.lrem, 1) := by decide +kernel
theorem dM_divide_43 : decode cM_divide 43 = .ok (.lstore_n 2, 1) := by decide +kernel
theorem dM_divide_44 : decode cM_divide 44 = .ok (.iinc 4 (-1), 3) := by decide +kernel
theorem dM_divide_47 : decode cM_divide 47 = .ok (.goto (-36), 3) := by decide +kernel
theorem dM_divide_50 : decode cM_divide 50 = .ok (.aload_n 0, 1) := by decide +kernel
theorem dM_divide_51 : decode cM_divide 51 = .ok (.aload_n 0, 1) := by decide +kernel
theorem dM_divide_52 : decode cM_divide 52 = .ok (.sipush 300, 3) := by decide +kernel
theorem dM_divide_55 : decode cM_divide 55 = .ok (.iaload, 1) := by decide +kernel
theorem dM_divide_56 : decode cM_divide 56 = .ok (.invokestatic 166, 3) := by decide +kernel
theorem dM_divide_59 : decode cM_divide 59 = .ok (.lload_n 2, 1) := by decide +kernel
theorem dM_divide_60 : decode cM_divide 60 = .ok (.l2i, 1) := by decide +kernel
theorem dM_divide_61 : decode cM_divide 61 = .ok (.ireturn, 1) := by decide +kernel
theorem dM_copy_0 : decode cM_copy 0 = .ok (.iconst 0, 1) := by decide +kernel
theorem dM_copy_1 : decode cM_copy 1 = .ok (.istore_n 2, 1) := by decide +kernel
theorem dM_copy_2 : decode cM_copy 2 = .ok (.iload_n 2, 1) := by decide +kernel
theorem dM_copy_3 : decode cM_copy 3 = .ok (.aload_n 0, 1) := by decide +kernel
theorem dM_copy_4 : decode cM_copy 4 = .ok (.sipush 300, 3) := by decide +kernel
theorem dM_copy_7 : decode cM_copy 7 = .ok (.iaload, 1) := by decide +kernel
theorem dM_copy_8 : decode cM_copy 8 = .ok (.if_icmp .ge 15, 3) := by decide +kernel
theorem dM_copy_11 : decode cM_copy 11 = .ok (.aload_n 1, 1) := by decide +kernel
theorem dM_copy_12 : decode cM_copy 12 = .ok (.iload_n 2, 1) := by decide +kernel
theorem dM_copy_13 : decode cM_copy 13 = .ok (.aload_n 0, 1) := by decide +kernel
theorem dM_copy_14 : decode cM_copy 14 = .ok (.iload_n 2, 1) := by decide +kernel
theorem dM_copy_15 : decode cM_copy 15 = .ok (.iaload, 1) := by decide +kernel
theorem dM_copy_16 : decode cM_copy 16 = .ok (.iastore, 1) := by decide +kernel
theorem dM_copy_17 : decode cM_copy 17 = .ok (.iinc 2 1, 3) := by decide +kernel
theorem dM_copy_20 : decode cM_copy 20 = .ok (.goto (-18), 3) := by decide +kernel
theorem dM_copy_23 : decode cM_copy 23 = .ok (.aload_n 1, 1) := by decide +kernel
theorem dM_copy_24 : decode cM_copy 24 = .ok (.sipush 300, 3) := by decide +kernel
theorem dM_copy_27 : decode cM_copy 27 = .ok (.aload_n 0, 1) := by decide +kernel
theorem dM_copy_28 : decode cM_copy 28 = .ok (.sipush 300, 3) := by decide +kernel
theorem dM_copy_31 : decode cM_copy 31 = .ok (.iaload, 1) := by decide +kernel
theorem dM_copy_32 : decode cM_copy 32 = .ok (.iastore, 1) := by decide +kernel
theorem dM_copy_33 : decode cM_copy 33 = .ok (.aload_n 1, 1) := by decide +kernel
theorem dM_copy_34 : decode cM_copy 34 = .ok (.sipush 301, 3) := by decide +kernel
theorem dM_copy_37 : decode cM_copy 37 = .ok (.aload_n 0, 1) := by decide +kernel
theorem dM_copy_38 : decode cM_copy 38 = .ok (.sipush 301, 3) := by decide +kernel
theorem dM_copy_41 : decode cM_copy 41 = .ok (.iaload, 1) := by decide +kernel
theorem dM_copy_42 : decode cM_copy 42 = .ok (.iastore, 1) := by decide +kernel
theorem dM_copy_43 : decode cM_copy 43 = .ok (.return_, 1) := by decide +kernel
theorem dM_storeLows_0 : decode cM_storeLows 0 = .ok (.iconst 0, 1) := by decide +kernel
theorem dM_storeLows_1 : decode cM_storeLows 1 = .ok (.istore_n 3, 1) := by decide +kernel
theorem dM_storeLows_2 : decode cM_storeLows 2 = .ok (.iload_n 3, 1) := by decide +kernel
theorem dM_storeLows_3 : decode cM_storeLows 3 = .ok (.bipush 19, 2) := by decide +kernel
theorem dM_storeLows_5 : decode cM_storeLows 5 = .ok (.if_icmp .ge 17, 3) := by decide +kernel
theorem dM_storeLows_8 : decode cM_storeLows 8 = .ok (.aload_n 1, 1) := by decide +kernel
theorem dM_storeLows_9 : decode cM_storeLows 9 = .ok (.iload_n 2, 1) := by decide +kernel
theorem dM_storeLows_10 : decode cM_storeLows 10 = .ok (.iload_n 3, 1) := by decide +kernel
theorem dM_storeLows_11 : decode cM_storeLows 11 = .ok (.iadd, 1) := by decide +kernel
theorem dM_storeLows_12 : decode cM_storeLows 12 = .ok (.aload_n 0, 1) := by decide +kernel
theorem dM_storeLows_13 : decode cM_storeLows 13 = .ok (.iload_n 3, 1) := by decide +kernel
theorem dM_storeLows_14 : decode cM_storeLows 14 = .ok (.iaload, 1) := by decide +kernel
theorem dM_storeLows_15 : decode cM_storeLows 15 = .ok (.iastore, 1) := by decide +kernel
theorem dM_storeLows_16 : decode cM_storeLows 16 = .ok (.iinc 3 1, 3) := by decide +kernel
theorem dM_storeLows_19 : decode cM_storeLows 19 = .ok (.goto (-17), 3) := by decide +kernel
theorem dM_storeLows_22 : decode cM_storeLows 22 = .ok (.return_, 1) := by decide +kernel
theorem dM_raise_0 : decode cM_raise 0 = .ok (.iconst 0, 1) := by decide +kernel
theorem dM_raise_1 : decode cM_raise 1 = .ok (.istore 4, 2) := by decide +kernel
theorem dM_raise_3 : decode cM_raise 3 = .ok (.iload 4, 2) := by decide +kernel
theorem dM_raise_5 : decode cM_raise 5 = .ok (.bipush 19, 2) := by decide +kernel
theorem dM_raise_7 : decode cM_raise 7 = .ok (.if_icmp .ge 42, 3) := by decide +kernel
theorem dM_raise_10 : decode cM_raise 10 = .ok (.aload_n 2, 1) := by decide +kernel
theorem dM_raise_11 : decode cM_raise 11 = .ok (.iload 4, 2) := by decide +kernel
theorem dM_raise_13 : decode cM_raise 13 = .ok (.iaload, 1) := by decide +kernel
theorem dM_raise_14 : decode cM_raise 14 = .ok (.aload_n 3, 1) := by decide +kernel
theorem dM_raise_15 : decode cM_raise 15 = .ok (.iload 4, 2) := by decide +kernel
theorem dM_raise_17 : decode cM_raise 17 = .ok (.iaload, 1) := by decide +kernel
theorem dM_raise_18 : decode cM_raise 18 = .ok (.if_icmp .ge 25, 3) := by decide +kernel
theorem dM_raise_21 : decode cM_raise 21 = .ok (.aload_n 1, 1) := by decide +kernel
theorem dM_raise_22 : decode cM_raise 22 = .ok (.aload_n 0, 1) := by decide +kernel
theorem dM_raise_23 : decode cM_raise 23 = .ok (.getfield 7, 3) := by decide +kernel
theorem dM_raise_26 : decode cM_raise 26 = .ok (.iload 4, 2) := by decide +kernel
theorem dM_raise_28 : decode cM_raise 28 = .ok (.iaload, 1) := by decide +kernel
theorem dM_raise_29 : decode cM_raise 29 = .ok (.invokestatic 177, 3) := by decide +kernel
theorem dM_raise_32 : decode cM_raise 32 = .ok (.aload_n 2, 1) := by decide +kernel
theorem dM_raise_33 : decode cM_raise 33 = .ok (.iload 4, 2) := by decide +kernel
theorem dM_raise_35 : decode cM_raise 35 = .ok (.dup2, 1) := by decide +kernel
theorem dM_raise_36 : decode cM_raise 36 = .ok (.iaload, 1) := by decide +kernel
theorem dM_raise_37 : decode cM_raise 37 = .ok (.iconst 1, 1) := by decide +kernel
theorem dM_raise_38 : decode cM_raise 38 = .ok (.iadd, 1) := by decide +kernel
theorem dM_raise_39 : decode cM_raise 39 = .ok (.iastore, 1) := by decide +kernel
theorem dM_raise_40 : decode cM_raise 40 = .ok (.goto (-30), 3) := by decide +kernel
theorem dM_raise_43 : decode cM_raise 43 = .ok (.iinc 4 1, 3) := by decide +kernel
theorem dM_raise_46 : decode cM_raise 46 = .ok (.goto (-43), 3) := by decide +kernel
theorem dM_raise_49 : decode cM_raise 49 = .ok (.return_, 1) := by decide +kernel
theorem dM_writeDigits_0 : decode cM_writeDigits 0 = .ok (.iconst 0, 1) := by decide +kernel
theorem dM_writeDigits_1 : decode cM_writeDigits 1 = .ok (.istore_n 2, 1) := by decide +kernel
theorem dM_writeDigits_2 : decode cM_writeDigits 2 = .ok (.aload_n 1, 1) := by decide +kernel
theorem dM_writeDigits_3 : decode cM_writeDigits 3 = .ok (.sipush 300, 3) := by decide +kernel
theorem dM_writeDigits_6 : decode cM_writeDigits 6 = .ok (.iaload, 1) := by decide +kernel
theorem dM_writeDigits_7 : decode cM_writeDigits 7 = .ok (.ifCond .gt 7, 3) := by decide +kernel
theorem dM_writeDigits_10 : decode cM_writeDigits 10 = .ok (.iload_n 2, 1) := by decide +kernel
theorem dM_writeDigits_11 : decode cM_writeDigits 11 = .ok (.ifCond .ne 51, 3) := by decide +kernel
theorem dM_writeDigits_14 : decode cM_writeDigits 14 = .ok (.aload_n 1, 1) := by decide +kernel
theorem dM_writeDigits_15 : decode cM_writeDigits 15 = .ok (.sipush 10000, 3) := by decide +kernel
theorem dM_writeDigits_18 : decode cM_writeDigits 18 = .ok (.invokestatic 174, 3) := by decide +kernel
theorem dM_writeDigits_21 : decode cM_writeDigits 21 = .ok (.istore_n 3, 1) := by decide +kernel
theorem dM_writeDigits_22 : decode cM_writeDigits 22 = .ok (.iconst 0, 1) := by decide +kernel
theorem dM_writeDigits_23 : decode cM_writeDigits 23 = .ok (.istore 4, 2) := by decide +kernel
theorem dM_writeDigits_25 : decode cM_writeDigits 25 = .ok (.iload 4, 2) := by decide +kernel
theorem dM_writeDigits_27 : decode cM_writeDigits 27 = .ok (.iconst 4, 1) := by decide +kernel
theorem dM_writeDigits_28 : decode cM_writeDigits 28 = .ok (.if_icmp .ge 31, 3) := by decide +kernel
theorem dM_writeDigits_31 : decode cM_writeDigits 31 = .ok (.aload_n 0, 1) := by decide +kernel
theorem dM_writeDigits_32 : decode cM_writeDigits 32 = .ok (.getfield 124, 3) := by decide +kernel
theorem dM_writeDigits_35 : decode cM_writeDigits 35 = .ok (.iload_n 2, 1) := by decide +kernel
theorem dM_writeDigits_36 : decode cM_writeDigits 36 = .ok (.bipush 48, 2) := by decide +kernel
theorem dM_writeDigits_38 : decode cM_writeDigits 38 = .ok (.iload_n 3, 1) := by decide +kernel
theorem dM_writeDigits_39 : decode cM_writeDigits 39 = .ok (.bipush 10, 2) := by decide +kernel
theorem dM_writeDigits_41 : decode cM_writeDigits 41 = .ok (.irem, 1) := by decide +kernel
theorem dM_writeDigits_42 : decode cM_writeDigits 42 = .ok (.iadd, 1) := by decide +kernel
theorem dM_writeDigits_43 : decode cM_writeDigits 43 = .ok (.i2b, 1) := by decide +kernel
theorem dM_writeDigits_44 : decode cM_writeDigits 44 = .ok (.bastore, 1) := by decide +kernel
theorem dM_writeDigits_45 : decode cM_writeDigits 45 = .ok (.iload_n 3, 1) := by decide +kernel
theorem dM_writeDigits_46 : decode cM_writeDigits 46 = .ok (.bipush 10, 2) := by decide +kernel
theorem dM_writeDigits_48 : decode cM_writeDigits 48 = .ok (.idiv, 1) := by decide +kernel
theorem dM_writeDigits_49 : decode cM_writeDigits 49 = .ok (.istore_n 3, 1) := by decide +kernel
theorem dM_writeDigits_50 : decode cM_writeDigits 50 = .ok (.iinc 2 1, 3) := by decide +kernel
theorem dM_writeDigits_53 : decode cM_writeDigits 53 = .ok (.iinc 4 1, 3) := by decide +kernel
theorem dM_writeDigits_56 : decode cM_writeDigits 56 = .ok (.goto (-31), 3) := by decide +kernel
theorem dM_writeDigits_59 : decode cM_writeDigits 59 = .ok (.goto (-57), 3) := by decide +kernel
theorem dM_writeDigits_62 : decode cM_writeDigits 62 = .ok (.iload_n 2, 1) := by decide +kernel
theorem dM_writeDigits_63 : decode cM_writeDigits 63 = .ok (.iconst 1, 1) := by decide +kernel
theorem dM_writeDigits_64 : decode cM_writeDigits 64 = .ok (.if_icmp .le 22, 3) := by decide +kernel
theorem dM_writeDigits_67 : decode cM_writeDigits 67 = .ok (.aload_n 0, 1) := by decide +kernel
theorem dM_writeDigits_68 : decode cM_writeDigits 68 = .ok (.getfield 124, 3) := by decide +kernel
theorem dM_writeDigits_71 : decode cM_writeDigits 71 = .ok (.iload_n 2, 1) := by decide +kernel
theorem dM_writeDigits_72 : decode cM_writeDigits 72 = .ok (.iconst 1, 1) := by decide +kernel
theorem dM_writeDigits_73 : decode cM_writeDigits 73 = .ok (.isub, 1) := by decide +kernel
theorem dM_writeDigits_74 : decode cM_writeDigits 74 = .ok (.baload, 1) := by decide +kernel
theorem dM_writeDigits_75 : decode cM_writeDigits 75 = .ok (.bipush 48, 2) := by decide +kernel
theorem dM_writeDigits_77 : decode cM_writeDigits 77 = .ok (.if_icmp .ne 9, 3) := by decide +kernel
theorem dM_writeDigits_80 : decode cM_writeDigits 80 = .ok (.iinc 2 (-1), 3) := by decide +kernel
theorem dM_writeDigits_83 : decode cM_writeDigits 83 = .ok (.goto (-21), 3) := by decide +kernel
theorem dM_writeDigits_86 : decode cM_writeDigits 86 = .ok (.iload_n 2, 1) := by decide +kernel
theorem dM_writeDigits_87 : decode cM_writeDigits 87 = .ok (.iconst 1, 1) := by decide +kernel
theorem dM_writeDigits_88 : decode cM_writeDigits 88 = .ok (.isub, 1) := by decide +kernel
theorem dM_writeDigits_89 : decode cM_writeDigits 89 = .ok (.istore_n 3, 1) := by decide +kernel
theorem dM_writeDigits_90 : decode cM_writeDigits 90 = .ok (.iload_n 3, 1) := by decide +kernel
theorem dM_writeDigits_91 : decode cM_writeDigits 91 = .ok (.ifCond .lt 34, 3) := by decide +kernel
theorem dM_writeDigits_94 : decode cM_writeDigits 94 = .ok (.aload_n 0, 1) := by decide +kernel
theorem dM_writeDigits_95 : decode cM_writeDigits 95 = .ok (.getfield 120, 3) := by decide +kernel
theorem dM_writeDigits_98 : decode cM_writeDigits 98 = .ok (.aload_n 0, 1) := by decide +kernel
theorem dM_writeDigits_99 : decode cM_writeDigits 99 = .ok (.getfield 199, 3) := by decide +kernel
theorem dM_writeDigits_102 : decode cM_writeDigits 102 = .ok (.aload_n 0, 1) := by decide +kernel
theorem dM_writeDigits_103 : decode cM_writeDigits 103 = .ok (.getfield 124, 3) := by decide +kernel
theorem dM_writeDigits_106 : decode cM_writeDigits 106 = .ok (.iload_n 3, 1) := by decide +kernel
theorem dM_writeDigits_107 : decode cM_writeDigits 107 = .ok (.baload, 1) := by decide +kernel
theorem dM_writeDigits_108 : decode cM_writeDigits 108 = .ok (.bastore, 1) := by decide +kernel
theorem dM_writeDigits_109 : decode cM_writeDigits 109 = .ok (.aload_n 0, 1) := by decide +kernel
theorem dM_writeDigits_110 : decode cM_writeDigits 110 = .ok (.dup, 1) := by decide +kernel
theorem dM_writeDigits_111 : decode cM_writeDigits 111 = .ok (.getfield 199, 3) := by decide +kernel
theorem dM_writeDigits_114 : decode cM_writeDigits 114 = .ok (.iconst 1, 1) := by decide +kernel
theorem dM_writeDigits_115 : decode cM_writeDigits 115 = .ok (.iadd, 1) := by decide +kernel
theorem dM_writeDigits_116 : decode cM_writeDigits 116 = .ok (.putfield 199, 3) := by decide +kernel
theorem dM_writeDigits_119 : decode cM_writeDigits 119 = .ok (.iinc 3 (-1), 3) := by decide +kernel
theorem dM_writeDigits_122 : decode cM_writeDigits 122 = .ok (.goto (-32), 3) := by decide +kernel
theorem dM_writeDigits_125 : decode cM_writeDigits 125 = .ok (.return_, 1) := by decide +kernel
theorem dM_write_0 : decode cM_write 0 = .ok (.aload_n 0, 1) := by decide +kernel
theorem dM_write_1 : decode cM_write 1 = .ok (.iconst 0, 1) := by decide +kernel
theorem dM_write_2 : decode cM_write 2 = .ok (.putfield 199, 3) := by decide +kernel
theorem dM_write_5 : decode cM_write 5 = .ok (.aload_n 1, 1) := by decide +kernel
theorem dM_write_6 : decode cM_write 6 = .ok (.sipush 301, 3) := by decide +kernel
theorem dM_write_9 : decode cM_write 9 = .ok (.iaload, 1) := by decide +kernel
theorem dM_write_10 : decode cM_write 10 = .ok (.ifCond .ge 16, 3) := by decide +kernel
theorem dM_write_13 : decode cM_write 13 = .ok (.aload_n 0, 1) := by decide +kernel
theorem dM_write_14 : decode cM_write 14 = .ok (.getfield 120, 3) := by decide +kernel
theorem dM_write_17 : decode cM_write 17 = .ok (.iconst 0, 1) := by decide +kernel
theorem dM_write_18 : decode cM_write 18 = .ok (.bipush 45, 2) := by decide +kernel
theorem dM_write_20 : decode cM_write 20 = .ok (.bastore, 1) := by decide +kernel
theorem dM_write_21 : decode cM_write 21 = .ok (.aload_n 0, 1) := by decide +kernel
theorem dM_write_22 : decode cM_write 22 = .ok (.iconst 1, 1) := by decide +kernel
theorem dM_write_23 : decode cM_write 23 = .ok (.putfield 199, 3) := by decide +kernel
theorem dM_write_26 : decode cM_write 26 = .ok (.aload_n 0, 1) := by decide +kernel
theorem dM_write_27 : decode cM_write 27 = .ok (.aload_n 1, 1) := by decide +kernel
theorem dM_write_28 : decode cM_write 28 = .ok (.invokevirtual 395, 3) := by decide +kernel
theorem dM_write_31 : decode cM_write 31 = .ok (.iconst 1, 1) := by decide +kernel
theorem dM_write_32 : decode cM_write 32 = .ok (.istore_n 3, 1) := by decide +kernel
theorem dM_write_33 : decode cM_write 33 = .ok (.aload_n 0, 1) := by decide +kernel
theorem dM_write_34 : decode cM_write 34 = .ok (.getfield 72, 3) := by decide +kernel
theorem dM_write_37 : decode cM_write 37 = .ok (.lconst 1, 1) := by decide +kernel
theorem dM_write_38 : decode cM_write 38 = .ok (.invokestatic 272, 3) := by decide +kernel
theorem dM_write_41 : decode cM_write 41 = .ok (.iconst 0, 1) := by decide +kernel
theorem dM_write_42 : decode cM_write 42 = .ok (.istore 4, 2) := by decide +kernel
theorem dM_write_44 : decode cM_write 44 = .ok (.iload 4, 2) := by decide +kernel
theorem dM_write_46 : decode cM_write 46 = .ok (.bipush 19, 2) := by decide +kernel
theorem dM_write_48 : decode cM_write 48 = .ok (.if_icmp .ge 58, 3) := by decide +kernel
theorem dM_write_51 : decode cM_write 51 = .ok (.iload_n 3, 1) := by decide +kernel
theorem dM_write_52 : decode cM_write 52 = .ok (.ifCond .eq 14, 3) := by decide +kernel
theorem dM_write_55 : decode cM_write 55 = .ok (.aload_n 2, 1) := by decide +kernel
theorem dM_write_56 : decode cM_write 56 = .ok (.iload 4, 2) := by decide +kernel
theorem dM_write_58 : decode cM_write 58 = .ok (.iaload, 1) := by decide +kernel
theorem dM_write_59 : decode cM_write 59 = .ok (.ifCond .ne 7, 3) := by decide +kernel
theorem dM_write_62 : decode cM_write 62 = .ok (.iconst 1, 1) := by decide +kernel
theorem dM_write_63 : decode cM_write 63 = .ok (.goto 4, 3) := by decide +kernel
theorem dM_write_66 : decode cM_write 66 = .ok (.iconst 0, 1) := by decide +kernel
theorem dM_write_67 : decode cM_write 67 = .ok (.istore_n 3, 1) := by decide +kernel
theorem dM_write_68 : decode cM_write 68 = .ok (.iconst 0, 1) := by decide +kernel
theorem dM_write_69 : decode cM_write 69 = .ok (.istore 5, 2) := by decide +kernel
theorem dM_write_71 : decode cM_write 71 = .ok (.iload 5, 2) := by decide +kernel
theorem dM_write_73 : decode cM_write 73 = .ok (.aload_n 2, 1) := by decide +kernel
theorem dM_write_74 : decode cM_write 74 = .ok (.iload 4, 2) := by decide +kernel
theorem dM_write_76 : decode cM_write 76 = .ok (.iaload, 1) := by decide +kernel
theorem dM_write_77 : decode cM_write 77 = .ok (.if_icmp .ge 23, 3) := by decide +kernel
theorem dM_write_80 : decode cM_write 80 = .ok (.aload_n 0, 1) := by decide +kernel
theorem dM_write_81 : decode cM_write 81 = .ok (.getfield 72, 3) := by decide +kernel
theorem dM_write_84 : decode cM_write 84 = .ok (.aload_n 0, 1) := by decide +kernel
theorem dM_write_85 : decode cM_write 85 = .ok (.getfield 7, 3) := by decide +kernel
theorem dM_write_88 : decode cM_write 88 = .ok (.iload 4, 2) := by decide +kernel
theorem dM_write_90 : decode cM_write 90 = .ok (.iaload, 1) := by decide +kernel
theorem dM_write_91 : decode cM_write 91 = .ok (.invokestatic 177, 3) := by decide +kernel
theorem dM_write_94 : decode cM_write 94 = .ok (.iinc 5 1, 3) := by decide +kernel
theorem dM_write_97 : decode cM_write 97 = .ok (.goto (-26), 3) := by decide +kernel
theorem dM_write_100 : decode cM_write 100 = .ok (.iinc 4 1, 3) := by decide +kernel
theorem dM_write_103 : decode cM_write 103 = .ok (.goto (-59), 3) := by decide +kernel
theorem dM_write_106 : decode cM_write 106 = .ok (.iload_n 3, 1) := by decide +kernel
theorem dM_write_107 : decode cM_write 107 = .ok (.ifCond .ne 32, 3) := by decide +kernel
theorem dM_write_110 : decode cM_write 110 = .ok (.aload_n 0, 1) := by decide +kernel
theorem dM_write_111 : decode cM_write 111 = .ok (.getfield 120, 3) := by decide +kernel
theorem dM_write_114 : decode cM_write 114 = .ok (.aload_n 0, 1) := by decide +kernel
theorem dM_write_115 : decode cM_write 115 = .ok (.getfield 199, 3) := by decide +kernel
theorem dM_write_118 : decode cM_write 118 = .ok (.bipush 47, 2) := by decide +kernel
theorem dM_write_120 : decode cM_write 120 = .ok (.bastore, 1) := by decide +kernel
theorem dM_write_121 : decode cM_write 121 = .ok (.aload_n 0, 1) := by decide +kernel
theorem dM_write_122 : decode cM_write 122 = .ok (.dup, 1) := by decide +kernel
theorem dM_write_123 : decode cM_write 123 = .ok (.getfield 199, 3) := by decide +kernel
theorem dM_write_126 : decode cM_write 126 = .ok (.iconst 1, 1) := by decide +kernel
theorem dM_write_127 : decode cM_write 127 = .ok (.iadd, 1) := by decide +kernel
theorem dM_write_128 : decode cM_write 128 = .ok (.putfield 199, 3) := by decide +kernel
theorem dM_write_131 : decode cM_write 131 = .ok (.aload_n 0, 1) := by decide +kernel
theorem dM_write_132 : decode cM_write 132 = .ok (.aload_n 0, 1) := by decide +kernel
theorem dM_write_133 : decode cM_write 133 = .ok (.getfield 72, 3) := by decide +kernel
theorem dM_write_136 : decode cM_write 136 = .ok (.invokevirtual 395, 3) := by decide +kernel
theorem dM_write_139 : decode cM_write 139 = .ok (.aload_n 0, 1) := by decide +kernel
theorem dM_write_140 : decode cM_write 140 = .ok (.getfield 199, 3) := by decide +kernel
theorem dM_write_143 : decode cM_write 143 = .ok (.ireturn, 1) := by decide +kernel
theorem dM_walk_0 : decode cM_walk 0 = .ok (.aload_n 0, 1) := by decide +kernel
theorem dM_walk_1 : decode cM_walk 1 = .ok (.getfield 66, 3) := by decide +kernel
theorem dM_walk_4 : decode cM_walk 4 = .ok (.iload 4, 2) := by decide +kernel
theorem dM_walk_6 : decode cM_walk 6 = .ok (.i2l, 1) := by decide +kernel
theorem dM_walk_7 : decode cM_walk 7 = .ok (.invokestatic 272, 3) := by decide +kernel
theorem dM_walk_10 : decode cM_walk 10 = .ok (.aload_n 0, 1) := by decide +kernel
theorem dM_walk_11 : decode cM_walk 11 = .ok (.getfield 99, 3) := by decide +kernel
theorem dM_walk_14 : decode cM_walk 14 = .ok (.invokestatic 276, 3) := by decide +kernel
theorem dM_walk_17 : decode cM_walk 17 = .ok (.iconst 0, 1) := by decide +kernel
theorem dM_walk_18 : decode cM_walk 18 = .ok (.istore 5, 2) := by decide +kernel
theorem dM_walk_20 : decode cM_walk 20 = .ok (.iload 5, 2) := by decide +kernel
theorem dM_walk_22 : decode cM_walk 22 = .ok (.iload_n 2, 1) := by decide +kernel
theorem dM_walk_23 : decode cM_walk 23 = .ok (.if_icmp .ge 41, 3) := by decide +kernel
theorem dM_walk_26 : decode cM_walk 26 = .ok (.aload_n 0, 1) := by decide +kernel
theorem dM_walk_27 : decode cM_walk 27 = .ok (.aload_n 0, 1) := by decide +kernel
theorem dM_walk_28 : decode cM_walk 28 = .ok (.iload 5, 2) := by decide +kernel
theorem dM_walk_30 : decode cM_walk 30 = .ok (.iload_n 1, 1) := by decide +kernel
theorem dM_walk_31 : decode cM_walk 31 = .ok (.invokevirtual 280, 3) := by decide +kernel
theorem dM_walk_34 : decode cM_walk 34 = .ok (.invokevirtual 283, 3) := by decide +kernel
theorem dM_walk_37 : decode cM_walk 37 = .ok (.aload_n 0, 1) := by decide +kernel
theorem dM_walk_38 : decode cM_walk 38 = .ok (.aload_n 0, 1) := by decide +kernel
theorem dM_walk_39 : decode cM_walk 39 = .ok (.getfield 66, 3) := by decide +kernel
theorem dM_walk_42 : decode cM_walk 42 = .ok (.aload_n 0, 1) := by decide +kernel
theorem dM_walk_43 : decode cM_walk 43 = .ok (.getfield 99, 3) := by decide +kernel
theorem dM_walk_46 : decode cM_walk 46 = .ok (.aload_n 0, 1) := by decide +kernel
theorem dM_walk_47 : decode cM_walk 47 = .ok (.getfield 69, 3) := by decide +kernel
theorem dM_walk_50 : decode cM_walk 50 = .ok (.aload_n 0, 1) := by decide +kernel
theorem dM_walk_51 : decode cM_walk 51 = .ok (.getfield 102, 3) := by decide +kernel
theorem dM_walk_54 : decode cM_walk 54 = .ok (.iload_n 3, 1) := by decide +kernel
theorem dM_walk_55 : decode cM_walk 55 = .ok (.invokevirtual 286, 3) := by decide +kernel
theorem dM_walk_58 : decode cM_walk 58 = .ok (.iinc 5 1, 3) := by decide +kernel
theorem dM_walk_61 : decode cM_walk 61 = .ok (.goto (-41), 3) := by decide +kernel
theorem dM_walk_64 : decode cM_walk 64 = .ok (.return_, 1) := by decide +kernel
theorem dM_findResiduals_0 : decode cM_findResiduals 0 = .ok (.aload_n 0, 1) := by decide +kernel
theorem dM_findResiduals_1 : decode cM_findResiduals 1 = .ok (.getfield 111, 3) := by decide +kernel
theorem dM_findResiduals_4 : decode cM_findResiduals 4 = .ok (.invokestatic 276, 3) := by decide +kernel
theorem dM_findResiduals_7 : decode cM_findResiduals 7 = .ok (.iconst 0, 1) := by decide +kernel
theorem dM_findResiduals_8 : decode cM_findResiduals 8 = .ok (.istore_n 1, 1) := by decide +kernel
theorem dM_findResiduals_9 : decode cM_findResiduals 9 = .ok (.iload_n 1, 1) := by decide +kernel
theorem dM_findResiduals_10 : decode cM_findResiduals 10 = .ok (.aload_n 0, 1) := by decide +kernel
theorem dM_findResiduals_11 : decode cM_findResiduals 11 = .ok (.getfield 193, 3) := by decide +kernel
theorem dM_findResiduals_14 : decode cM_findResiduals 14 = .ok (.if_icmp .ge 106, 3) := by decide +kernel
theorem dM_findResiduals_17 : decode cM_findResiduals 17 = .ok (.aload_n 0, 1) := by decide +kernel
theorem dM_findResiduals_18 : decode cM_findResiduals 18 = .ok (.iload_n 1, 1) := by decide +kernel
theorem dM_findResiduals_19 : decode cM_findResiduals 19 = .ok (.aload_n 0, 1) := by decide +kernel
theorem dM_findResiduals_20 : decode cM_findResiduals 20 = .ok (.getfield 196, 3) := by decide +kernel
theorem dM_findResiduals_23 : decode cM_findResiduals 23 = .ok (.iconst (-1), 1) := by decide +kernel
theorem dM_findResiduals_24 : decode cM_findResiduals 24 = .ok (.aload_n 0, 1) := by decide +kernel
theorem dM_findResiduals_25 : decode cM_findResiduals 25 = .ok (.getfield 13, 3) := by decide +kernel
theorem dM_findResiduals_28 : decode cM_findResiduals 28 = .ok (.iload_n 1, 1) := by decide +kernel
theorem dM_findResiduals_29 : decode cM_findResiduals 29 = .ok (.iaload, 1) := by decide +kernel
theorem dM_findResiduals_30 : decode cM_findResiduals 30 = .ok (.invokevirtual 290, 3) := by decide +kernel
theorem dM_findResiduals_33 : decode cM_findResiduals 33 = .ok (.iconst 0, 1) := by decide +kernel
theorem dM_findResiduals_34 : decode cM_findResiduals 34 = .ok (.istore_n 2, 1) := by decide +kernel
theorem dM_findResiduals_35 : decode cM_findResiduals 35 = .ok (.iload_n 2, 1) := by decide +kernel
theorem dM_findResiduals_36 : decode cM_findResiduals 36 = .ok (.bipush 19, 2) := by decide +kernel
theorem dM_findResiduals_38 : decode cM_findResiduals 38 = .ok (.if_icmp .ge 45, 3) := by decide +kernel
theorem dM_findResiduals_41 : decode cM_findResiduals 41 = .ok (.aload_n 0, 1) := by decide +kernel
theorem dM_findResiduals_42 : decode cM_findResiduals 42 = .ok (.getfield 111, 3) := by decide +kernel
theorem dM_findResiduals_45 : decode cM_findResiduals 45 = .ok (.iload_n 2, 1) := by decide +kernel
theorem dM_findResiduals_46 : decode cM_findResiduals 46 = .ok (.aload_n 0, 1) := by decide +kernel
theorem dM_findResiduals_47 : decode cM_findResiduals 47 = .ok (.getfield 99, 3) := by decide +kernel
theorem dM_findResiduals_50 : decode cM_findResiduals 50 = .ok (.iload_n 2, 1) := by decide +kernel
theorem dM_findResiduals_51 : decode cM_findResiduals 51 = .ok (.iaload, 1) := by decide +kernel
theorem dM_findResiduals_52 : decode cM_findResiduals 52 = .ok (.aload_n 0, 1) := by decide +kernel
theorem dM_findResiduals_53 : decode cM_findResiduals 53 = .ok (.getfield 111, 3) := by decide +kernel
theorem dM_findResiduals_56 : decode cM_findResiduals 56 = .ok (.iload_n 2, 1) := by decide +kernel
theorem dM_findResiduals_57 : decode cM_findResiduals 57 = .ok (.iaload, 1) := by decide +kernel
theorem dM_findResiduals_58 : decode cM_findResiduals 58 = .ok (.if_icmp .le 12, 3) := by decide +kernel
theorem dM_findResiduals_61 : decode cM_findResiduals 61 = .ok (.aload_n 0, 1) := by decide +kernel
theorem dM_findResiduals_62 : decode cM_findResiduals 62 = .ok (.getfield 99, 3) := by decide +kernel
theorem dM_findResiduals_65 : decode cM_findResiduals 65 = .ok (.iload_n 2, 1) := by decide +kernel
theorem dM_findResiduals_66 : decode cM_findResiduals 66 = .ok (.iaload, 1) := by decide +kernel
theorem dM_findResiduals_67 : decode cM_findResiduals 67 = .ok (.goto 9, 3) := by decide +kernel
theorem dM_findResiduals_70 : decode cM_findResiduals 70 = .ok (.aload_n 0, 1) := by decide +kernel
theorem dM_findResiduals_71 : decode cM_findResiduals 71 = .ok (.getfield 111, 3) := by decide +kernel
theorem dM_findResiduals_74 : decode cM_findResiduals 74 = .ok (.iload_n 2, 1) := by decide +kernel
theorem dM_findResiduals_75 : decode cM_findResiduals 75 = .ok (.iaload, 1) := by decide +kernel
theorem dM_findResiduals_76 : decode cM_findResiduals 76 = .ok (.iastore, 1) := by decide +kernel
theorem dM_findResiduals_77 : decode cM_findResiduals 77 = .ok (.iinc 2 1, 3) := by decide +kernel
theorem dM_findResiduals_80 : decode cM_findResiduals 80 = .ok (.goto (-45), 3) := by decide +kernel
theorem dM_findResiduals_83 : decode cM_findResiduals 83 = .ok (.aload_n 0, 1) := by decide +kernel
theorem dM_findResiduals_84 : decode cM_findResiduals 84 = .ok (.getfield 66, 3) := by decide +kernel
theorem dM_findResiduals_87 : decode cM_findResiduals 87 = .ok (.aload_n 0, 1) := by decide +kernel
theorem dM_findResiduals_88 : decode cM_findResiduals 88 = .ok (.getfield 114, 3) := by decide +kernel
theorem dM_findResiduals_91 : decode cM_findResiduals 91 = .ok (.sipush 132, 3) := by decide +kernel
theorem dM_findResiduals_94 : decode cM_findResiduals 94 = .ok (.iload_n 1, 1) := by decide +kernel
theorem dM_findResiduals_95 : decode cM_findResiduals 95 = .ok (.imul, 1) := by decide +kernel
theorem dM_findResiduals_96 : decode cM_findResiduals 96 = .ok (.invokestatic 294, 3) := by decide +kernel
theorem dM_findResiduals_99 : decode cM_findResiduals 99 = .ok (.aload_n 0, 1) := by decide +kernel
theorem dM_findResiduals_100 : decode cM_findResiduals 100 = .ok (.getfield 99, 3) := by decide +kernel
theorem dM_findResiduals_103 : decode cM_findResiduals 103 = .ok (.aload_n 0, 1) := by decide +kernel
theorem dM_findResiduals_104 : decode cM_findResiduals 104 = .ok (.getfield 117, 3) := by decide +kernel
theorem dM_findResiduals_107 : decode cM_findResiduals 107 = .ok (.bipush 19, 2) := by decide +kernel
theorem dM_findResiduals_109 : decode cM_findResiduals 109 = .ok (.iload_n 1, 1) := by decide +kernel
theorem dM_findResiduals_110 : decode cM_findResiduals 110 = .ok (.imul, 1) := by decide +kernel
theorem dM_findResiduals_111 : decode cM_findResiduals 111 = .ok (.invokestatic 297, 3) := by decide +kernel
theorem dM_findResiduals_114 : decode cM_findResiduals 114 = .ok (.iinc 1 1, 3) := by decide +kernel
theorem dM_findResiduals_117 : decode cM_findResiduals 117 = .ok (.goto (-108), 3) := by decide +kernel
theorem dM_findResiduals_120 : decode cM_findResiduals 120 = .ok (.iconst 0, 1) := by decide +kernel
theorem dM_findResiduals_121 : decode cM_findResiduals 121 = .ok (.istore_n 1, 1) := by decide +kernel
theorem dM_findResiduals_122 : decode cM_findResiduals 122 = .ok (.iload_n 1, 1) := by decide +kernel
theorem dM_findResiduals_123 : decode cM_findResiduals 123 = .ok (.aload_n 0, 1) := by decide +kernel
theorem dM_findResiduals_124 : decode cM_findResiduals 124 = .ok (.getfield 193, 3) := by decide +kernel
theorem dM_findResiduals_127 : decode cM_findResiduals 127 = .ok (.if_icmp .ge 72, 3) := by decide +kernel
theorem dM_findResiduals_130 : decode cM_findResiduals 130 = .ok (.aload_n 0, 1) := by decide +kernel
theorem dM_findResiduals_131 : decode cM_findResiduals 131 = .ok (.getfield 114, 3) := by decide +kernel
theorem dM_findResiduals_134 : decode cM_findResiduals 134 = .ok (.sipush 132, 3) := by decide +kernel
theorem dM_findResiduals_137 : decode cM_findResiduals 137 = .ok (.iload_n 1, 1) := by decide +kernel
theorem dM_findResiduals_138 : decode cM_findResiduals 138 = .ok (.imul, 1) := by decide +kernel
theorem dM_findResiduals_139 : decode cM_findResiduals 139 = .ok (.aload_n 0, 1) := by decide +kernel
theorem dM_findResiduals_140 : decode cM_findResiduals 140 = .ok (.getfield 66, 3) := by decide +kernel
theorem dM_findResiduals_143 : decode cM_findResiduals 143 = .ok (.invokestatic 265, 3) := by decide +kernel
theorem dM_findResiduals_146 : decode cM_findResiduals 146 = .ok (.aload_n 0, 1) := by decide +kernel
theorem dM_findResiduals_147 : decode cM_findResiduals 147 = .ok (.getfield 117, 3) := by decide +kernel
theorem dM_findResiduals_150 : decode cM_findResiduals 150 = .ok (.bipush 19, 2) := by decide +kernel
theorem dM_findResiduals_152 : decode cM_findResiduals 152 = .ok (.iload_n 1, 1) := by decide +kernel
theorem dM_findResiduals_153 : decode cM_findResiduals 153 = .ok (.imul, 1) := by decide +kernel
theorem dM_findResiduals_154 : decode cM_findResiduals 154 = .ok (.aload_n 0, 1) := by decide +kernel
theorem dM_findResiduals_155 : decode cM_findResiduals 155 = .ok (.getfield 99, 3) := by decide +kernel
theorem dM_findResiduals_158 : decode cM_findResiduals 158 = .ok (.invokestatic 269, 3) := by decide +kernel
theorem dM_findResiduals_161 : decode cM_findResiduals 161 = .ok (.aload_n 0, 1) := by decide +kernel
theorem dM_findResiduals_162 : decode cM_findResiduals 162 = .ok (.aload_n 0, 1) := by decide +kernel
theorem dM_findResiduals_163 : decode cM_findResiduals 163 = .ok (.getfield 66, 3) := by decide +kernel
theorem dM_findResiduals_166 : decode cM_findResiduals 166 = .ok (.aload_n 0, 1) := by decide +kernel
theorem dM_findResiduals_167 : decode cM_findResiduals 167 = .ok (.getfield 99, 3) := by decide +kernel
theorem dM_findResiduals_170 : decode cM_findResiduals 170 = .ok (.aload_n 0, 1) := by decide +kernel
theorem dM_findResiduals_171 : decode cM_findResiduals 171 = .ok (.getfield 111, 3) := by decide +kernel
theorem dM_findResiduals_174 : decode cM_findResiduals 174 = .ok (.invokevirtual 180, 3) := by decide +kernel
theorem dM_findResiduals_177 : decode cM_findResiduals 177 = .ok (.aload_n 0, 1) := by decide +kernel
theorem dM_findResiduals_178 : decode cM_findResiduals 178 = .ok (.getfield 66, 3) := by decide +kernel
theorem dM_findResiduals_181 : decode cM_findResiduals 181 = .ok (.aload_n 0, 1) := by decide +kernel
theorem dM_findResiduals_182 : decode cM_findResiduals 182 = .ok (.getfield 114, 3) := by decide +kernel
theorem dM_findResiduals_185 : decode cM_findResiduals 185 = .ok (.sipush 132, 3) := by decide +kernel
theorem dM_findResiduals_188 : decode cM_findResiduals 188 = .ok (.iload_n 1, 1) := by decide +kernel
theorem dM_findResiduals_189 : decode cM_findResiduals 189 = .ok (.imul, 1) := by decide +kernel
theorem dM_findResiduals_190 : decode cM_findResiduals 190 = .ok (.invokestatic 294, 3) := by decide +kernel
theorem dM_findResiduals_193 : decode cM_findResiduals 193 = .ok (.iinc 1 1, 3) := by decide +kernel
theorem dM_findResiduals_196 : decode cM_findResiduals 196 = .ok (.goto (-74), 3) := by decide +kernel
theorem dM_findResiduals_199 : decode cM_findResiduals 199 = .ok (.return_, 1) := by decide +kernel
theorem dM_commonBits_0 : decode cM_commonBits 0 = .ok (.aload_n 0, 1) := by decide +kernel
theorem dM_commonBits_1 : decode cM_commonBits 1 = .ok (.invokevirtual 300, 3) := by decide +kernel
theorem dM_commonBits_4 : decode cM_commonBits 4 = .ok (.aload_n 0, 1) := by decide +kernel
theorem dM_commonBits_5 : decode cM_commonBits 5 = .ok (.getfield 66, 3) := by decide +kernel
theorem dM_commonBits_8 : decode cM_commonBits 8 = .ok (.lconst 1, 1) := by decide +kernel
theorem dM_commonBits_9 : decode cM_commonBits 9 = .ok (.invokestatic 272, 3) := by decide +kernel
theorem dM_commonBits_12 : decode cM_commonBits 12 = .ok (.aload_n 0, 1) := by decide +kernel
theorem dM_commonBits_13 : decode cM_commonBits 13 = .ok (.getfield 99, 3) := by decide +kernel
theorem dM_commonBits_16 : decode cM_commonBits 16 = .ok (.invokestatic 276, 3) := by decide +kernel
theorem dM_commonBits_19 : decode cM_commonBits 19 = .ok (.aload_n 0, 1) := by decide +kernel
theorem dM_commonBits_20 : decode cM_commonBits 20 = .ok (.aload_n 0, 1) := by decide +kernel
theorem dM_commonBits_21 : decode cM_commonBits 21 = .ok (.getfield 66, 3) := by decide +kernel
theorem dM_commonBits_24 : decode cM_commonBits 24 = .ok (.aload_n 0, 1) := by decide +kernel
theorem dM_commonBits_25 : decode cM_commonBits 25 = .ok (.getfield 99, 3) := by decide +kernel
theorem dM_commonBits_28 : decode cM_commonBits 28 = .ok (.aload_n 0, 1) := by decide +kernel
theorem dM_commonBits_29 : decode cM_commonBits 29 = .ok (.getfield 111, 3) := by decide +kernel
theorem dM_commonBits_32 : decode cM_commonBits 32 = .ok (.invokevirtual 180, 3) := by decide +kernel
theorem dM_commonBits_35 : decode cM_commonBits 35 = .ok (.aload_n 0, 1) := by decide +kernel
theorem dM_commonBits_36 : decode cM_commonBits 36 = .ok (.getfield 66, 3) := by decide +kernel
theorem dM_commonBits_39 : decode cM_commonBits 39 = .ok (.aload_n 0, 1) := by decide +kernel
theorem dM_commonBits_40 : decode cM_commonBits 40 = .ok (.getfield 66, 3) := by decide +kernel
theorem dM_commonBits_43 : decode cM_commonBits 43 = .ok (.sipush 300, 3) := by decide +kernel
theorem dM_commonBits_46 : decode cM_commonBits 46 = .ok (.iaload, 1) := by decide +kernel
theorem dM_commonBits_47 : decode cM_commonBits 47 = .ok (.iconst 1, 1) := by decide +kernel
theorem dM_commonBits_48 : decode cM_commonBits 48 = .ok (.isub, 1) := by decide +kernel
theorem dM_commonBits_49 : decode cM_commonBits 49 = .ok (.iaload, 1) := by decide +kernel
theorem dM_commonBits_50 : decode cM_commonBits 50 = .ok (.istore_n 1, 1) := by decide +kernel
theorem dM_commonBits_51 : decode cM_commonBits 51 = .ok (.bipush 28, 2) := by decide +kernel
theorem dM_commonBits_53 : decode cM_commonBits 53 = .ok (.aload_n 0, 1) := by decide +kernel
theorem dM_commonBits_54 : decode cM_commonBits 54 = .ok (.getfield 66, 3) := by decide +kernel
theorem dM_commonBits_57 : decode cM_commonBits 57 = .ok (.sipush 300, 3) := by decide +kernel
theorem dM_commonBits_60 : decode cM_commonBits 60 = .ok (.iaload, 1) := by decide +kernel
theorem dM_commonBits_61 : decode cM_commonBits 61 = .ok (.iconst 1, 1) := by decide +kernel
theorem dM_commonBits_62 : decode cM_commonBits 62 = .ok (.isub, 1) := by decide +kernel
theorem dM_commonBits_63 : decode cM_commonBits 63 = .ok (.imul, 1) := by decide +kernel
theorem dM_commonBits_64 : decode cM_commonBits 64 = .ok (.istore_n 2, 1) := by decide +kernel
theorem dM_commonBits_65 : decode cM_commonBits 65 = .ok (.iload_n 1, 1) := by decide +kernel
theorem dM_commonBits_66 : decode cM_commonBits 66 = .ok (.ifCond .le 13, 3) := by decide +kernel
theorem dM_commonBits_69 : decode cM_commonBits 69 = .ok (.iload_n 1, 1) := by decide +kernel
theorem dM_commonBits_70 : decode cM_commonBits 70 = .ok (.iconst 1, 1) := by decide +kernel
theorem dM_commonBits_71 : decode cM_commonBits 71 = .ok (.ishr, 1) := by decide +kernel
theorem dM_commonBits_72 : decode cM_commonBits 72 = .ok (.istore_n 1, 1) := by decide +kernel
theorem dM_commonBits_73 : decode cM_commonBits 73 = .ok (.iinc 2 1, 3) := by decide +kernel
theorem dM_commonBits_76 : decode cM_commonBits 76 = .ok (.goto (-11), 3) := by decide +kernel
theorem dM_commonBits_79 : decode cM_commonBits 79 = .ok (.iload_n 2, 1) := by decide +kernel
theorem dM_commonBits_80 : decode cM_commonBits 80 = .ok (.ireturn, 1) := by decide +kernel
theorem dM_sumSquares_0 : decode cM_sumSquares 0 = .ok (.aload_n 0, 1) := by decide +kernel
theorem dM_sumSquares_1 : decode cM_sumSquares 1 = .ok (.getfield 90, 3) := by decide +kernel
theorem dM_sumSquares_4 : decode cM_sumSquares 4 = .ok (.lconst 0, 1) := by decide +kernel
theorem dM_sumSquares_5 : decode cM_sumSquares 5 = .ok (.invokestatic 272, 3) := by decide +kernel
theorem dM_sumSquares_8 : decode cM_sumSquares 8 = .ok (.aload_n 0, 1) := by decide +kernel
theorem dM_sumSquares_9 : decode cM_sumSquares 9 = .ok (.getfield 105, 3) := by decide +kernel
theorem dM_sumSquares_12 : decode cM_sumSquares 12 = .ok (.invokestatic 276, 3) := by decide +kernel
theorem dM_sumSquares_15 : decode cM_sumSquares 15 = .ok (.iconst 0, 1) := by decide +kernel
theorem dM_sumSquares_16 : decode cM_sumSquares 16 = .ok (.istore 4, 2) := by decide +kernel
theorem dM_sumSquares_18 : decode cM_sumSquares 18 = .ok (.iload 4, 2) := by decide +kernel
theorem dM_sumSquares_20 : decode cM_sumSquares 20 = .ok (.aload_n 0, 1) := by decide +kernel
theorem dM_sumSquares_21 : decode cM_sumSquares 21 = .ok (.getfield 193, 3) := by decide +kernel
theorem dM_sumSquares_24 : decode cM_sumSquares 24 = .ok (.if_icmp .ge 111, 3) := by decide +kernel
theorem dM_sumSquares_27 : decode cM_sumSquares 27 = .ok (.lload_n 1, 1) := by decide +kernel
theorem dM_sumSquares_28 : decode cM_sumSquares 28 = .ok (.iload 4, 2) := by decide +kernel
theorem dM_sumSquares_30 : decode cM_sumSquares 30 = .ok (.lshr, 1) := by decide +kernel
theorem dM_sumSquares_31 : decode cM_sumSquares 31 = .ok (.lconst 1, 1) := by decide +kernel
theorem dM_sumSquares_32 : decode cM_sumSquares 32 = .ok (.land, 1) := by decide +kernel
theorem dM_sumSquares_33 : decode cM_sumSquares 33 = .ok (.lconst 1, 1) := by decide +kernel
theorem dM_sumSquares_34 : decode cM_sumSquares 34 = .ok (.lcmp, 1) := by decide +kernel
theorem dM_sumSquares_35 : decode cM_sumSquares 35 = .ok (.ifCond .ne 94, 3) := by decide +kernel
theorem dM_sumSquares_38 : decode cM_sumSquares 38 = .ok (.aload_n 0, 1) := by decide +kernel
theorem dM_sumSquares_39 : decode cM_sumSquares 39 = .ok (.iload 4, 2) := by decide +kernel
theorem dM_sumSquares_41 : decode cM_sumSquares 41 = .ok (.iload_n 3, 1) := by decide +kernel
theorem dM_sumSquares_42 : decode cM_sumSquares 42 = .ok (.iconst (-1), 1) := by decide +kernel
theorem dM_sumSquares_43 : decode cM_sumSquares 43 = .ok (.aload_n 0, 1) := by decide +kernel
theorem dM_sumSquares_44 : decode cM_sumSquares 44 = .ok (.getfield 13, 3) := by decide +kernel
theorem dM_sumSquares_47 : decode cM_sumSquares 47 = .ok (.iload 4, 2) := by decide +kernel
theorem dM_sumSquares_49 : decode cM_sumSquares 49 = .ok (.iaload, 1) := by decide +kernel
theorem dM_sumSquares_50 : decode cM_sumSquares 50 = .ok (.invokevirtual 290, 3) := by decide +kernel
theorem dM_sumSquares_53 : decode cM_sumSquares 53 = .ok (.aload_n 0, 1) := by decide +kernel
theorem dM_sumSquares_54 : decode cM_sumSquares 54 = .ok (.aload_n 0, 1) := by decide +kernel
theorem dM_sumSquares_55 : decode cM_sumSquares 55 = .ok (.getfield 66, 3) := by decide +kernel
theorem dM_sumSquares_58 : decode cM_sumSquares 58 = .ok (.aload_n 0, 1) := by decide +kernel
theorem dM_sumSquares_59 : decode cM_sumSquares 59 = .ok (.getfield 66, 3) := by decide +kernel
theorem dM_sumSquares_62 : decode cM_sumSquares 62 = .ok (.invokevirtual 386, 3) := by decide +kernel
theorem dM_sumSquares_65 : decode cM_sumSquares 65 = .ok (.aload_n 0, 1) := by decide +kernel
theorem dM_sumSquares_66 : decode cM_sumSquares 66 = .ok (.getfield 75, 3) := by decide +kernel
theorem dM_sumSquares_69 : decode cM_sumSquares 69 = .ok (.aload_n 0, 1) := by decide +kernel
theorem dM_sumSquares_70 : decode cM_sumSquares 70 = .ok (.getfield 69, 3) := by decide +kernel
theorem dM_sumSquares_73 : decode cM_sumSquares 73 = .ok (.invokestatic 154, 3) := by decide +kernel
theorem dM_sumSquares_76 : decode cM_sumSquares 76 = .ok (.iconst 0, 1) := by decide +kernel
theorem dM_sumSquares_77 : decode cM_sumSquares 77 = .ok (.istore 5, 2) := by decide +kernel
theorem dM_sumSquares_79 : decode cM_sumSquares 79 = .ok (.iload 5, 2) := by decide +kernel
theorem dM_sumSquares_81 : decode cM_sumSquares 81 = .ok (.bipush 19, 2) := by decide +kernel
theorem dM_sumSquares_83 : decode cM_sumSquares 83 = .ok (.if_icmp .ge 25, 3) := by decide +kernel
theorem dM_sumSquares_86 : decode cM_sumSquares 86 = .ok (.aload_n 0, 1) := by decide +kernel
theorem dM_sumSquares_87 : decode cM_sumSquares 87 = .ok (.getfield 102, 3) := by decide +kernel
theorem dM_sumSquares_90 : decode cM_sumSquares 90 = .ok (.iload 5, 2) := by decide +kernel
theorem dM_sumSquares_92 : decode cM_sumSquares 92 = .ok (.iconst 2, 1) := by decide +kernel
theorem dM_sumSquares_93 : decode cM_sumSquares 93 = .ok (.aload_n 0, 1) := by decide +kernel
theorem dM_sumSquares_94 : decode cM_sumSquares 94 = .ok (.getfield 99, 3) := by decide +kernel
theorem dM_sumSquares_97 : decode cM_sumSquares 97 = .ok (.iload 5, 2) := by decide +kernel
theorem dM_sumSquares_99 : decode cM_sumSquares 99 = .ok (.iaload, 1) := by decide +kernel
theorem dM_sumSquares_100 : decode cM_sumSquares 100 = .ok (.imul, 1) := by decide +kernel
theorem dM_sumSquares_101 : decode cM_sumSquares 101 = .ok (.iastore, 1) := by decide +kernel
theorem dM_sumSquares_102 : decode cM_sumSquares 102 = .ok (.iinc 5 1, 3) := by decide +kernel
theorem dM_sumSquares_105 : decode cM_sumSquares 105 = .ok (.goto (-26), 3) := by decide +kernel
theorem dM_sumSquares_108 : decode cM_sumSquares 108 = .ok (.aload_n 0, 1) := by decide +kernel
theorem dM_sumSquares_109 : decode cM_sumSquares 109 = .ok (.aload_n 0, 1) := by decide +kernel
theorem dM_sumSquares_110 : decode cM_sumSquares 110 = .ok (.getfield 90, 3) := by decide +kernel
theorem dM_sumSquares_113 : decode cM_sumSquares 113 = .ok (.aload_n 0, 1) := by decide +kernel
theorem dM_sumSquares_114 : decode cM_sumSquares 114 = .ok (.getfield 105, 3) := by decide +kernel
theorem dM_sumSquares_117 : decode cM_sumSquares 117 = .ok (.aload_n 0, 1) := by decide +kernel
theorem dM_sumSquares_118 : decode cM_sumSquares 118 = .ok (.getfield 69, 3) := by decide +kernel
theorem dM_sumSquares_121 : decode cM_sumSquares 121 = .ok (.aload_n 0, 1) := by decide +kernel
theorem dM_sumSquares_122 : decode cM_sumSquares 122 = .ok (.getfield 102, 3) := by decide +kernel
theorem dM_sumSquares_125 : decode cM_sumSquares 125 = .ok (.iconst 1, 1) := by decide +kernel
theorem dM_sumSquares_126 : decode cM_sumSquares 126 = .ok (.invokevirtual 286, 3) := by decide +kernel
theorem dM_sumSquares_129 : decode cM_sumSquares 129 = .ok (.iinc 4 1, 3) := by decide +kernel
theorem dM_sumSquares_132 : decode cM_sumSquares 132 = .ok (.goto (-114), 3) := by decide +kernel
theorem dM_sumSquares_135 : decode cM_sumSquares 135 = .ok (.return_, 1) := by decide +kernel
theorem dM_best_0 : decode cM_best 0 = .ok (.aload_n 0, 1) := by decide +kernel
theorem dM_best_1 : decode cM_best 1 = .ok (.iconst 0, 1) := by decide +kernel
theorem dM_best_2 : decode cM_best 2 = .ok (.putfield 144, 3) := by decide +kernel
theorem dM_best_5 : decode cM_best 5 = .ok (.iconst 0, 1) := by decide +kernel
theorem dM_best_6 : decode cM_best 6 = .ok (.istore_n 3, 1) := by decide +kernel
theorem dM_best_7 : decode cM_best 7 = .ok (.aload_n 0, 1) := by decide +kernel
theorem dM_best_8 : decode cM_best 8 = .ok (.lload_n 1, 1) := by decide +kernel
theorem dM_best_9 : decode cM_best 9 = .ok (.iconst 0, 1) := by decide +kernel
theorem dM_best_10 : decode cM_best 10 = .ok (.invokevirtual 401, 3) := by decide +kernel
theorem dM_best_13 : decode cM_best 13 = .ok (.aload_n 0, 1) := by decide +kernel
theorem dM_best_14 : decode cM_best 14 = .ok (.getfield 90, 3) := by decide +kernel
theorem dM_best_17 : decode cM_best 17 = .ok (.aload_n 0, 1) := by decide +kernel
theorem dM_best_18 : decode cM_best 18 = .ok (.getfield 93, 3) := by decide +kernel
theorem dM_best_21 : decode cM_best 21 = .ok (.invokestatic 154, 3) := by decide +kernel
theorem dM_best_24 : decode cM_best 24 = .ok (.aload_n 0, 1) := by decide +kernel
theorem dM_best_25 : decode cM_best 25 = .ok (.getfield 105, 3) := by decide +kernel
theorem dM_best_28 : decode cM_best 28 = .ok (.aload_n 0, 1) := by decide +kernel
theorem dM_best_29 : decode cM_best 29 = .ok (.getfield 108, 3) := by decide +kernel
theorem dM_best_32 : decode cM_best 32 = .ok (.iconst 0, 1) := by decide +kernel
theorem dM_best_33 : decode cM_best 33 = .ok (.invokestatic 297, 3) := by decide +kernel
theorem dM_best_36 : decode cM_best 36 = .ok (.iconst 1, 1) := by decide +kernel
theorem dM_best_37 : decode cM_best 37 = .ok (.istore 4, 2) := by decide +kernel
theorem dM_best_39 : decode cM_best 39 = .ok (.iload 4, 2) := by decide +kernel
theorem dM_best_41 : decode cM_best 41 = .ok (.aload_n 0, 1) := by decide +kernel
theorem dM_best_42 : decode cM_best 42 = .ok (.getfield 196, 3) := by decide +kernel
theorem dM_best_45 : decode cM_best 45 = .ok (.if_icmp .gt 134, 3) := by decide +kernel
theorem dM_best_48 : decode cM_best 48 = .ok (.aload_n 0, 1) := by decide +kernel
theorem dM_best_49 : decode cM_best 49 = .ok (.lload_n 1, 1) := by decide +kernel
theorem dM_best_50 : decode cM_best 50 = .ok (.iload 4, 2) := by decide +kernel
theorem dM_best_52 : decode cM_best 52 = .ok (.invokevirtual 401, 3) := by decide +kernel
theorem dM_best_55 : decode cM_best 55 = .ok (.aload_n 0, 1) := by decide +kernel
theorem dM_best_56 : decode cM_best 56 = .ok (.getfield 90, 3) := by decide +kernel
theorem dM_best_59 : decode cM_best 59 = .ok (.aload_n 0, 1) := by decide +kernel
theorem dM_best_60 : decode cM_best 60 = .ok (.getfield 66, 3) := by decide +kernel
theorem dM_best_63 : decode cM_best 63 = .ok (.invokestatic 154, 3) := by decide +kernel
theorem dM_best_66 : decode cM_best 66 = .ok (.aload_n 0, 1) := by decide +kernel
theorem dM_best_67 : decode cM_best 67 = .ok (.getfield 105, 3) := by decide +kernel
theorem dM_best_70 : decode cM_best 70 = .ok (.aload_n 0, 1) := by decide +kernel
theorem dM_best_71 : decode cM_best 71 = .ok (.getfield 99, 3) := by decide +kernel
theorem dM_best_74 : decode cM_best 74 = .ok (.iconst 0, 1) := by decide +kernel
theorem dM_best_75 : decode cM_best 75 = .ok (.invokestatic 297, 3) := by decide +kernel
theorem dM_best_78 : decode cM_best 78 = .ok (.aload_n 0, 1) := by decide +kernel
theorem dM_best_79 : decode cM_best 79 = .ok (.aload_n 0, 1) := by decide +kernel
theorem dM_best_80 : decode cM_best 80 = .ok (.getfield 66, 3) := by decide +kernel
theorem dM_best_83 : decode cM_best 83 = .ok (.aload_n 0, 1) := by decide +kernel
theorem dM_best_84 : decode cM_best 84 = .ok (.getfield 99, 3) := by decide +kernel
theorem dM_best_87 : decode cM_best 87 = .ok (.aload_n 0, 1) := by decide +kernel
theorem dM_best_88 : decode cM_best 88 = .ok (.getfield 108, 3) := by decide +kernel
theorem dM_best_91 : decode cM_best 91 = .ok (.invokevirtual 180, 3) := by decide +kernel
theorem dM_best_94 : decode cM_best 94 = .ok (.aload_n 0, 1) := by decide +kernel
theorem dM_best_95 : decode cM_best 95 = .ok (.getfield 93, 3) := by decide +kernel
theorem dM_best_98 : decode cM_best 98 = .ok (.aload_n 0, 1) := by decide +kernel
theorem dM_best_99 : decode cM_best 99 = .ok (.getfield 69, 3) := by decide +kernel
theorem dM_best_102 : decode cM_best 102 = .ok (.invokestatic 154, 3) := by decide +kernel
theorem dM_best_105 : decode cM_best 105 = .ok (.aload_n 0, 1) := by decide +kernel
theorem dM_best_106 : decode cM_best 106 = .ok (.getfield 108, 3) := by decide +kernel
theorem dM_best_109 : decode cM_best 109 = .ok (.aload_n 0, 1) := by decide +kernel
theorem dM_best_110 : decode cM_best 110 = .ok (.getfield 102, 3) := by decide +kernel
theorem dM_best_113 : decode cM_best 113 = .ok (.iconst 0, 1) := by decide +kernel
theorem dM_best_114 : decode cM_best 114 = .ok (.invokestatic 297, 3) := by decide +kernel
theorem dM_best_117 : decode cM_best 117 = .ok (.aload_n 0, 1) := by decide +kernel
theorem dM_best_118 : decode cM_best 118 = .ok (.aload_n 0, 1) := by decide +kernel
theorem dM_best_119 : decode cM_best 119 = .ok (.getfield 69, 3) := by decide +kernel
theorem dM_best_122 : decode cM_best 122 = .ok (.aload_n 0, 1) := by decide +kernel
theorem dM_best_123 : decode cM_best 123 = .ok (.getfield 102, 3) := by decide +kernel
theorem dM_best_126 : decode cM_best 126 = .ok (.aload_n 0, 1) := by decide +kernel
theorem dM_best_127 : decode cM_best 127 = .ok (.getfield 105, 3) := by decide +kernel
theorem dM_best_130 : decode cM_best 130 = .ok (.invokevirtual 180, 3) := by decide +kernel
theorem dM_best_133 : decode cM_best 133 = .ok (.aload_n 0, 1) := by decide +kernel
theorem dM_best_134 : decode cM_best 134 = .ok (.getfield 66, 3) := by decide +kernel
theorem dM_best_137 : decode cM_best 137 = .ok (.aload_n 0, 1) := by decide +kernel
theorem dM_best_138 : decode cM_best 138 = .ok (.getfield 69, 3) := by decide +kernel
theorem dM_best_141 : decode cM_best 141 = .ok (.invokestatic 367, 3) := by decide +kernel
theorem dM_best_144 : decode cM_best 144 = .ok (.ifCond .ge 29, 3) := by decide +kernel
theorem dM_best_147 : decode cM_best 147 = .ok (.iload 4, 2) := by decide +kernel
theorem dM_best_149 : decode cM_best 149 = .ok (.istore_n 3, 1) := by decide +kernel
theorem dM_best_150 : decode cM_best 150 = .ok (.aload_n 0, 1) := by decide +kernel
theorem dM_best_151 : decode cM_best 151 = .ok (.getfield 90, 3) := by decide +kernel
theorem dM_best_154 : decode cM_best 154 = .ok (.aload_n 0, 1) := by decide +kernel
theorem dM_best_155 : decode cM_best 155 = .ok (.getfield 93, 3) := by decide +kernel
theorem dM_best_158 : decode cM_best 158 = .ok (.invokestatic 154, 3) := by decide +kernel
theorem dM_best_161 : decode cM_best 161 = .ok (.aload_n 0, 1) := by decide +kernel
theorem dM_best_162 : decode cM_best 162 = .ok (.getfield 105, 3) := by decide +kernel
theorem dM_best_165 : decode cM_best 165 = .ok (.aload_n 0, 1) := by decide +kernel
theorem dM_best_166 : decode cM_best 166 = .ok (.getfield 108, 3) := by decide +kernel
theorem dM_best_169 : decode cM_best 169 = .ok (.iconst 0, 1) := by decide +kernel
theorem dM_best_170 : decode cM_best 170 = .ok (.invokestatic 297, 3) := by decide +kernel
theorem dM_best_173 : decode cM_best 173 = .ok (.iinc 4 1, 3) := by decide +kernel
theorem dM_best_176 : decode cM_best 176 = .ok (.goto (-137), 3) := by decide +kernel
theorem dM_best_179 : decode cM_best 179 = .ok (.iload_n 3, 1) := by decide +kernel
theorem dM_best_180 : decode cM_best 180 = .ok (.ireturn, 1) := by decide +kernel
