theorem dW_trim_0 : decode cW_trim 0 = .ok (.aload_n 0, 1) := by decide +kernel
theorem dW_trim_1 : decode cW_trim 1 = .ok (.iload_n 1, 1) := by decide +kernel
theorem dW_trim_2 : decode cW_trim 2 = .ok (.putfield 21, 3) := by decide +kernel
theorem dW_trim_5 : decode cW_trim 5 = .ok (.aload_n 0, 1) := by decide +kernel
theorem dW_trim_6 : decode cW_trim 6 = .ok (.getfield 21, 3) := by decide +kernel
theorem dW_trim_9 : decode cW_trim 9 = .ok (.ifCond .le 30, 3) := by decide +kernel
theorem dW_trim_12 : decode cW_trim 12 = .ok (.aload_n 0, 1) := by decide +kernel
theorem dW_trim_13 : decode cW_trim 13 = .ok (.getfield 7, 3) := by decide +kernel
theorem dW_trim_16 : decode cW_trim 16 = .ok (.aload_n 0, 1) := by decide +kernel
theorem dW_trim_17 : decode cW_trim 17 = .ok (.getfield 21, 3) := by decide +kernel
theorem dW_trim_20 : decode cW_trim 20 = .ok (.iconst 1, 1) := by decide +kernel
theorem dW_trim_21 : decode cW_trim 21 = .ok (.isub, 1) := by decide +kernel
theorem dW_trim_22 : decode cW_trim 22 = .ok (.iaload, 1) := by decide +kernel
theorem dW_trim_23 : decode cW_trim 23 = .ok (.ifCond .ne 16, 3) := by decide +kernel
theorem dW_trim_26 : decode cW_trim 26 = .ok (.aload_n 0, 1) := by decide +kernel
theorem dW_trim_27 : decode cW_trim 27 = .ok (.dup, 1) := by decide +kernel
theorem dW_trim_28 : decode cW_trim 28 = .ok (.getfield 21, 3) := by decide +kernel
theorem dW_trim_31 : decode cW_trim 31 = .ok (.iconst 1, 1) := by decide +kernel
theorem dW_trim_32 : decode cW_trim 32 = .ok (.isub, 1) := by decide +kernel
theorem dW_trim_33 : decode cW_trim 33 = .ok (.putfield 21, 3) := by decide +kernel
theorem dW_trim_36 : decode cW_trim 36 = .ok (.goto (-31), 3) := by decide +kernel
theorem dW_trim_39 : decode cW_trim 39 = .ok (.return_, 1) := by decide +kernel
theorem dW_mostBits_0 : decode cW_mostBits 0 = .ok (.aload_n 0, 1) := by decide +kernel
theorem dW_mostBits_1 : decode cW_mostBits 1 = .ok (.getfield 7, 3) := by decide +kernel
theorem dW_mostBits_4 : decode cW_mostBits 4 = .ok (.arraylength, 1) := by decide +kernel
theorem dW_mostBits_5 : decode cW_mostBits 5 = .ok (.bipush 30, 2) := by decide +kernel
theorem dW_mostBits_7 : decode cW_mostBits 7 = .ok (.imul, 1) := by decide +kernel
theorem dW_mostBits_8 : decode cW_mostBits 8 = .ok (.ireturn, 1) := by decide +kernel
theorem dW_sign_0 : decode cW_sign 0 = .ok (.aload_n 0, 1) := by decide +kernel
theorem dW_sign_1 : decode cW_sign 1 = .ok (.getfield 21, 3) := by decide +kernel
theorem dW_sign_4 : decode cW_sign 4 = .ok (.ifCond .ne 7, 3) := by decide +kernel
theorem dW_sign_7 : decode cW_sign 7 = .ok (.iconst 0, 1) := by decide +kernel
theorem dW_sign_8 : decode cW_sign 8 = .ok (.goto 15, 3) := by decide +kernel
theorem dW_sign_11 : decode cW_sign 11 = .ok (.aload_n 0, 1) := by decide +kernel
theorem dW_sign_12 : decode cW_sign 12 = .ok (.getfield 13, 3) := by decide +kernel
theorem dW_sign_15 : decode cW_sign 15 = .ok (.ifCond .eq 7, 3) := by decide +kernel
theorem dW_sign_18 : decode cW_sign 18 = .ok (.iconst (-1), 1) := by decide +kernel
theorem dW_sign_19 : decode cW_sign 19 = .ok (.goto 4, 3) := by decide +kernel
theorem dW_sign_22 : decode cW_sign 22 = .ok (.iconst 1, 1) := by decide +kernel
theorem dW_sign_23 : decode cW_sign 23 = .ok (.ireturn, 1) := by decide +kernel
theorem dW_turn_0 : decode cW_turn 0 = .ok (.aload_n 0, 1) := by decide +kernel
theorem dW_turn_1 : decode cW_turn 1 = .ok (.aload_n 0, 1) := by decide +kernel
theorem dW_turn_2 : decode cW_turn 2 = .ok (.getfield 13, 3) := by decide +kernel
theorem dW_turn_5 : decode cW_turn 5 = .ok (.ifCond .ne 7, 3) := by decide +kernel
theorem dW_turn_8 : decode cW_turn 8 = .ok (.iconst 1, 1) := by decide +kernel
theorem dW_turn_9 : decode cW_turn 9 = .ok (.goto 4, 3) := by decide +kernel
theorem dW_turn_12 : decode cW_turn 12 = .ok (.iconst 0, 1) := by decide +kernel
theorem dW_turn_13 : decode cW_turn 13 = .ok (.putfield 13, 3) := by decide +kernel
theorem dW_turn_16 : decode cW_turn 16 = .ok (.return_, 1) := by decide +kernel
theorem dW_set_0 : decode cW_set 0 = .ok (.aload_n 0, 1) := by decide +kernel
theorem dW_set_1 : decode cW_set 1 = .ok (.iload_n 1, 1) := by decide +kernel
theorem dW_set_2 : decode cW_set 2 = .ok (.ifCond .ge 7, 3) := by decide +kernel
theorem dW_set_5 : decode cW_set 5 = .ok (.iconst 1, 1) := by decide +kernel
theorem dW_set_6 : decode cW_set 6 = .ok (.goto 4, 3) := by decide +kernel
theorem dW_set_9 : decode cW_set 9 = .ok (.iconst 0, 1) := by decide +kernel
theorem dW_set_10 : decode cW_set 10 = .ok (.putfield 13, 3) := by decide +kernel
theorem dW_set_13 : decode cW_set 13 = .ok (.aload_n 0, 1) := by decide +kernel
theorem dW_set_14 : decode cW_set 14 = .ok (.getfield 7, 3) := by decide +kernel
theorem dW_set_17 : decode cW_set 17 = .ok (.iconst 0, 1) := by decide +kernel
theorem dW_set_18 : decode cW_set 18 = .ok (.aload_n 0, 1) := by decide +kernel
theorem dW_set_19 : decode cW_set 19 = .ok (.getfield 13, 3) := by decide +kernel
theorem dW_set_22 : decode cW_set 22 = .ok (.ifCond .eq 8, 3) := by decide +kernel
theorem dW_set_25 : decode cW_set 25 = .ok (.iload_n 1, 1) := by decide +kernel
theorem dW_set_26 : decode cW_set 26 = .ok (.ineg, 1) := by decide +kernel
theorem dW_set_27 : decode cW_set 27 = .ok (.goto 4, 3) := by decide +kernel
theorem dW_set_30 : decode cW_set 30 = .ok (.iload_n 1, 1) := by decide +kernel
theorem dW_set_31 : decode cW_set 31 = .ok (.iastore, 1) := by decide +kernel
theorem dW_set_32 : decode cW_set 32 = .ok (.aload_n 0, 1) := by decide +kernel
theorem dW_set_33 : decode cW_set 33 = .ok (.iconst 1, 1) := by decide +kernel
theorem dW_set_34 : decode cW_set 34 = .ok (.invokevirtual 17, 3) := by decide +kernel
theorem dW_set_37 : decode cW_set 37 = .ok (.return_, 1) := by decide +kernel
theorem dW_rest_0 : decode cW_rest 0 = .ok (.lconst 0, 1) := by decide +kernel
theorem dW_rest_1 : decode cW_rest 1 = .ok (.lstore_n 2, 1) := by decide +kernel
theorem dW_rest_2 : decode cW_rest 2 = .ok (.aload_n 0, 1) := by decide +kernel
theorem dW_rest_3 : decode cW_rest 3 = .ok (.getfield 21, 3) := by decide +kernel
theorem dW_rest_6 : decode cW_rest 6 = .ok (.iconst 1, 1) := by decide +kernel
theorem dW_rest_7 : decode cW_rest 7 = .ok (.isub, 1) := by decide +kernel
theorem dW_rest_8 : decode cW_rest 8 = .ok (.istore 4, 2) := by decide +kernel
theorem dW_rest_10 : decode cW_rest 10 = .ok (.iload 4, 2) := by decide +kernel
theorem dW_rest_12 : decode cW_rest 12 = .ok (.ifCond .lt 27, 3) := by decide +kernel
theorem dW_rest_15 : decode cW_rest 15 = .ok (.lload_n 2, 1) := by decide +kernel
theorem dW_rest_16 : decode cW_rest 16 = .ok (.ldc2_w 37, 3) := by decide +kernel
theorem dW_rest_19 : decode cW_rest 19 = .ok (.lmul, 1) := by decide +kernel
theorem dW_rest_20 : decode cW_rest 20 = .ok (.aload_n 0, 1) := by decide +kernel
theorem dW_rest_21 : decode cW_rest 21 = .ok (.getfield 7, 3) := by decide +kernel
theorem dW_rest_24 : decode cW_rest 24 = .ok (.iload 4, 2) := by decide +kernel
theorem dW_rest_26 : decode cW_rest 26 = .ok (.iaload, 1) := by decide +kernel
theorem dW_rest_27 : decode cW_rest 27 = .ok (.i2l, 1) := by decide +kernel
theorem dW_rest_28 : decode cW_rest 28 = .ok (.ladd, 1) := by decide +kernel
theorem dW_rest_29 : decode cW_rest 29 = .ok (.iload_n 1, 1) := by decide +kernel
theorem dW_rest_30 : decode cW_rest 30 = .ok (.i2l, 1) := by decide +kernel
theorem dW_rest_31 : decode cW_rest 31 = .ok (.lrem, 1) := by decide +kernel
theorem dW_rest_32 : decode cW_rest 32 = .ok (.lstore_n 2, 1) := by decide +kernel
theorem dW_rest_33 : decode cW_rest 33 = .ok (.iinc 4 (-1), 3) := by decide +kernel
theorem dW_rest_36 : decode cW_rest 36 = .ok (.goto (-26), 3) := by decide +kernel
theorem dW_rest_39 : decode cW_rest 39 = .ok (.lload_n 2, 1) := by decide +kernel
theorem dW_rest_40 : decode cW_rest 40 = .ok (.l2i, 1) := by decide +kernel
theorem dW_rest_41 : decode cW_rest 41 = .ok (.ireturn, 1) := by decide +kernel
theorem dW_divide_0 : decode cW_divide 0 = .ok (.lconst 0, 1) := by decide +kernel
theorem dW_divide_1 : decode cW_divide 1 = .ok (.lstore_n 2, 1) := by decide +kernel
theorem dW_divide_2 : decode cW_divide 2 = .ok (.aload_n 0, 1) := by decide +kernel
theorem dW_divide_3 : decode cW_divide 3 = .ok (.getfield 21, 3) := by decide +kernel
theorem dW_divide_6 : decode cW_divide 6 = .ok (.iconst 1, 1) := by decide +kernel
theorem dW_divide_7 : decode cW_divide 7 = .ok (.isub, 1) := by decide +kernel
theorem dW_divide_8 : decode cW_divide 8 = .ok (.istore 4, 2) := by decide +kernel
theorem dW_divide_10 : decode cW_divide 10 = .ok (.iload 4, 2) := by decide +kernel
theorem dW_divide_12 : decode cW_divide 12 = .ok (.ifCond .lt 44, 3) := by decide +kernel
theorem dW_divide_15 : decode cW_divide 15 = .ok (.lload_n 2, 1) := by decide +kernel
theorem dW_divide_16 : decode cW_divide 16 = .ok (.ldc2_w 37, 3) := by decide +kernel
theorem dW_divide_19 : decode cW_divide 19 = .ok (.lmul, 1) := by decide +kernel
theorem dW_divide_20 : decode cW_divide 20 = .ok (.aload_n 0, 1) := by decide +kernel
theorem dW_divide_21 : decode cW_divide 21 = .ok (.getfield 7, 3) := by decide +kernel
theorem dW_divide_24 : decode cW_divide 24 = .ok (.iload 4, 2) := by decide +kernel
theorem dW_divide_26 : decode cW_divide 26 = .ok (.iaload, 1) := by decide +kernel
theorem dW_divide_27 : decode cW_divide 27 = .ok (.i2l, 1) := by decide +kernel
theorem dW_divide_28 : decode cW_divide 28 = .ok (.ladd, 1) := by decide +kernel
theorem dW_divide_29 : decode cW_divide 29 = .ok (.lstore 5, 2) := by decide +kernel
theorem dW_divide_31 : decode cW_divide 31 = .ok (.aload_n 0, 1) := by decide +kernel
theorem dW_divide_32 : decode cW_divide 32 = .ok (.getfield 7, 3) := by decide +kernel
theorem dW_divide_35 : decode cW_divide 35 = .ok (.iload 4, 2) := by decide +kernel
theorem dW_divide_37 : decode cW_divide 37 = .ok (.lload 5, 2) := by decide +kernel
theorem dW_divide_39 : decode cW_divide 39 = .ok (.iload_n 1, 1) := by decide +kernel
theorem dW_divide_40 : decode cW_divide 40 = .ok (.i2l, 1) := by decide +kernel
theorem dW_divide_41 : decode cW_divide 41 = .ok (.ldiv, 1) := by decide +kernel
theorem dW_divide_42 : decode cW_divide 42 = .ok (.l2i, 1) := by decide +kernel
theorem dW_divide_43 : decode cW_divide 43 = .ok (.iastore, 1) := by decide +kernel
theorem dW_divide_44 : decode cW_divide 44 = .ok (.lload 5, 2) := by decide +kernel
theorem dW_divide_46 : decode cW_divide 46 = .ok (.iload_n 1, 1) := by decide +kernel
theorem dW_divide_47 : decode cW_divide 47 = .ok (.i2l, 1) := by decide +kernel
theorem dW_divide_48 : decode cW_divide 48 = .ok (.lrem, 1) := by decide +kernel
theorem dW_divide_49 : decode cW_divide 49 = .ok (.lstore_n 2, 1) := by decide +kernel
theorem dW_divide_50 : decode cW_divide 50 = .ok (.iinc 4 (-1), 3) := by decide +kernel
theorem dW_divide_53 : decode cW_divide 53 = .ok (.goto (-43), 3) := by decide +kernel
theorem dW_divide_56 : decode cW_divide 56 = .ok (.aload_n 0, 1) := by decide +kernel
theorem dW_divide_57 : decode cW_divide 57 = .ok (.aload_n 0, 1) := by decide +kernel
theorem dW_divide_58 : decode cW_divide 58 = .ok (.getfield 21, 3) := by decide +kernel
theorem dW_divide_61 : decode cW_divide 61 = .ok (.invokevirtual 17, 3) := by decide +kernel
theorem dW_divide_64 : decode cW_divide 64 = .ok (.return_, 1) := by decide +kernel
theorem dW_times_0 : decode cW_times 0 = .ok (.lload_n 1, 1) := by decide +kernel
theorem dW_times_1 : decode cW_times 1 = .ok (.ldc2_w 37, 3) := by decide +kernel
theorem dW_times_4 : decode cW_times 4 = .ok (.ldiv, 1) := by decide +kernel
theorem dW_times_5 : decode cW_times 5 = .ok (.lstore_n 3, 1) := by decide +kernel
theorem dW_times_6 : decode cW_times 6 = .ok (.lload_n 1, 1) := by decide +kernel
theorem dW_times_7 : decode cW_times 7 = .ok (.ldc2_w 37, 3) := by decide +kernel
theorem dW_times_10 : decode cW_times 10 = .ok (.lrem, 1) := by decide +kernel
theorem dW_times_11 : decode cW_times 11 = .ok (.lstore 5, 2) := by decide +kernel
theorem dW_times_13 : decode cW_times 13 = .ok (.lconst 0, 1) := by decide +kernel
theorem dW_times_14 : decode cW_times 14 = .ok (.lstore 7, 2) := by decide +kernel
theorem dW_times_16 : decode cW_times 16 = .ok (.lconst 0, 1) := by decide +kernel
theorem dW_times_17 : decode cW_times 17 = .ok (.lstore 9, 2) := by decide +kernel
theorem dW_times_19 : decode cW_times 19 = .ok (.iconst 0, 1) := by decide +kernel
theorem dW_times_20 : decode cW_times 20 = .ok (.istore 11, 2) := by decide +kernel
theorem dW_times_22 : decode cW_times 22 = .ok (.iload 11, 2) := by decide +kernel
theorem dW_times_24 : decode cW_times 24 = .ok (.aload_n 0, 1) := by decide +kernel
theorem dW_times_25 : decode cW_times 25 = .ok (.getfield 7, 3) := by decide +kernel
theorem dW_times_28 : decode cW_times 28 = .ok (.arraylength, 1) := by decide +kernel
theorem dW_times_29 : decode cW_times 29 = .ok (.if_icmp .ge 97, 3) := by decide +kernel
theorem dW_times_32 : decode cW_times 32 = .ok (.iload 11, 2) := by decide +kernel
theorem dW_times_34 : decode cW_times 34 = .ok (.aload_n 0, 1) := by decide +kernel
theorem dW_times_35 : decode cW_times 35 = .ok (.getfield 21, 3) := by decide +kernel
theorem dW_times_38 : decode cW_times 38 = .ok (.if_icmp .lt 15, 3) := by decide +kernel
theorem dW_times_41 : decode cW_times 41 = .ok (.lload 7, 2) := by decide +kernel
theorem dW_times_43 : decode cW_times 43 = .ok (.lload_n 3, 1) := by decide +kernel
theorem dW_times_44 : decode cW_times 44 = .ok (.lmul, 1) := by decide +kernel
theorem dW_times_45 : decode cW_times 45 = .ok (.lload 9, 2) := by decide +kernel
theorem dW_times_47 : decode cW_times 47 = .ok (.ladd, 1) := by decide +kernel
theorem dW_times_48 : decode cW_times 48 = .ok (.lconst 0, 1) := by decide +kernel
theorem dW_times_49 : decode cW_times 49 = .ok (.lcmp, 1) := by decide +kernel
theorem dW_times_50 : decode cW_times 50 = .ok (.ifCond .eq 76, 3) := by decide +kernel
theorem dW_times_53 : decode cW_times 53 = .ok (.iload 11, 2) := by decide +kernel
theorem dW_times_55 : decode cW_times 55 = .ok (.aload_n 0, 1) := by decide +kernel
theorem dW_times_56 : decode cW_times 56 = .ok (.getfield 21, 3) := by decide +kernel
theorem dW_times_59 : decode cW_times 59 = .ok (.if_icmp .ge 14, 3) := by decide +kernel
theorem dW_times_62 : decode cW_times 62 = .ok (.aload_n 0, 1) := by decide +kernel
theorem dW_times_63 : decode cW_times 63 = .ok (.getfield 7, 3) := by decide +kernel
theorem dW_times_66 : decode cW_times 66 = .ok (.iload 11, 2) := by decide +kernel
theorem dW_times_68 : decode cW_times 68 = .ok (.iaload, 1) := by decide +kernel
theorem dW_times_69 : decode cW_times 69 = .ok (.i2l, 1) := by decide +kernel
theorem dW_times_70 : decode cW_times 70 = .ok (.goto 4, 3) := by decide +kernel
theorem dW_times_73 : decode cW_times 73 = .ok (.lconst 0, 1) := by decide +kernel
theorem dW_times_74 : decode cW_times 74 = .ok (.lstore 12, 2) := by decide +kernel
theorem dW_times_76 : decode cW_times 76 = .ok (.lload 12, 2) := by decide +kernel
theorem dW_times_78 : decode cW_times 78 = .ok (.lload 5, 2) := by decide +kernel
theorem dW_times_80 : decode cW_times 80 = .ok (.lmul, 1) := by decide +kernel
theorem dW_times_81 : decode cW_times 81 = .ok (.lload 7, 2) := by decide +kernel
theorem dW_times_83 : decode cW_times 83 = .ok (.lload_n 3, 1) := by decide +kernel
theorem dW_times_84 : decode cW_times 84 = .ok (.lmul, 1) := by decide +kernel
theorem dW_times_85 : decode cW_times 85 = .ok (.ladd, 1) := by decide +kernel
theorem dW_times_86 : decode cW_times 86 = .ok (.lload 9, 2) := by decide +kernel
theorem dW_times_88 : decode cW_times 88 = .ok (.ladd, 1) := by decide +kernel
theorem dW_times_89 : decode cW_times 89 = .ok (.lstore 14, 2) := by decide +kernel
theorem dW_times_91 : decode cW_times 91 = .ok (.lload 14, 2) := by decide +kernel
theorem dW_times_93 : decode cW_times 93 = .ok (.ldc2_w 37, 3) := by decide +kernel
theorem dW_times_96 : decode cW_times 96 = .ok (.ldiv, 1) := by decide +kernel
theorem dW_times_97 : decode cW_times 97 = .ok (.lstore 9, 2) := by decide +kernel
theorem dW_times_99 : decode cW_times 99 = .ok (.aload_n 0, 1) := by decide +kernel
theorem dW_times_100 : decode cW_times 100 = .ok (.getfield 7, 3) := by decide +kernel
theorem dW_times_103 : decode cW_times 103 = .ok (.iload 11, 2) := by decide +kernel
theorem dW_times_105 : decode cW_times 105 = .ok (.lload 14, 2) := by decide +kernel
theorem dW_times_107 : decode cW_times 107 = .ok (.lload 9, 2) := by decide +kernel
theorem dW_times_109 : decode cW_times 109 = .ok (.ldc2_w 37, 3) := by decide +kernel
theorem dW_times_112 : decode cW_times 112 = .ok (.lmul, 1) := by decide +kernel
theorem dW_times_113 : decode cW_times 113 = .ok (.lsub, 1) := by decide +kernel
theorem dW_times_114 : decode cW_times 114 = .ok (.l2i, 1) := by decide +kernel
theorem dW_times_115 : decode cW_times 115 = .ok (.iastore, 1) := by decide +kernel
theorem dW_times_116 : decode cW_times 116 = .ok (.lload 12, 2) := by decide +kernel
theorem dW_times_118 : decode cW_times 118 = .ok (.lstore 7, 2) := by decide +kernel
theorem dW_times_120 : decode cW_times 120 = .ok (.iinc 11 1, 3) := by decide +kernel
theorem dW_times_123 : decode cW_times 123 = .ok (.goto (-101), 3) := by decide +kernel
theorem dW_times_126 : decode cW_times 126 = .ok (.aload_n 0, 1) := by decide +kernel
theorem dW_times_127 : decode cW_times 127 = .ok (.iload 11, 2) := by decide +kernel
theorem dW_times_129 : decode cW_times 129 = .ok (.invokevirtual 17, 3) := by decide +kernel
theorem dW_times_132 : decode cW_times 132 = .ok (.return_, 1) := by decide +kernel
theorem dIn_compare_0 : decode cIn_compare 0 = .ok (.iload_n 0, 1) := by decide +kernel
theorem dIn_compare_1 : decode cIn_compare 1 = .ok (.iload_n 1, 1) := by decide +kernel
theorem dIn_compare_2 : decode cIn_compare 2 = .ok (.if_icmp .ge 7, 3) := by decide +kernel
theorem dIn_compare_5 : decode cIn_compare 5 = .ok (.iconst (-1), 1) := by decide +kernel
theorem dIn_compare_6 : decode cIn_compare 6 = .ok (.goto 13, 3) := by decide +kernel
theorem dIn_compare_9 : decode cIn_compare 9 = .ok (.iload_n 0, 1) := by decide +kernel
theorem dIn_compare_10 : decode cIn_compare 10 = .ok (.iload_n 1, 1) := by decide +kernel
theorem dIn_compare_11 : decode cIn_compare 11 = .ok (.if_icmp .ne 7, 3) := by decide +kernel
theorem dIn_compare_14 : decode cIn_compare 14 = .ok (.iconst 0, 1) := by decide +kernel
theorem dIn_compare_15 : decode cIn_compare 15 = .ok (.goto 4, 3) := by decide +kernel
theorem dIn_compare_18 : decode cIn_compare 18 = .ok (.iconst 1, 1) := by decide +kernel
theorem dIn_compare_19 : decode cIn_compare 19 = .ok (.ireturn, 1) := by decide +kernel
theorem dW_compare_0 : decode cW_compare 0 = .ok (.aload_n 0, 1) := by decide +kernel
theorem dW_compare_1 : decode cW_compare 1 = .ok (.invokevirtual 49, 3) := by decide +kernel
theorem dW_compare_4 : decode cW_compare 4 = .ok (.aload_n 1, 1) := by decide +kernel
theorem dW_compare_5 : decode cW_compare 5 = .ok (.invokevirtual 49, 3) := by decide +kernel
theorem dW_compare_8 : decode cW_compare 8 = .ok (.invokestatic 53, 3) := by decide +kernel
theorem dW_compare_11 : decode cW_compare 11 = .ok (.istore_n 2, 1) := by decide +kernel
theorem dW_compare_12 : decode cW_compare 12 = .ok (.iload_n 2, 1) := by decide +kernel
theorem dW_compare_13 : decode cW_compare 13 = .ok (.ifCond .ne 66, 3) := by decide +kernel
theorem dW_compare_16 : decode cW_compare 16 = .ok (.aload_n 0, 1) := by decide +kernel
theorem dW_compare_17 : decode cW_compare 17 = .ok (.getfield 21, 3) := by decide +kernel
theorem dW_compare_20 : decode cW_compare 20 = .ok (.aload_n 1, 1) := by decide +kernel
theorem dW_compare_21 : decode cW_compare 21 = .ok (.getfield 21, 3) := by decide +kernel
theorem dW_compare_24 : decode cW_compare 24 = .ok (.invokestatic 53, 3) := by decide +kernel
theorem dW_compare_27 : decode cW_compare 27 = .ok (.istore_n 2, 1) := by decide +kernel
theorem dW_compare_28 : decode cW_compare 28 = .ok (.aload_n 0, 1) := by decide +kernel
theorem dW_compare_29 : decode cW_compare 29 = .ok (.getfield 21, 3) := by decide +kernel
theorem dW_compare_32 : decode cW_compare 32 = .ok (.iconst 1, 1) := by decide +kernel
theorem dW_compare_33 : decode cW_compare 33 = .ok (.isub, 1) := by decide +kernel
theorem dW_compare_34 : decode cW_compare 34 = .ok (.istore_n 3, 1) := by decide +kernel
theorem dW_compare_35 : decode cW_compare 35 = .ok (.iload_n 3, 1) := by decide +kernel
theorem dW_compare_36 : decode cW_compare 36 = .ok (.ifCond .lt 29, 3) := by decide +kernel
theorem dW_compare_39 : decode cW_compare 39 = .ok (.iload_n 2, 1) := by decide +kernel
theorem dW_compare_40 : decode cW_compare 40 = .ok (.ifCond .ne 25, 3) := by decide +kernel
theorem dW_compare_43 : decode cW_compare 43 = .ok (.aload_n 0, 1) := by decide +kernel
theorem dW_compare_44 : decode cW_compare 44 = .ok (.getfield 7, 3) := by decide +kernel
theorem dW_compare_47 : decode cW_compare 47 = .ok (.iload_n 3, 1) := by decide +kernel
theorem dW_compare_48 : decode cW_compare 48 = .ok (.iaload, 1) := by decide +kernel
theorem dW_compare_49 : decode cW_compare 49 = .ok (.aload_n 1, 1) := by decide +kernel
theorem dW_compare_50 : decode cW_compare 50 = .ok (.getfield 7, 3) := by decide +kernel
theorem dW_compare_53 : decode cW_compare 53 = .ok (.iload_n 3, 1) := by decide +kernel
theorem dW_compare_54 : decode cW_compare 54 = .ok (.iaload, 1) := by decide +kernel
theorem dW_compare_55 : decode cW_compare 55 = .ok (.invokestatic 53, 3) := by decide +kernel
theorem dW_compare_58 : decode cW_compare 58 = .ok (.istore_n 2, 1) := by decide +kernel
theorem dW_compare_59 : decode cW_compare 59 = .ok (.iinc 3 (-1), 3) := by decide +kernel
theorem dW_compare_62 : decode cW_compare 62 = .ok (.goto (-27), 3) := by decide +kernel
theorem dW_compare_65 : decode cW_compare 65 = .ok (.aload_n 0, 1) := by decide +kernel
theorem dW_compare_66 : decode cW_compare 66 = .ok (.getfield 13, 3) := by decide +kernel
theorem dW_compare_69 : decode cW_compare 69 = .ok (.ifCond .eq 8, 3) := by decide +kernel
theorem dW_compare_72 : decode cW_compare 72 = .ok (.iload_n 2, 1) := by decide +kernel
theorem dW_compare_73 : decode cW_compare 73 = .ok (.ineg, 1) := by decide +kernel
theorem dW_compare_74 : decode cW_compare 74 = .ok (.goto 4, 3) := by decide +kernel
theorem dW_compare_77 : decode cW_compare 77 = .ok (.iload_n 2, 1) := by decide +kernel
theorem dW_compare_78 : decode cW_compare 78 = .ok (.istore_n 2, 1) := by decide +kernel
theorem dW_compare_79 : decode cW_compare 79 = .ok (.iload_n 2, 1) := by decide +kernel
theorem dW_compare_80 : decode cW_compare 80 = .ok (.ireturn, 1) := by decide +kernel
theorem dW_complement_0 : decode cW_complement 0 = .ok (.iconst 0, 1) := by decide +kernel
theorem dW_complement_1 : decode cW_complement 1 = .ok (.istore_n 2, 1) := by decide +kernel
theorem dW_complement_2 : decode cW_complement 2 = .ok (.iconst 0, 1) := by decide +kernel
theorem dW_complement_3 : decode cW_complement 3 = .ok (.istore_n 3, 1) := by decide +kernel
theorem dW_complement_4 : decode cW_complement 4 = .ok (.iload_n 3, 1) := by decide +kernel
theorem dW_complement_5 : decode cW_complement 5 = .ok (.iload_n 1, 1) := by decide +kernel
theorem dW_complement_6 : decode cW_complement 6 = .ok (.if_icmp .ge 53, 3) := by decide +kernel
theorem dW_complement_9 : decode cW_complement 9 = .ok (.iload_n 3, 1) := by decide +kernel
theorem dW_complement_10 : decode cW_complement 10 = .ok (.aload_n 0, 1) := by decide +kernel
theorem dW_complement_11 : decode cW_complement 11 = .ok (.getfield 7, 3) := by decide +kernel
theorem dW_complement_14 : decode cW_complement 14 = .ok (.arraylength, 1) := by decide +kernel
theorem dW_complement_15 : decode cW_complement 15 = .ok (.if_icmp .ge 44, 3) := by decide +kernel
theorem dW_complement_18 : decode cW_complement 18 = .ok (.aload_n 0, 1) := by decide +kernel
theorem dW_complement_19 : decode cW_complement 19 = .ok (.getfield 7, 3) := by decide +kernel
theorem dW_complement_22 : decode cW_complement 22 = .ok (.iload_n 3, 1) := by decide +kernel
theorem dW_complement_23 : decode cW_complement 23 = .ok (.iaload, 1) := by decide +kernel
theorem dW_complement_24 : decode cW_complement 24 = .ok (.ineg, 1) := by decide +kernel
theorem dW_complement_25 : decode cW_complement 25 = .ok (.iload_n 2, 1) := by decide +kernel
theorem dW_complement_26 : decode cW_complement 26 = .ok (.isub, 1) := by decide +kernel
theorem dW_complement_27 : decode cW_complement 27 = .ok (.istore 4, 2) := by decide +kernel
theorem dW_complement_29 : decode cW_complement 29 = .ok (.iload 4, 2) := by decide +kernel
theorem dW_complement_31 : decode cW_complement 31 = .ok (.ifCond .ge 7, 3) := by decide +kernel
theorem dW_complement_34 : decode cW_complement 34 = .ok (.iconst 1, 1) := by decide +kernel
theorem dW_complement_35 : decode cW_complement 35 = .ok (.goto 4, 3) := by decide +kernel
theorem dW_complement_38 : decode cW_complement 38 = .ok (.iconst 0, 1) := by decide +kernel
theorem dW_complement_39 : decode cW_complement 39 = .ok (.istore_n 2, 1) := by decide +kernel
theorem dW_complement_40 : decode cW_complement 40 = .ok (.aload_n 0, 1) := by decide +kernel
theorem dW_complement_41 : decode cW_complement 41 = .ok (.getfield 7, 3) := by decide +kernel
theorem dW_complement_44 : decode cW_complement 44 = .ok (.iload_n 3, 1) := by decide +kernel
theorem dW_complement_45 : decode cW_complement 45 = .ok (.iload 4, 2) := by decide +kernel
theorem dW_complement_47 : decode cW_complement 47 = .ok (.iload_n 2, 1) := by decide +kernel
theorem dW_complement_48 : decode cW_complement 48 = .ok (.ldc 45, 2) := by decide +kernel
theorem dW_complement_50 : decode cW_complement 50 = .ok (.imul, 1) := by decide +kernel
theorem dW_complement_51 : decode cW_complement 51 = .ok (.iadd, 1) := by decide +kernel
theorem dW_complement_52 : decode cW_complement 52 = .ok (.iastore, 1) := by decide +kernel
theorem dW_complement_53 : decode cW_complement 53 = .ok (.iinc 3 1, 3) := by decide +kernel
theorem dW_complement_56 : decode cW_complement 56 = .ok (.goto (-52), 3) := by decide +kernel
theorem dW_complement_59 : decode cW_complement 59 = .ok (.aload_n 0, 1) := by decide +kernel
theorem dW_complement_60 : decode cW_complement 60 = .ok (.aload_n 0, 1) := by decide +kernel
theorem dW_complement_61 : decode cW_complement 61 = .ok (.getfield 13, 3) := by decide +kernel
theorem dW_complement_64 : decode cW_complement 64 = .ok (.ifCond .ne 7, 3) := by decide +kernel
theorem dW_complement_67 : decode cW_complement 67 = .ok (.iconst 1, 1) := by decide +kernel
theorem dW_complement_68 : decode cW_complement 68 = .ok (.goto 4, 3) := by decide +kernel
theorem dW_complement_71 : decode cW_complement 71 = .ok (.iconst 0, 1) := by decide +kernel
theorem dW_complement_72 : decode cW_complement 72 = .ok (.putfield 13, 3) := by decide +kernel
theorem dW_complement_75 : decode cW_complement 75 = .ok (.return_, 1) := by decide +kernel
theorem dW_setb_0 : decode cW_setb 0 = .ok (.aload_n 0, 1) := by decide +kernel
theorem dW_setb_1 : decode cW_setb 1 = .ok (.aload_n 1, 1) := by decide +kernel
theorem dW_setb_2 : decode cW_setb 2 = .ok (.getfield 21, 3) := by decide +kernel
theorem dW_setb_5 : decode cW_setb 5 = .ok (.aload_n 0, 1) := by decide +kernel
theorem dW_setb_6 : decode cW_setb 6 = .ok (.getfield 7, 3) := by decide +kernel
theorem dW_setb_9 : decode cW_setb 9 = .ok (.arraylength, 1) := by decide +kernel
theorem dW_setb_10 : decode cW_setb 10 = .ok (.invokestatic 25, 3) := by decide +kernel
theorem dW_setb_13 : decode cW_setb 13 = .ok (.putfield 21, 3) := by decide +kernel
theorem dW_setb_16 : decode cW_setb 16 = .ok (.aload_n 1, 1) := by decide +kernel
theorem dW_setb_17 : decode cW_setb 17 = .ok (.getfield 7, 3) := by decide +kernel
theorem dW_setb_20 : decode cW_setb 20 = .ok (.iconst 0, 1) := by decide +kernel
theorem dW_setb_21 : decode cW_setb 21 = .ok (.aload_n 0, 1) := by decide +kernel
theorem dW_setb_22 : decode cW_setb 22 = .ok (.getfield 7, 3) := by decide +kernel
theorem dW_setb_25 : decode cW_setb 25 = .ok (.iconst 0, 1) := by decide +kernel
theorem dW_setb_26 : decode cW_setb 26 = .ok (.aload_n 0, 1) := by decide +kernel
theorem dW_setb_27 : decode cW_setb 27 = .ok (.getfield 21, 3) := by decide +kernel
theorem dW_setb_30 : decode cW_setb 30 = .ok (.invokestatic 31, 3) := by decide +kernel
theorem dW_setb_33 : decode cW_setb 33 = .ok (.aload_n 0, 1) := by decide +kernel
theorem dW_setb_34 : decode cW_setb 34 = .ok (.aload_n 1, 1) := by decide +kernel
theorem dW_setb_35 : decode cW_setb 35 = .ok (.getfield 13, 3) := by decide +kernel
theorem dW_setb_38 : decode cW_setb 38 = .ok (.putfield 13, 3) := by decide +kernel
theorem dW_setb_41 : decode cW_setb 41 = .ok (.return_, 1) := by decide +kernel
theorem dW_plus_0 : decode cW_plus 0 = .ok (.aload_n 0, 1) := by decide +kernel
theorem dW_plus_1 : decode cW_plus 1 = .ok (.getfield 13, 3) := by decide +kernel
theorem dW_plus_4 : decode cW_plus 4 = .ok (.aload_n 1, 1) := by decide +kernel
theorem dW_plus_5 : decode cW_plus 5 = .ok (.getfield 13, 3) := by decide +kernel
theorem dW_plus_8 : decode cW_plus 8 = .ok (.if_icmp .ne 7, 3) := by decide +kernel
theorem dW_plus_11 : decode cW_plus 11 = .ok (.iconst 1, 1) := by decide +kernel
theorem dW_plus_12 : decode cW_plus 12 = .ok (.goto 4, 3) := by decide +kernel
theorem dW_plus_15 : decode cW_plus 15 = .ok (.iconst 0, 1) := by decide +kernel
theorem dW_plus_16 : decode cW_plus 16 = .ok (.iload_n 2, 1) := by decide +kernel
theorem dW_plus_17 : decode cW_plus 17 = .ok (.if_icmp .eq 7, 3) := by decide +kernel
theorem dW_plus_20 : decode cW_plus 20 = .ok (.iconst 1, 1) := by decide +kernel
theorem dW_plus_21 : decode cW_plus 21 = .ok (.goto 4, 3) := by decide +kernel
theorem dW_plus_24 : decode cW_plus 24 = .ok (.iconst 0, 1) := by decide +kernel
theorem dW_plus_25 : decode cW_plus 25 = .ok (.istore_n 3, 1) := by decide +kernel
theorem dW_plus_26 : decode cW_plus 26 = .ok (.iconst 0, 1) := by decide +kernel
theorem dW_plus_27 : decode cW_plus 27 = .ok (.istore 4, 2) := by decide +kernel
theorem dW_plus_29 : decode cW_plus 29 = .ok (.iconst 0, 1) := by decide +kernel
theorem dW_plus_30 : decode cW_plus 30 = .ok (.istore 5, 2) := by decide +kernel
theorem dW_plus_32 : decode cW_plus 32 = .ok (.iload 5, 2) := by decide +kernel
theorem dW_plus_34 : decode cW_plus 34 = .ok (.aload_n 0, 1) := by decide +kernel
theorem dW_plus_35 : decode cW_plus 35 = .ok (.getfield 7, 3) := by decide +kernel
theorem dW_plus_38 : decode cW_plus 38 = .ok (.arraylength, 1) := by decide +kernel
theorem dW_plus_39 : decode cW_plus 39 = .ok (.if_icmp .ge 130, 3) := by decide +kernel
theorem dW_plus_42 : decode cW_plus 42 = .ok (.iload 5, 2) := by decide +kernel
theorem dW_plus_44 : decode cW_plus 44 = .ok (.aload_n 0, 1) := by decide +kernel
theorem dW_plus_45 : decode cW_plus 45 = .ok (.getfield 21, 3) := by decide +kernel
theorem dW_plus_48 : decode cW_plus 48 = .ok (.if_icmp .lt 17, 3) := by decide +kernel
theorem dW_plus_51 : decode cW_plus 51 = .ok (.iload 5, 2) := by decide +kernel
theorem dW_plus_53 : decode cW_plus 53 = .ok (.aload_n 1, 1) := by decide +kernel
theorem dW_plus_54 : decode cW_plus 54 = .ok (.getfield 21, 3) := by decide +kernel
theorem dW_plus_57 : decode cW_plus 57 = .ok (.if_icmp .lt 8, 3) := by decide +kernel
theorem dW_plus_60 : decode cW_plus 60 = .ok (.iload 4, 2) := by decide +kernel
theorem dW_plus_62 : decode cW_plus 62 = .ok (.ifCond .le 107, 3) := by decide +kernel
theorem dW_plus_65 : decode cW_plus 65 = .ok (.iload 5, 2) := by decide +kernel
theorem dW_plus_67 : decode cW_plus 67 = .ok (.aload_n 1, 1) := by decide +kernel
theorem dW_plus_68 : decode cW_plus 68 = .ok (.getfield 21, 3) := by decide +kernel
theorem dW_plus_71 : decode cW_plus 71 = .ok (.if_icmp .ge 13, 3) := by decide +kernel
theorem dW_plus_74 : decode cW_plus 74 = .ok (.aload_n 1, 1) := by decide +kernel
theorem dW_plus_75 : decode cW_plus 75 = .ok (.getfield 7, 3) := by decide +kernel
theorem dW_plus_78 : decode cW_plus 78 = .ok (.iload 5, 2) := by decide +kernel
theorem dW_plus_80 : decode cW_plus 80 = .ok (.iaload, 1) := by decide +kernel
theorem dW_plus_81 : decode cW_plus 81 = .ok (.goto 4, 3) := by decide +kernel
theorem dW_plus_84 : decode cW_plus 84 = .ok (.iconst 0, 1) := by decide +kernel
theorem dW_plus_85 : decode cW_plus 85 = .ok (.istore 6, 2) := by decide +kernel
theorem dW_plus_87 : decode cW_plus 87 = .ok (.iload 5, 2) := by decide +kernel
theorem dW_plus_89 : decode cW_plus 89 = .ok (.aload_n 0, 1) := by decide +kernel
theorem dW_plus_90 : decode cW_plus 90 = .ok (.getfield 21, 3) := by decide +kernel
theorem dW_plus_93 : decode cW_plus 93 = .ok (.if_icmp .ge 13, 3) := by decide +kernel
theorem dW_plus_96 : decode cW_plus 96 = .ok (.aload_n 0, 1) := by decide +kernel
theorem dW_plus_97 : decode cW_plus 97 = .ok (.getfield 7, 3) := by decide +kernel
theorem dW_plus_100 : decode cW_plus 100 = .ok (.iload 5, 2) := by decide +kernel
theorem dW_plus_102 : decode cW_plus 102 = .ok (.iaload, 1) := by decide +kernel
theorem dW_plus_103 : decode cW_plus 103 = .ok (.goto 4, 3) := by decide +kernel
theorem dW_plus_106 : decode cW_plus 106 = .ok (.iconst 0, 1) := by decide +kernel
theorem dW_plus_107 : decode cW_plus 107 = .ok (.iload_n 3, 1) := by decide +kernel
theorem dW_plus_108 : decode cW_plus 108 = .ok (.ifCond .eq 8, 3) := by decide +kernel
theorem dW_plus_111 : decode cW_plus 111 = .ok (.iload 6, 2) := by decide +kernel
theorem dW_plus_113 : decode cW_plus 113 = .ok (.goto 6, 3) := by decide +kernel
theorem dW_plus_116 : decode cW_plus 116 = .ok (.iload 6, 2) := by decide +kernel
theorem dW_plus_118 : decode cW_plus 118 = .ok (.ineg, 1) := by decide +kernel
theorem dW_plus_119 : decode cW_plus 119 = .ok (.iadd, 1) := by decide +kernel
theorem dW_plus_120 : decode cW_plus 120 = .ok (.iload 4, 2) := by decide +kernel
theorem dW_plus_122 : decode cW_plus 122 = .ok (.iadd, 1) := by decide +kernel
theorem dW_plus_123 : decode cW_plus 123 = .ok (.istore 7, 2) := by decide +kernel
theorem dW_plus_125 : decode cW_plus 125 = .ok (.iload 7, 2) := by decide +kernel
theorem dW_plus_127 : decode cW_plus 127 = .ok (.ldc 45, 2) := by decide +kernel
theorem dW_plus_129 : decode cW_plus 129 = .ok (.if_icmp .lt 7, 3) := by decide +kernel
theorem dW_plus_132 : decode cW_plus 132 = .ok (.iconst 1, 1) := by decide +kernel
theorem dW_plus_133 : decode cW_plus 133 = .ok (.goto 13, 3) := by decide +kernel
theorem dW_plus_136 : decode cW_plus 136 = .ok (.iload 7, 2) := by decide +kernel
theorem dW_plus_138 : decode cW_plus 138 = .ok (.ifCond .ge 7, 3) := by decide +kernel
theorem dW_plus_141 : decode cW_plus 141 = .ok (.iconst (-1), 1) := by decide +kernel
theorem dW_plus_142 : decode cW_plus 142 = .ok (.goto 4, 3) := by decide +kernel
theorem dW_plus_145 : decode cW_plus 145 = .ok (.iconst 0, 1) := by decide +kernel
theorem dW_plus_146 : decode cW_plus 146 = .ok (.istore 4, 2) := by decide +kernel
theorem dW_plus_148 : decode cW_plus 148 = .ok (.aload_n 0, 1) := by decide +kernel
theorem dW_plus_149 : decode cW_plus 149 = .ok (.getfield 7, 3) := by decide +kernel
theorem dW_plus_152 : decode cW_plus 152 = .ok (.iload 5, 2) := by decide +kernel
theorem dW_plus_154 : decode cW_plus 154 = .ok (.iload 7, 2) := by decide +kernel
theorem dW_plus_156 : decode cW_plus 156 = .ok (.iload 4, 2) := by decide +kernel
theorem dW_plus_158 : decode cW_plus 158 = .ok (.ldc 45, 2) := by decide +kernel
theorem dW_plus_160 : decode cW_plus 160 = .ok (.imul, 1) := by decide +kernel
