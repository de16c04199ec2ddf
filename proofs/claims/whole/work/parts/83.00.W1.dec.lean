theorem dW_trim_0 : decode cW_trim 0 = .ok (.aload_n 0, 1) := by decide +kernel
theorem dW_trim_1 : decode cW_trim 1 = .ok (.iload_n 1, 1) := by decide +kernel
theorem dW_trim_2 : decode cW_trim 2 = .ok (.putfield 21, 3) := by decide +kernel
theorem dW_trim_5 : decode cW_trim 5 = .ok (.aload_n 0, 1) := by decide +kernel
theorem dW_trim_6 : decode cW_trim 6 = .ok (.getfield 21, 3) := by decide +kernel
theorem dW_trim_9 : decode cW_trim 9 = .ok (.ifCond .le 30, 3) := by decide +kernel
theorem dW_trim_12 : decode cW_trim 12 = .ok (.aload_n 0, 1) := by decide +kernel
theorem dW_trim_13 : decode cW_trim 13 = .ok (.getfield 7, 3) := by decide +kernel
theorem dW_trim_16 : decode cW_trim 16 = .ok (.aload_n 0, 1) := by decide +kernel
theorem dW_trim_17 : decode cW_trim 17 = .ok (.getfield 21, 3) := by decide +kernel
theorem dW_trim_20 : decode cW_trim 20 = .ok (.iconst 1, 1) := by decide +kernel
theorem dW_trim_21 : decode cW_trim 21 = .ok (.isub, 1) := by decide +kernel
theorem dW_trim_22 : decode cW_trim 22 = .ok (.iaload, 1) := by decide +kernel
theorem dW_trim_23 : decode cW_trim 23 = .ok (.ifCond .ne 16, 3) := by decide +kernel
theorem dW_trim_26 : decode cW_trim 26 = .ok (.aload_n 0, 1) := by decide +kernel
theorem dW_trim_27 : decode cW_trim 27 = .ok (.dup, 1) := by decide +kernel
theorem dW_trim_28 : decode cW_trim 28 = .ok (.getfield 21, 3) := by decide +kernel
theorem dW_trim_31 : decode cW_trim 31 = .ok (.iconst 1, 1) := by decide +kernel
theorem dW_trim_32 : decode cW_trim 32 = .ok (.isub, 1) := by decide +kernel
theorem dW_trim_33 : decode cW_trim 33 = .ok (.putfield 21, 3) := by decide +kernel
theorem dW_trim_36 : decode cW_trim 36 = .ok (.goto (-31), 3) := by decide +kernel
theorem dW_trim_39 : decode cW_trim 39 = .ok (.return_, 1) := by decide +kernel
theorem dW_mostBits_0 : decode cW_mostBits 0 = .ok (.aload_n 0, 1) := by decide +kernel
theorem dW_mostBits_1 : decode cW_mostBits 1 = .ok (.getfield 7, 3) := by decide +kernel
theorem dW_mostBits_4 : decode cW_mostBits 4 = .ok (.arraylength, 1) := by decide +kernel
theorem dW_mostBits_5 : decode cW_mostBits 5 = .ok (.bipush 30, 2) := by decide +kernel
theorem dW_mostBits_7 : decode cW_mostBits 7 = .ok (.imul, 1) := by decide +kernel
theorem dW_mostBits_8 : decode cW_mostBits 8 = .ok (.ireturn, 1) := by decide +kernel
theorem dW_sign_0 : decode cW_sign 0 = .ok (.aload_n 0, 1) := by decide +kernel
theorem dW_sign_1 : decode cW_sign 1 = .ok (.getfield 21, 3) := by decide +kernel
theorem dW_sign_4 : decode cW_sign 4 = .ok (.ifCond .ne 7, 3) := by decide +kernel
theorem dW_sign_7 : decode cW_sign 7 = .ok (.iconst 0, 1) := by decide +kernel
theorem dW_sign_8 : decode cW_sign 8 = .ok (.goto 15, 3) := by decide +kernel
theorem dW_sign_11 : decode cW_sign 11 = .ok (.aload_n 0, 1) := by decide +kernel
theorem dW_sign_12 : decode cW_sign 12 = .ok (.getfield 13, 3) := by decide +kernel
theorem dW_sign_15 : decode cW_sign 15 = .ok (.ifCond .eq 7, 3) := by decide +kernel
theorem dW_sign_18 : decode cW_sign 18 = .ok (.iconst (-1), 1) := by decide +kernel
theorem dW_sign_19 : decode cW_sign 19 = .ok (.goto 4, 3) := by decide +kernel
theorem dW_sign_22 : decode cW_sign 22 = .ok (.iconst 1, 1) := by decide +kernel
theorem dW_sign_23 : decode cW_sign 23 = .ok (.ireturn, 1) := by decide +kernel
theorem dW_turn_0 : decode cW_turn 0 = .ok (.aload_n 0, 1) := by decide +kernel
theorem dW_turn_1 : decode cW_turn 1 = .ok (.aload_n 0, 1) := by decide +kernel
theorem dW_turn_2 : decode cW_turn 2 = .ok (.getfield 13, 3) := by decide +kernel
theorem dW_turn_5 : decode cW_turn 5 = .ok (.ifCond .ne 7, 3) := by decide +kernel
theorem dW_turn_8 : decode cW_turn 8 = .ok (.iconst 1, 1) := by decide +kernel
theorem dW_turn_9 : decode cW_turn 9 = .ok (.goto 4, 3) := by decide +kernel
theorem dW_turn_12 : decode cW_turn 12 = .ok (.iconst 0, 1) := by decide +kernel
theorem dW_turn_13 : decode cW_turn 13 = .ok (.putfield 13, 3) := by decide +kernel
theorem dW_turn_16 : decode cW_turn 16 = .ok (.return_, 1) := by decide +kernel
theorem dW_set_0 : decode cW_set 0 = .ok (.aload_n 0, 1) := by decide +kernel
theorem dW_set_1 : decode cW_set 1 = .ok (.iload_n 1, 1) := by decide +kernel
theorem dW_set_2 : decode cW_set 2 = .ok (.ifCond .ge 7, 3) := by decide +kernel
theorem dW_set_5 : decode cW_set 5 = .ok (.iconst 1, 1) := by decide +kernel
theorem dW_set_6 : decode cW_set 6 = .ok (.goto 4, 3) := by decide +kernel
theorem dW_set_9 : decode cW_set 9 = .ok (.iconst 0, 1) := by decide +kernel
theorem dW_set_10 : decode cW_set 10 = .ok (.putfield 13, 3) := by decide +kernel
theorem dW_set_13 : decode cW_set 13 = .ok (.aload_n 0, 1) := by decide +kernel
theorem dW_set_14 : decode cW_set 14 = .ok (.getfield 7, 3) := by decide +kernel
theorem dW_set_17 : decode cW_set 17 = .ok (.iconst 0, 1) := by decide +kernel
theorem dW_set_18 : decode cW_set 18 = .ok (.aload_n 0, 1) := by decide +kernel
theorem dW_set_19 : decode cW_set 19 = .ok (.getfield 13, 3) := by decide +kernel
theorem dW_set_22 : decode cW_set 22 = .ok (.ifCond .eq 8, 3) := by decide +kernel
theorem dW_set_25 : decode cW_set 25 = .ok (.iload_n 1, 1) := by decide +kernel
theorem dW_set_26 : decode cW_set 26 = .ok (.ineg, 1) := by decide +kernel
theorem dW_set_27 : decode cW_set 27 = .ok (.goto 4, 3) := by decide +kernel
theorem dW_set_30 : decode cW_set 30 = .ok (.iload_n 1, 1) := by decide +kernel
theorem dW_set_31 : decode cW_set 31 = .ok (.iastore, 1) := by decide +kernel
theorem dW_set_32 : decode cW_set 32 = .ok (.aload_n 0, 1) := by decide +kernel
theorem dW_set_33 : decode cW_set 33 = .ok (.iconst 1, 1) := by decide +kernel
theorem dW_set_34 : decode cW_set 34 = .ok (.invokevirtual 17, 3) := by decide +kernel
theorem dW_set_37 : decode cW_set 37 = .ok (.return_, 1) := by decide +kernel
theorem dW_rest_0 : decode cW_rest 0 = .ok (.lconst 0, 1) := by decide +kernel
theorem dW_rest_1 : decode cW_rest 1 = .ok (.lstore_n 2, 1) := by decide +kernel
theorem dW_rest_2 : decode cW_rest 2 = .ok (.aload_n 0, 1) := by decide +kernel
theorem dW_rest_3 : decode cW_rest 3 = .ok (.getfield 21, 3) := by decide +kernel
theorem dW_rest_6 : decode cW_rest 6 = .ok (.iconst 1, 1) := by decide +kernel
theorem dW_rest_7 : decode cW_rest 7 = .ok (.isub, 1) := by decide +kernel
theorem dW_rest_8 : decode cW_rest 8 = .ok (.istore 4, 2) := by decide +kernel
theorem dW_rest_10 : decode cW_rest 10 = .ok (.iload 4, 2) := by decide +kernel
theorem dW_rest_12 : decode cW_rest 12 = .ok (.ifCond .lt 27, 3) := by decide +kernel
theorem dW_rest_15 : decode cW_rest 15 = .ok (.lload_n 2, 1) := by decide +kernel
theorem dW_rest_16 : decode cW_rest 16 = .ok (.ldc2_w 37, 3) := by decide +kernel
theorem dW_rest_19 : decode cW_rest 19 = .ok (.lmul, 1) := by decide +kernel
theorem dW_rest_20 : decode cW_rest 20 = .ok (.aload_n 0, 1) := by decide +kernel
theorem dW_rest_21 : decode cW_rest 21 = .ok (.getfield 7, 3) := by decide +kernel
theorem dW_rest_24 : decode cW_rest 24 = .ok (.iload 4, 2) := by decide +kernel
theorem dW_rest_26 : decode cW_rest 26 = .ok (.iaload, 1) := by decide +kernel
theorem dW_rest_27 : decode cW_rest 27 = .ok (.i2l, 1) := by decide +kernel
theorem dW_rest_28 : decode cW_rest 28 = .ok (.ladd, 1) := by decide +kernel
theorem dW_rest_29 : decode cW_rest 29 = .ok (.iload_n 1, 1) := by decide +kernel
theorem dW_rest_30 : decode cW_rest 30 = .ok (.i2l, 1) := by decide +kernel
theorem dW_rest_31 : decode cW_rest 31 = .ok (.lrem, 1) := by decide +kernel
theorem dW_rest_32 : decode cW_rest 32 = .ok (.lstore_n 2, 1) := by decide +kernel
theorem dW_rest_33 : decode cW_rest 33 = .ok (.iinc 4 (-1), 3) := by decide +kernel
theorem dW_rest_36 : decode cW_rest 36 = .ok (.goto (-26), 3) := by decide +kernel
theorem dW_rest_39 : decode cW_rest 39 = .ok (.lload_n 2, 1) := by decide +kernel
theorem dW_rest_40 : decode cW_rest 40 = .ok (.l2i, 1) := by decide +kernel
theorem dW_rest_41 : decode cW_rest 41 = .ok (.ireturn, 1) := by decide +kernel
theorem dW_divide_0 : decode cW_divide 0 = .ok (.lconst 0, 1) := by decide +kernel
theorem dW_divide_1 : decode cW_divide 1 = .ok (.lstore_n 2, 1) := by decide +kernel
theorem dW_divide_2 : decode cW_divide 2 = .ok (.aload_n 0, 1) := by decide +kernel
theorem dW_divide_3 : decode cW_divide 3 = .ok (.getfield 21, 3) := by decide +kernel
theorem dW_divide_6 : decode cW_divide 6 = .ok (.iconst 1, 1) := by decide +kernel
theorem dW_divide_7 : decode cW_divide 7 = .ok (.isub, 1) := by decide +kernel
theorem dW_divide_8 : decode cW_divide 8 = .ok (.istore 4, 2) := by decide +kernel
theorem dW_divide_10 : decode cW_divide 10 = .ok (.iload 4, 2) := by decide +kernel
theorem dW_divide_12 : decode cW_divide 12 = .ok (.ifCond .lt 44, 3) := by decide +kernel
theorem dW_divide_15 : decode cW_divide 15 = .ok (.lload_n 2, 1) := by decide +kernel
theorem dW_divide_16 : decode cW_divide 16 = .ok (.ldc2_w 37, 3) := by decide +kernel
theorem dW_divide_19 : decode cW_divide 19 = .ok (.lmul, 1) := by decide +kernel
theorem dW_divide_20 : decode cW_divide 20 = .ok (.aload_n 0, 1) := by decide +kernel
theorem dW_divide_21 : decode cW_divide 21 = .ok (.getfield 7, 3) := by decide +kernel
theorem dW_divide_24 : decode cW_divide 24 = .ok (.iload 4, 2) := by decide +kernel
theorem dW_divide_26 : decode cW_divide 26 = .ok (.iaload, 1) := by decide +kernel
theorem dW_divide_27 : decode cW_divide 27 = .ok (.i2l, 1) := by decide +kernel
theorem dW_divide_28 : decode cW_divide 28 = .ok (.ladd, 1) := by decide +kernel
theorem dW_divide_29 : decode cW_divide 29 = .ok (.lstore 5, 2) := by decide +kernel
theorem dW_divide_31 : decode cW_divide 31 = .ok (.aload_n 0, 1) := by decide +kernel
theorem dW_divide_32 : decode cW_divide 32 = .ok (.getfield 7, 3) := by decide +kernel
theorem dW_divide_35 : decode cW_divide 35 = .ok (.iload 4, 2) := by decide +kernel
theorem dW_divide_37 : decode cW_divide 37 = .ok (.lload 5, 2) := by decide +kernel
theorem dW_divide_39 : decode cW_divide 39 = .ok (.iload_n 1, 1) := by decide +kernel
theorem dW_divide_40 : decode cW_divide 40 = .ok (.i2l, 1) := by decide +kernel
theorem dW_divide_41 : decode cW_divide 41 = .ok (.ldiv, 1) := by decide +kernel
theorem dW_divide_42 : decode cW_divide 42 = .ok (.l2i, 1) := by decide +kernel
theorem dW_divide_43 : decode cW_divide 43 = .ok (.iastore, 1) := by decide +kernel
theorem dW_divide_44 : decode cW_divide 44 = .ok (.lload 5, 2) := by decide +kernel
theorem dW_divide_46 : decode cW_divide 46 = .ok (.iload_n 1, 1) := by decide +kernel
theorem dW_divide_47 : decode cW_divide 47 = .ok (.i2l, 1) := by decide +kernel
theorem dW_divide_48 : decode cW_divide 48 = .ok (.lrem, 1) := by decide +kernel
theorem dW_divide_49 : decode cW_divide 49 = .ok (.lstore_n 2, 1) := by decide +kernel
theorem dW_divide_50 : decode cW_divide 50 = .ok (.iinc 4 (-1), 3) := by decide +kernel
theorem dW_divide_53 : decode cW_divide 53 = .ok (.goto (-43), 3) := by decide +kernel
theorem dW_divide_56 : decode cW_divide 56 = .ok (.aload_n 0, 1) := by decide +kernel
theorem dW_divide_57 : decode cW_divide 57 = .ok (.aload_n 0, 1) := by decide +kernel
theorem dW_divide_58 : decode cW_divide 58 = .ok (.getfield 21, 3) := by decide +kernel
theorem dW_divide_61 : decode cW_divide 61 = .ok (.invokevirtual 17, 3) := by decide +kernel
theorem dW_divide_64 : decode cW_divide 64 = .ok (.return_, 1) := by decide +kernel
theorem dW_times_0 : decode cW_times 0 = .ok (.lload_n 1, 1) := by decide +kernel
theorem dW_times_1 : decode cW_times 1 = .ok (.ldc2_w 37, 3) := by decide +kernel
theorem dW_times_4 : decode cW_times 4 = .ok (.ldiv, 1) := by decide +kernel
theorem dW_times_5 : decode cW_times 5 = .ok (.lstore_n 3, 1) := by decide +kernel
theorem dW_times_6 : decode cW_times 6 = .ok (.lload_n 1, 1) := by decide +kernel
theorem dW_times_7 : decode cW_times 7 = .ok (.ldc2_w 37, 3) := by decide +kernel
theorem dW_times_10 : decode cW_times 10 = .ok (.lrem, 1) := by decide +kernel
theorem dW_times_11 : decode cW_times 11 = .ok (.lstore 5, 2) := by decide +kernel
theorem dW_times_13 : decode cW_times 13 = .ok (.lconst 0, 1) := by decide +kernel
theorem dW_times_14 : decode cW_times 14 = .ok (.lstore 7, 2) := by decide +kernel
theorem dW_times_16 : decode cW_times 16 = .ok (.lconst 0, 1) := by decide +kernel
theorem dW_times_17 : decode cW_times 17 = .ok (.lstore 9, 2) := by decide +kernel
theorem dW_times_19 : decode cW_times 19 = .ok (.iconst 0, 1) := by decide +kernel
theorem dW_times_20 : decode cW_times 20 = .ok (.istore 11, 2) := by decide +kernel
theorem dW_times_22 : decode cW_times 22 = .ok (.iload 11, 2) := by decide +kernel
theorem dW_times_24 : decode cW_times 24 = .ok (.aload_n 0, 1) := by decide +kernel
theorem dW_times_25 : decode cW_times 25 = .ok (.getfield 7, 3) := by decide +kernel
theorem dW_times_28 : decode cW_times 28 = .ok (.arraylength, 1) := by decide +kernel
theorem dW_times_29 : decode cW_times 29 = .ok (.if_icmp .ge 97, 3) := by decide +kernel
theorem dW_times_32 : decode cW_times 32 = .ok (.iload 11, 2) := by decide +kernel
theorem dW_times_34 : decode cW_times 34 = .ok (.aload_n 0, 1) := by decide +kernel
theorem dW_times_35 : decode cW_times 35 = .ok (.getfield 21, 3) := by decide +kernel
theorem dW_times_38 : decode cW_times 38 = .ok (.if_icmp .lt 15, 3) := by decide +kernel
theorem dW_times_41 : decode cW_times 41 = .ok (.lload 7, 2) := by decide +kernel
theorem dW_times_43 : decode cW_times 43 = .ok (.lload_n 3, 1) := by decide +kernel
theorem dW_times_44 : decode cW_times 44 = .ok (.lmul, 1) := by decide +kernel
theorem dW_times_45 : decode cW_times 45 = .ok (.lload 9, 2) := by decide +kernel
theorem dW_times_47 : decode cW_times 47 = .ok (.ladd, 1) := by decide +kernel
theorem dW_times_48 : decode cW_times 48 = .ok (.lconst 0, 1) := by decide +kernel
theorem dW_times_49 : decode cW_times 49 = .ok (.lcmp, 1) := by decide +kernel
theorem dW_times_50 : decode cW_times 50 = .ok (.ifCond .eq 76, 3) := by decide +kernel
theorem dW_times_53 : decode cW_times 53 = .ok (.iload 11, 2) := by decide +kernel
theorem dW_times_55 : decode cW_times 55 = .ok (.aload_n 0, 1) := by decide +kernel
theorem dW_times_56 : decode cW_times 56 = .ok (.getfield 21, 3) := by decide +kernel
theorem dW_times_59 : decode cW_times 59 = .ok (.if_icmp .ge 14, 3) := by decide +kernel
theorem dW_times_62 : decode cW_times 62 = .ok (.aload_n 0, 1) := by decide +kernel
theorem dW_times_63 : decode cW_times 63 = .ok (.getfield 7, 3) := by decide +kernel
theorem dW_times_66 : decode cW_times 66 = .ok (.iload 11, 2) := by decide +kernel
theorem dW_times_68 : decode cW_times 68 = .ok (.iaload, 1) := by decide +kernel
theorem dW_times_69 : decode cW_times 69 = .ok (.i2l, 1) := by decide +kernel
theorem dW_times_70 : decode cW_times 70 = .ok (.goto 4, 3) := by decide +kernel
theorem dW_times_73 : decode cW_times 73 = .ok (.lconst 0, 1) := by decide +kernel
theorem dW_times_74 : decode cW_times 74 = .ok (.lstore 12, 2) := by decide +kernel
theorem dW_times_76 : decode cW_times 76 = .ok (.lload 12, 2) := by decide +kernel
theorem dW_times_78 : decode cW_times 78 = .ok (.lload 5, 2) := by decide +kernel
theorem dW_times_80 : decode cW_times 80 = .ok (.lmul, 1) := by decide +kernel
theorem dW_times_81 : decode cW_times 81 = .ok (.lload 7, 2) := by decide +kernel
theorem dW_times_83 : decode cW_times 83 = .ok (.lload_n 3, 1) := by decide +kernel
theorem dW_times_84 : decode cW_times 84 = .ok (.lmul, 1) := by decide +kernel
theorem dW_times_85 : decode cW_times 85 = .ok (.ladd, 1) := by decide +kernel
theorem dW_times_86 : decode cW_times 86 = .ok (.lload 9, 2) := by decide +kernel
theorem dW_times_88 : decode cW_times 88 = .ok (.ladd, 1) := by decide +kernel
theorem dW_times_89 : decode cW_times 89 = .ok (.lstore 14, 2) := by decide +kernel
theorem dW_times_91 : decode cW_times 91 = .ok (.lload 14, 2) := by decide +kernel
theorem dW_times_93 : decode cW_times 93 = .ok (.ldc2_w 37, 3) := by decide +kernel
theorem dW_times_96 : decode cW_times 96 = .ok (.ldiv, 1) := by decide +kernel
theorem dW_times_97 : decode cW_times 97 = .ok (.lstore 9, 2) := by decide +kernel
theorem dW_times_99 : decode cW_times 99 = .ok (.aload_n 0, 1) := by decide +kernel
theorem dW_times_100 : decode cW_times 100 = .ok (.getfield 7, 3) := by decide +kernel
theorem dW_times_103 : decode cW_times 103 = .ok (.iload 11, 2) := by decide +kernel
theorem dW_times_105 : decode cW_times 105 = .ok (.lload 14, 2) := by decide +kernel
theorem dW_times_107 : decode cW_times 107 = .ok (.lload 9, 2) := by decide +kernel
theorem dW_times_109 : decode cW_times 109 = .ok (.ldc2_w 37, 3) := by decide +kernel
theorem dW_times_112 : decode cW_times 112 = .ok (.lmul, 1) := by decide +kernel
theorem dW_times_113 : decode cW_times 113 = .ok (.lsub, 1) := by decide +kernel
theorem dW_times_114 : decode cW_times 114 = .ok (.l2i, 1) := by decide +kernel
theorem dW_times_115 : decode cW_times 115 = .ok (.iastore, 1) := by decide +kernel
theorem dW_times_116 : decode cW_times 116 = .ok (.lload 12, 2) := by decide +kernel
theorem dW_times_118 : decode cW_times 118 = .ok (.lstore 7, 2) := by decide +kernel
theorem dW_times_120 : decode cW_times 120 = .ok (.iinc 11 1, 3) := by decide +kernel
theorem dW_times_123 : decode cW_times 123 = .ok (.goto (-101), 3) := by decide +kernel
theorem dW_times_126 : decode cW_times 126 = .ok (.aload_n 0, 1) := by decide +kernel
theorem dW_times_127 : decode cW_times 127 = .ok (.iload 11, 2) := by decide +kernel
theorem dW_times_129 : decode cW_times 129 = .ok (.invokevirtual 17, 3) := by decide +kernel
theorem dW_times_132 : decode cW_times 132 = .ok (.return_, 1) := by decide +kernel
