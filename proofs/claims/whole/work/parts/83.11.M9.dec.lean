theorem dM_count_0 : decode cM_count 0 = .ok (.iconst 0, 1) := by decide +kernel
theorem dM_count_1 : decode cM_count 1 = .ok (.istore_n 2, 1) := by decide +kernel
theorem dM_count_2 : decode cM_count 2 = .ok (.iconst 0, 1) := by decide +kernel
theorem dM_count_3 : decode cM_count 3 = .ok (.istore_n 3, 1) := by decide +kernel
theorem dM_count_4 : decode cM_count 4 = .ok (.iload_n 3, 1) := by decide +kernel
theorem dM_count_5 : decode cM_count 5 = .ok (.bipush 64, 2) := by decide +kernel
theorem dM_count_7 : decode cM_count 7 = .ok (.if_icmp .ge 27, 3) := by decide +kernel
theorem dM_count_10 : decode cM_count 10 = .ok (.iload_n 2, 1) := by decide +kernel
theorem dM_count_11 : decode cM_count 11 = .ok (.lload_n 0, 1) := by decide +kernel
theorem dM_count_12 : decode cM_count 12 = .ok (.iload_n 3, 1) := by decide +kernel
theorem dM_count_13 : decode cM_count 13 = .ok (.lshr, 1) := by decide +kernel
theorem dM_count_14 : decode cM_count 14 = .ok (.lconst 1, 1) := by decide +kernel
theorem dM_count_15 : decode cM_count 15 = .ok (.land, 1) := by decide +kernel
theorem dM_count_16 : decode cM_count 16 = .ok (.lconst 1, 1) := by decide +kernel
theorem dM_count_17 : decode cM_count 17 = .ok (.lcmp, 1) := by decide +kernel
theorem dM_count_18 : decode cM_count 18 = .ok (.ifCond .ne 7, 3) := by decide +kernel
theorem dM_count_21 : decode cM_count 21 = .ok (.iconst 1, 1) := by decide +kernel
theorem dM_count_22 : decode cM_count 22 = .ok (.goto 4, 3) := by decide +kernel
theorem dM_count_25 : decode cM_count 25 = .ok (.iconst 0, 1) := by decide +kernel
theorem dM_count_26 : decode cM_count 26 = .ok (.iadd, 1) := by decide +kernel
theorem dM_count_27 : decode cM_count 27 = .ok (.istore_n 2, 1) := by decide +kernel
theorem dM_count_28 : decode cM_count 28 = .ok (.iinc 3 1, 3) := by decide +kernel
theorem dM_count_31 : decode cM_count 31 = .ok (.goto (-27), 3) := by decide +kernel
theorem dM_count_34 : decode cM_count 34 = .ok (.iload_n 2, 1) := by decide +kernel
theorem dM_count_35 : decode cM_count 35 = .ok (.ireturn, 1) := by decide +kernel
theorem dM_there_0 : decode cM_there 0 = .ok (.lconst 1, 1) := by decide +kernel
theorem dM_there_1 : decode cM_there 1 = .ok (.aload_n 0, 1) := by decide +kernel
theorem dM_there_2 : decode cM_there 2 = .ok (.getfield 193, 3) := by decide +kernel
theorem dM_there_5 : decode cM_there 5 = .ok (.lshl, 1) := by decide +kernel
theorem dM_there_6 : decode cM_there 6 = .ok (.lconst 1, 1) := by decide +kernel
theorem dM_there_7 : decode cM_there 7 = .ok (.lsub, 1) := by decide +kernel
theorem dM_there_8 : decode cM_there 8 = .ok (.lreturn, 1) := by decide +kernel
theorem dM_sum_0 : decode cM_sum 0 = .ok (.aload_n 3, 1) := by decide +kernel
theorem dM_sum_1 : decode cM_sum 1 = .ok (.lconst 0, 1) := by decide +kernel
theorem dM_sum_2 : decode cM_sum 2 = .ok (.invokestatic 272, 3) := by decide +kernel
theorem dM_sum_5 : decode cM_sum 5 = .ok (.iconst 0, 1) := by decide +kernel
theorem dM_sum_6 : decode cM_sum 6 = .ok (.istore 4, 2) := by decide +kernel
theorem dM_sum_8 : decode cM_sum 8 = .ok (.iload 4, 2) := by decide +kernel
theorem dM_sum_10 : decode cM_sum 10 = .ok (.aload_n 0, 1) := by decide +kernel
theorem dM_sum_11 : decode cM_sum 11 = .ok (.getfield 193, 3) := by decide +kernel
theorem dM_sum_14 : decode cM_sum 14 = .ok (.if_icmp .ge 46, 3) := by decide +kernel
theorem dM_sum_17 : decode cM_sum 17 = .ok (.lload_n 1, 1) := by decide +kernel
theorem dM_sum_18 : decode cM_sum 18 = .ok (.iload 4, 2) := by decide +kernel
theorem dM_sum_20 : decode cM_sum 20 = .ok (.lshr, 1) := by decide +kernel
theorem dM_sum_21 : decode cM_sum 21 = .ok (.lconst 1, 1) := by decide +kernel
theorem dM_sum_22 : decode cM_sum 22 = .ok (.land, 1) := by decide +kernel
theorem dM_sum_23 : decode cM_sum 23 = .ok (.lconst 1, 1) := by decide +kernel
theorem dM_sum_24 : decode cM_sum 24 = .ok (.lcmp, 1) := by decide +kernel
theorem dM_sum_25 : decode cM_sum 25 = .ok (.ifCond .ne 29, 3) := by decide +kernel
theorem dM_sum_28 : decode cM_sum 28 = .ok (.aload_n 0, 1) := by decide +kernel
theorem dM_sum_29 : decode cM_sum 29 = .ok (.getfield 114, 3) := by decide +kernel
theorem dM_sum_32 : decode cM_sum 32 = .ok (.sipush 132, 3) := by decide +kernel
theorem dM_sum_35 : decode cM_sum 35 = .ok (.iload 4, 2) := by decide +kernel
theorem dM_sum_37 : decode cM_sum 37 = .ok (.imul, 1) := by decide +kernel
theorem dM_sum_38 : decode cM_sum 38 = .ok (.aload_n 0, 1) := by decide +kernel
theorem dM_sum_39 : decode cM_sum 39 = .ok (.getfield 69, 3) := by decide +kernel
theorem dM_sum_42 : decode cM_sum 42 = .ok (.invokestatic 265, 3) := by decide +kernel
theorem dM_sum_45 : decode cM_sum 45 = .ok (.aload_n 3, 1) := by decide +kernel
theorem dM_sum_46 : decode cM_sum 46 = .ok (.aload_n 0, 1) := by decide +kernel
theorem dM_sum_47 : decode cM_sum 47 = .ok (.getfield 69, 3) := by decide +kernel
theorem dM_sum_50 : decode cM_sum 50 = .ok (.iconst 1, 1) := by decide +kernel
theorem dM_sum_51 : decode cM_sum 51 = .ok (.invokestatic 184, 3) := by decide +kernel
theorem dM_sum_54 : decode cM_sum 54 = .ok (.iinc 4 1, 3) := by decide +kernel
theorem dM_sum_57 : decode cM_sum 57 = .ok (.goto (-49), 3) := by decide +kernel
theorem dM_sum_60 : decode cM_sum 60 = .ok (.return_, 1) := by decide +kernel
