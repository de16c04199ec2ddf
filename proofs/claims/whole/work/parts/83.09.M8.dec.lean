theorem dM_raise_0 : decode cM_raise 0 = .ok (.iconst 0, 1) := by decide +kernel
theorem dM_raise_1 : decode cM_raise 1 = .ok (.istore 4, 2) := by decide +kernel
theorem dM_raise_3 : decode cM_raise 3 = .ok (.iload 4, 2) := by decide +kernel
theorem dM_raise_5 : decode cM_raise 5 = .ok (.bipush 19, 2) := by decide +kernel
theorem dM_raise_7 : decode cM_raise 7 = .ok (.if_icmp .ge 42, 3) := by decide +kernel
theorem dM_raise_10 : decode cM_raise 10 = .ok (.aload_n 2, 1) := by decide +kernel
theorem dM_raise_11 : decode cM_raise 11 = .ok (.iload 4, 2) := by decide +kernel
theorem dM_raise_13 : decode cM_raise 13 = .ok (.iaload, 1) := by decide +kernel
theorem dM_raise_14 : decode cM_raise 14 = .ok (.aload_n 3, 1) := by decide +kernel
theorem dM_raise_15 : decode cM_raise 15 = .ok (.iload 4, 2) := by decide +kernel
theorem dM_raise_17 : decode cM_raise 17 = .ok (.iaload, 1) := by decide +kernel
theorem dM_raise_18 : decode cM_raise 18 = .ok (.if_icmp .ge 25, 3) := by decide +kernel
theorem dM_raise_21 : decode cM_raise 21 = .ok (.aload_n 1, 1) := by decide +kernel
theorem dM_raise_22 : decode cM_raise 22 = .ok (.aload_n 0, 1) := by decide +kernel
theorem dM_raise_23 : decode cM_raise 23 = .ok (.getfield 7, 3) := by decide +kernel
theorem dM_raise_26 : decode cM_raise 26 = .ok (.iload 4, 2) := by decide +kernel
theorem dM_raise_28 : decode cM_raise 28 = .ok (.iaload, 1) := by decide +kernel
theorem dM_raise_29 : decode cM_raise 29 = .ok (.invokestatic 177, 3) := by decide +kernel
theorem dM_raise_32 : decode cM_raise 32 = .ok (.aload_n 2, 1) := by decide +kernel
theorem dM_raise_33 : decode cM_raise 33 = .ok (.iload 4, 2) := by decide +kernel
theorem dM_raise_35 : decode cM_raise 35 = .ok (.dup2, 1) := by decide +kernel
theorem dM_raise_36 : decode cM_raise 36 = .ok (.iaload, 1) := by decide +kernel
theorem dM_raise_37 : decode cM_raise 37 = .ok (.iconst 1, 1) := by decide +kernel
theorem dM_raise_38 : decode cM_raise 38 = .ok (.iadd, 1) := by decide +kernel
theorem dM_raise_39 : decode cM_raise 39 = .ok (.iastore, 1) := by decide +kernel
theorem dM_raise_40 : decode cM_raise 40 = .ok (.goto (-30), 3) := by decide +kernel
theorem dM_raise_43 : decode cM_raise 43 = .ok (.iinc 4 1, 3) := by decide +kernel
theorem dM_raise_46 : decode cM_raise 46 = .ok (.goto (-43), 3) := by decide +kernel
theorem dM_raise_49 : decode cM_raise 49 = .ok (.return_, 1) := by decide +kernel
theorem dM_reduce_0 : decode cM_reduce 0 = .ok (.iconst 0, 1) := by decide +kernel
theorem dM_reduce_1 : decode cM_reduce 1 = .ok (.istore_n 3, 1) := by decide +kernel
theorem dM_reduce_2 : decode cM_reduce 2 = .ok (.iload_n 3, 1) := by decide +kernel
theorem dM_reduce_3 : decode cM_reduce 3 = .ok (.bipush 19, 2) := by decide +kernel
theorem dM_reduce_5 : decode cM_reduce 5 = .ok (.if_icmp .ge 62, 3) := by decide +kernel
theorem dM_reduce_8 : decode cM_reduce 8 = .ok (.aload_n 2, 1) := by decide +kernel
theorem dM_reduce_9 : decode cM_reduce 9 = .ok (.iload_n 3, 1) := by decide +kernel
theorem dM_reduce_10 : decode cM_reduce 10 = .ok (.iaload, 1) := by decide +kernel
theorem dM_reduce_11 : decode cM_reduce 11 = .ok (.ifCond .le 50, 3) := by decide +kernel
theorem dM_reduce_14 : decode cM_reduce 14 = .ok (.aload_n 1, 1) := by decide +kernel
theorem dM_reduce_15 : decode cM_reduce 15 = .ok (.aload_n 0, 1) := by decide +kernel
theorem dM_reduce_16 : decode cM_reduce 16 = .ok (.getfield 7, 3) := by decide +kernel
theorem dM_reduce_19 : decode cM_reduce 19 = .ok (.iload_n 3, 1) := by decide +kernel
theorem dM_reduce_20 : decode cM_reduce 20 = .ok (.iaload, 1) := by decide +kernel
theorem dM_reduce_21 : decode cM_reduce 21 = .ok (.invokestatic 170, 3) := by decide +kernel
theorem dM_reduce_24 : decode cM_reduce 24 = .ok (.ifCond .ne 37, 3) := by decide +kernel
theorem dM_reduce_27 : decode cM_reduce 27 = .ok (.aload_n 2, 1) := by decide +kernel
theorem dM_reduce_28 : decode cM_reduce 28 = .ok (.iload_n 3, 1) := by decide +kernel
theorem dM_reduce_29 : decode cM_reduce 29 = .ok (.dup2, 1) := by decide +kernel
theorem dM_reduce_30 : decode cM_reduce 30 = .ok (.iaload, 1) := by decide +kernel
theorem dM_reduce_31 : decode cM_reduce 31 = .ok (.iconst 1, 1) := by decide +kernel
theorem dM_reduce_32 : decode cM_reduce 32 = .ok (.isub, 1) := by decide +kernel
theorem dM_reduce_33 : decode cM_reduce 33 = .ok (.iastore, 1) := by decide +kernel
theorem dM_reduce_34 : decode cM_reduce 34 = .ok (.aload_n 1, 1) := by decide +kernel
theorem dM_reduce_35 : decode cM_reduce 35 = .ok (.sipush 300, 3) := by decide +kernel
theorem dM_reduce_38 : decode cM_reduce 38 = .ok (.iaload, 1) := by decide +kernel
theorem dM_reduce_39 : decode cM_reduce 39 = .ok (.ifCond .ne 7, 3) := by decide +kernel
theorem dM_reduce_42 : decode cM_reduce 42 = .ok (.iconst 0, 1) := by decide +kernel
theorem dM_reduce_43 : decode cM_reduce 43 = .ok (.goto 13, 3) := by decide +kernel
theorem dM_reduce_46 : decode cM_reduce 46 = .ok (.aload_n 1, 1) := by decide +kernel
theorem dM_reduce_47 : decode cM_reduce 47 = .ok (.aload_n 0, 1) := by decide +kernel
theorem dM_reduce_48 : decode cM_reduce 48 = .ok (.getfield 7, 3) := by decide +kernel
theorem dM_reduce_51 : decode cM_reduce 51 = .ok (.iload_n 3, 1) := by decide +kernel
theorem dM_reduce_52 : decode cM_reduce 52 = .ok (.iaload, 1) := by decide +kernel
theorem dM_reduce_53 : decode cM_reduce 53 = .ok (.invokestatic 174, 3) := by decide +kernel
theorem dM_reduce_56 : decode cM_reduce 56 = .ok (.istore 4, 2) := by decide +kernel
theorem dM_reduce_58 : decode cM_reduce 58 = .ok (.goto (-50), 3) := by decide +kernel
theorem dM_reduce_61 : decode cM_reduce 61 = .ok (.iinc 3 1, 3) := by decide +kernel
theorem dM_reduce_64 : decode cM_reduce 64 = .ok (.goto (-62), 3) := by decide +kernel
theorem dM_reduce_67 : decode cM_reduce 67 = .ok (.return_, 1) := by decide +kernel
theorem dM_under_0 : decode cM_under 0 = .ok (.iload_n 2, 1) := by decide +kernel
theorem dM_under_1 : decode cM_under 1 = .ok (.istore_n 3, 1) := by decide +kernel
theorem dM_under_2 : decode cM_under 2 = .ok (.iconst 0, 1) := by decide +kernel
theorem dM_under_3 : decode cM_under 3 = .ok (.istore 4, 2) := by decide +kernel
theorem dM_under_5 : decode cM_under 5 = .ok (.iload 4, 2) := by decide +kernel
theorem dM_under_7 : decode cM_under 7 = .ok (.bipush 19, 2) := by decide +kernel
theorem dM_under_9 : decode cM_under 9 = .ok (.if_icmp .ge 42, 3) := by decide +kernel
theorem dM_under_12 : decode cM_under 12 = .ok (.iload_n 3, 1) := by decide +kernel
theorem dM_under_13 : decode cM_under 13 = .ok (.aload_n 0, 1) := by decide +kernel
theorem dM_under_14 : decode cM_under 14 = .ok (.getfield 7, 3) := by decide +kernel
theorem dM_under_17 : decode cM_under 17 = .ok (.iload 4, 2) := by decide +kernel
theorem dM_under_19 : decode cM_under 19 = .ok (.iaload, 1) := by decide +kernel
theorem dM_under_20 : decode cM_under 20 = .ok (.irem, 1) := by decide +kernel
theorem dM_under_21 : decode cM_under 21 = .ok (.ifCond .ne 24, 3) := by decide +kernel
theorem dM_under_24 : decode cM_under 24 = .ok (.aload_n 1, 1) := by decide +kernel
theorem dM_under_25 : decode cM_under 25 = .ok (.iload 4, 2) := by decide +kernel
theorem dM_under_27 : decode cM_under 27 = .ok (.dup2, 1) := by decide +kernel
theorem dM_under_28 : decode cM_under 28 = .ok (.iaload, 1) := by decide +kernel
theorem dM_under_29 : decode cM_under 29 = .ok (.iconst 1, 1) := by decide +kernel
theorem dM_under_30 : decode cM_under 30 = .ok (.iadd, 1) := by decide +kernel
theorem dM_under_31 : decode cM_under 31 = .ok (.iastore, 1) := by decide +kernel
theorem dM_under_32 : decode cM_under 32 = .ok (.iload_n 3, 1) := by decide +kernel
theorem dM_under_33 : decode cM_under 33 = .ok (.aload_n 0, 1) := by decide +kernel
theorem dM_under_34 : decode cM_under 34 = .ok (.getfield 7, 3) := by decide +kernel
theorem dM_under_37 : decode cM_under 37 = .ok (.iload 4, 2) := by decide +kernel
theorem dM_under_39 : decode cM_under 39 = .ok (.iaload, 1) := by decide +kernel
theorem dM_under_40 : decode cM_under 40 = .ok (.idiv, 1) := by decide +kernel
theorem dM_under_41 : decode cM_under 41 = .ok (.istore_n 3, 1) := by decide +kernel
theorem dM_under_42 : decode cM_under 42 = .ok (.goto (-30), 3) := by decide +kernel
theorem dM_under_45 : decode cM_under 45 = .ok (.iinc 4 1, 3) := by decide +kernel
theorem dM_under_48 : decode cM_under 48 = .ok (.goto (-43), 3) := by decide +kernel
theorem dM_under_51 : decode cM_under 51 = .ok (.return_, 1) := by decide +kernel
theorem dM_addFractions_0 : decode cM_addFractions 0 = .ok (.aload_n 0, 1) := by decide +kernel
theorem dM_addFractions_1 : decode cM_addFractions 1 = .ok (.aload_n 1, 1) := by decide +kernel
theorem dM_addFractions_2 : decode cM_addFractions 2 = .ok (.aload_n 2, 1) := by decide +kernel
theorem dM_addFractions_3 : decode cM_addFractions 3 = .ok (.aload 4, 2) := by decide +kernel
theorem dM_addFractions_5 : decode cM_addFractions 5 = .ok (.invokevirtual 180, 3) := by decide +kernel
theorem dM_addFractions_8 : decode cM_addFractions 8 = .ok (.aload_n 0, 1) := by decide +kernel
theorem dM_addFractions_9 : decode cM_addFractions 9 = .ok (.aload_n 3, 1) := by decide +kernel
theorem dM_addFractions_10 : decode cM_addFractions 10 = .ok (.aload 4, 2) := by decide +kernel
theorem dM_addFractions_12 : decode cM_addFractions 12 = .ok (.aload_n 2, 1) := by decide +kernel
theorem dM_addFractions_13 : decode cM_addFractions 13 = .ok (.invokevirtual 180, 3) := by decide +kernel
theorem dM_addFractions_16 : decode cM_addFractions 16 = .ok (.aload_n 1, 1) := by decide +kernel
theorem dM_addFractions_17 : decode cM_addFractions 17 = .ok (.aload_n 3, 1) := by decide +kernel
theorem dM_addFractions_18 : decode cM_addFractions 18 = .ok (.iload 5, 2) := by decide +kernel
theorem dM_addFractions_20 : decode cM_addFractions 20 = .ok (.invokestatic 184, 3) := by decide +kernel
theorem dM_addFractions_23 : decode cM_addFractions 23 = .ok (.aload_n 0, 1) := by decide +kernel
theorem dM_addFractions_24 : decode cM_addFractions 24 = .ok (.aload_n 1, 1) := by decide +kernel
theorem dM_addFractions_25 : decode cM_addFractions 25 = .ok (.aload_n 2, 1) := by decide +kernel
theorem dM_addFractions_26 : decode cM_addFractions 26 = .ok (.invokevirtual 187, 3) := by decide +kernel
theorem dM_addFractions_29 : decode cM_addFractions 29 = .ok (.return_, 1) := by decide +kernel
