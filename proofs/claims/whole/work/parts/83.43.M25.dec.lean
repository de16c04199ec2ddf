theorem dM_edge_0 : decode cM_edge 0 = .ok (.aload_n 0, 1) := by decide +kernel
theorem dM_edge_1 : decode cM_edge 1 = .ok (.aload_n 0, 1) := by decide +kernel
theorem dM_edge_2 : decode cM_edge 2 = .ok (.iload_n 1, 1) := by decide +kernel
theorem dM_edge_3 : decode cM_edge 3 = .ok (.invokevirtual 243, 3) := by decide +kernel
theorem dM_edge_6 : decode cM_edge 6 = .ok (.ifCond .ne 19, 3) := by decide +kernel
theorem dM_edge_9 : decode cM_edge 9 = .ok (.iload_n 2, 1) := by decide +kernel
theorem dM_edge_10 : decode cM_edge 10 = .ok (.iconst 0, 1) := by decide +kernel
theorem dM_edge_11 : decode cM_edge 11 = .ok (.aload_n 0, 1) := by decide +kernel
theorem dM_edge_12 : decode cM_edge 12 = .ok (.getfield 26, 3) := by decide +kernel
theorem dM_edge_15 : decode cM_edge 15 = .ok (.iload_n 1, 1) := by decide +kernel
theorem dM_edge_16 : decode cM_edge 16 = .ok (.iaload, 1) := by decide +kernel
theorem dM_edge_17 : decode cM_edge 17 = .ok (.iconst 1, 1) := by decide +kernel
theorem dM_edge_18 : decode cM_edge 18 = .ok (.isub, 1) := by decide +kernel
theorem dM_edge_19 : decode cM_edge 19 = .ok (.invokestatic 227, 3) := by decide +kernel
theorem dM_edge_22 : decode cM_edge 22 = .ok (.ifCond .ne 7, 3) := by decide +kernel
theorem dM_edge_25 : decode cM_edge 25 = .ok (.iconst 1, 1) := by decide +kernel
theorem dM_edge_26 : decode cM_edge 26 = .ok (.goto 4, 3) := by decide +kernel
theorem dM_edge_29 : decode cM_edge 29 = .ok (.iconst 0, 1) := by decide +kernel
theorem dM_edge_30 : decode cM_edge 30 = .ok (.invokevirtual 231, 3) := by decide +kernel
theorem dM_edge_33 : decode cM_edge 33 = .ok (.ifCond .eq 7, 3) := by decide +kernel
theorem dM_edge_36 : decode cM_edge 36 = .ok (.iconst 0, 1) := by decide +kernel
theorem dM_edge_37 : decode cM_edge 37 = .ok (.goto 14, 3) := by decide +kernel
theorem dM_edge_40 : decode cM_edge 40 = .ok (.aload_n 0, 1) := by decide +kernel
theorem dM_edge_41 : decode cM_edge 41 = .ok (.getfield 23, 3) := by decide +kernel
theorem dM_edge_44 : decode cM_edge 44 = .ok (.bipush 11, 2) := by decide +kernel
theorem dM_edge_46 : decode cM_edge 46 = .ok (.iload_n 1, 1) := by decide +kernel
theorem dM_edge_47 : decode cM_edge 47 = .ok (.imul, 1) := by decide +kernel
theorem dM_edge_48 : decode cM_edge 48 = .ok (.iload_n 2, 1) := by decide +kernel
theorem dM_edge_49 : decode cM_edge 49 = .ok (.iadd, 1) := by decide +kernel
theorem dM_edge_50 : decode cM_edge 50 = .ok (.iaload, 1) := by decide +kernel
theorem dM_edge_51 : decode cM_edge 51 = .ok (.ireturn, 1) := by decide +kernel
theorem dM_bin_0 : decode cM_bin 0 = .ok (.aload_n 0, 1) := by decide +kernel
theorem dM_bin_1 : decode cM_bin 1 = .ok (.aload_n 0, 1) := by decide +kernel
theorem dM_bin_2 : decode cM_bin 2 = .ok (.iload_n 1, 1) := by decide +kernel
theorem dM_bin_3 : decode cM_bin 3 = .ok (.invokevirtual 243, 3) := by decide +kernel
theorem dM_bin_6 : decode cM_bin 6 = .ok (.ifCond .ne 12, 3) := by decide +kernel
theorem dM_bin_9 : decode cM_bin 9 = .ok (.aload_n 0, 1) := by decide +kernel
theorem dM_bin_10 : decode cM_bin 10 = .ok (.iload_n 1, 1) := by decide +kernel
theorem dM_bin_11 : decode cM_bin 11 = .ok (.iload_n 2, 1) := by decide +kernel
theorem dM_bin_12 : decode cM_bin 12 = .ok (.invokevirtual 246, 3) := by decide +kernel
theorem dM_bin_15 : decode cM_bin 15 = .ok (.ifCond .ne 7, 3) := by decide +kernel
theorem dM_bin_18 : decode cM_bin 18 = .ok (.iconst 1, 1) := by decide +kernel
theorem dM_bin_19 : decode cM_bin 19 = .ok (.goto 4, 3) := by decide +kernel
theorem dM_bin_22 : decode cM_bin 22 = .ok (.iconst 0, 1) := by decide +kernel
theorem dM_bin_23 : decode cM_bin 23 = .ok (.invokevirtual 231, 3) := by decide +kernel
theorem dM_bin_26 : decode cM_bin 26 = .ok (.ifCond .eq 5, 3) := by decide +kernel
theorem dM_bin_29 : decode cM_bin 29 = .ok (.iconst 0, 1) := by decide +kernel
theorem dM_bin_30 : decode cM_bin 30 = .ok (.ireturn, 1) := by decide +kernel
theorem dM_bin_31 : decode cM_bin 31 = .ok (.aload_n 0, 1) := by decide +kernel
theorem dM_bin_32 : decode cM_bin 32 = .ok (.getfield 19, 3) := by decide +kernel
theorem dM_bin_35 : decode cM_bin 35 = .ok (.iload_n 1, 1) := by decide +kernel
theorem dM_bin_36 : decode cM_bin 36 = .ok (.baload, 1) := by decide +kernel
theorem dM_bin_37 : decode cM_bin 37 = .ok (.ifCond .eq 5, 3) := by decide +kernel
theorem dM_bin_40 : decode cM_bin 40 = .ok (.iload_n 2, 1) := by decide +kernel
theorem dM_bin_41 : decode cM_bin 41 = .ok (.ireturn, 1) := by decide +kernel
theorem dM_bin_42 : decode cM_bin 42 = .ok (.iconst 0, 1) := by decide +kernel
theorem dM_bin_43 : decode cM_bin 43 = .ok (.istore_n 3, 1) := by decide +kernel
theorem dM_bin_44 : decode cM_bin 44 = .ok (.iconst 0, 1) := by decide +kernel
theorem dM_bin_45 : decode cM_bin 45 = .ok (.istore 4, 2) := by decide +kernel
theorem dM_bin_47 : decode cM_bin 47 = .ok (.iload 4, 2) := by decide +kernel
theorem dM_bin_49 : decode cM_bin 49 = .ok (.aload_n 0, 1) := by decide +kernel
theorem dM_bin_50 : decode cM_bin 50 = .ok (.getfield 26, 3) := by decide +kernel
theorem dM_bin_53 : decode cM_bin 53 = .ok (.iload_n 1, 1) := by decide +kernel
theorem dM_bin_54 : decode cM_bin 54 = .ok (.iaload, 1) := by decide +kernel
theorem dM_bin_55 : decode cM_bin 55 = .ok (.if_icmp .ge 33, 3) := by decide +kernel
theorem dM_bin_58 : decode cM_bin 58 = .ok (.iload_n 3, 1) := by decide +kernel
theorem dM_bin_59 : decode cM_bin 59 = .ok (.aload_n 0, 1) := by decide +kernel
theorem dM_bin_60 : decode cM_bin 60 = .ok (.getfield 23, 3) := by decide +kernel
theorem dM_bin_63 : decode cM_bin 63 = .ok (.bipush 11, 2) := by decide +kernel
theorem dM_bin_65 : decode cM_bin 65 = .ok (.iload_n 1, 1) := by decide +kernel
theorem dM_bin_66 : decode cM_bin 66 = .ok (.imul, 1) := by decide +kernel
theorem dM_bin_67 : decode cM_bin 67 = .ok (.iload 4, 2) := by decide +kernel
theorem dM_bin_69 : decode cM_bin 69 = .ok (.iadd, 1) := by decide +kernel
theorem dM_bin_70 : decode cM_bin 70 = .ok (.iaload, 1) := by decide +kernel
theorem dM_bin_71 : decode cM_bin 71 = .ok (.iload_n 2, 1) := by decide +kernel
theorem dM_bin_72 : decode cM_bin 72 = .ok (.if_icmp .gt 7, 3) := by decide +kernel
theorem dM_bin_75 : decode cM_bin 75 = .ok (.iconst 1, 1) := by decide +kernel
theorem dM_bin_76 : decode cM_bin 76 = .ok (.goto 4, 3) := by decide +kernel
theorem dM_bin_79 : decode cM_bin 79 = .ok (.iconst 0, 1) := by decide +kernel
theorem dM_bin_80 : decode cM_bin 80 = .ok (.iadd, 1) := by decide +kernel
theorem dM_bin_81 : decode cM_bin 81 = .ok (.istore_n 3, 1) := by decide +kernel
theorem dM_bin_82 : decode cM_bin 82 = .ok (.iinc 4 1, 3) := by decide +kernel
theorem dM_bin_85 : decode cM_bin 85 = .ok (.goto (-38), 3) := by decide +kernel
theorem dM_bin_88 : decode cM_bin 88 = .ok (.iload_n 3, 1) := by decide +kernel
theorem dM_bin_89 : decode cM_bin 89 = .ok (.ireturn, 1) := by decide +kernel
theorem dM_uses_0 : decode cM_uses 0 = .ok (.aload_n 0, 1) := by decide +kernel
theorem dM_uses_1 : decode cM_uses 1 = .ok (.aload_n 0, 1) := by decide +kernel
theorem dM_uses_2 : decode cM_uses 2 = .ok (.iload_n 1, 1) := by decide +kernel
theorem dM_uses_3 : decode cM_uses 3 = .ok (.invokevirtual 243, 3) := by decide +kernel
theorem dM_uses_6 : decode cM_uses 6 = .ok (.ifCond .eq 7, 3) := by decide +kernel
theorem dM_uses_9 : decode cM_uses 9 = .ok (.iconst 1, 1) := by decide +kernel
theorem dM_uses_10 : decode cM_uses 10 = .ok (.goto 4, 3) := by decide +kernel
theorem dM_uses_13 : decode cM_uses 13 = .ok (.iconst 0, 1) := by decide +kernel
theorem dM_uses_14 : decode cM_uses 14 = .ok (.invokevirtual 231, 3) := by decide +kernel
theorem dM_uses_17 : decode cM_uses 17 = .ok (.ifCond .eq 5, 3) := by decide +kernel
theorem dM_uses_20 : decode cM_uses 20 = .ok (.iconst 0, 1) := by decide +kernel
theorem dM_uses_21 : decode cM_uses 21 = .ok (.ireturn, 1) := by decide +kernel
theorem dM_uses_22 : decode cM_uses 22 = .ok (.iconst 0, 1) := by decide +kernel
theorem dM_uses_23 : decode cM_uses 23 = .ok (.istore_n 2, 1) := by decide +kernel
theorem dM_uses_24 : decode cM_uses 24 = .ok (.iconst 0, 1) := by decide +kernel
theorem dM_uses_25 : decode cM_uses 25 = .ok (.istore_n 3, 1) := by decide +kernel
theorem dM_uses_26 : decode cM_uses 26 = .ok (.iload_n 3, 1) := by decide +kernel
theorem dM_uses_27 : decode cM_uses 27 = .ok (.aload_n 0, 1) := by decide +kernel
theorem dM_uses_28 : decode cM_uses 28 = .ok (.getfield 196, 3) := by decide +kernel
theorem dM_uses_31 : decode cM_uses 31 = .ok (.if_icmp .ge 53, 3) := by decide +kernel
theorem dM_uses_34 : decode cM_uses 34 = .ok (.iconst 0, 1) := by decide +kernel
theorem dM_uses_35 : decode cM_uses 35 = .ok (.istore 4, 2) := by decide +kernel
theorem dM_uses_37 : decode cM_uses 37 = .ok (.iload 4, 2) := by decide +kernel
theorem dM_uses_39 : decode cM_uses 39 = .ok (.aload_n 0, 1) := by decide +kernel
theorem dM_uses_40 : decode cM_uses 40 = .ok (.getfield 32, 3) := by decide +kernel
theorem dM_uses_43 : decode cM_uses 43 = .ok (.iload_n 3, 1) := by decide +kernel
theorem dM_uses_44 : decode cM_uses 44 = .ok (.iaload, 1) := by decide +kernel
theorem dM_uses_45 : decode cM_uses 45 = .ok (.if_icmp .ge 33, 3) := by decide +kernel
theorem dM_uses_48 : decode cM_uses 48 = .ok (.iload_n 2, 1) := by decide +kernel
theorem dM_uses_49 : decode cM_uses 49 = .ok (.aload_n 0, 1) := by decide +kernel
theorem dM_uses_50 : decode cM_uses 50 = .ok (.getfield 35, 3) := by decide +kernel
theorem dM_uses_53 : decode cM_uses 53 = .ok (.bipush 31, 2) := by decide +kernel
theorem dM_uses_55 : decode cM_uses 55 = .ok (.iload_n 3, 1) := by decide +kernel
theorem dM_uses_56 : decode cM_uses 56 = .ok (.imul, 1) := by decide +kernel
theorem dM_uses_57 : decode cM_uses 57 = .ok (.iload 4, 2) := by decide +kernel
theorem dM_uses_59 : decode cM_uses 59 = .ok (.iadd, 1) := by decide +kernel
theorem dM_uses_60 : decode cM_uses 60 = .ok (.iaload, 1) := by decide +kernel
theorem dM_uses_61 : decode cM_uses 61 = .ok (.iload_n 1, 1) := by decide +kernel
theorem dM_uses_62 : decode cM_uses 62 = .ok (.if_icmp .ne 7, 3) := by decide +kernel
theorem dM_uses_65 : decode cM_uses 65 = .ok (.iconst 1, 1) := by decide +kernel
theorem dM_uses_66 : decode cM_uses 66 = .ok (.goto 4, 3) := by decide +kernel
theorem dM_uses_69 : decode cM_uses 69 = .ok (.iconst 0, 1) := by decide +kernel
theorem dM_uses_70 : decode cM_uses 70 = .ok (.iadd, 1) := by decide +kernel
theorem dM_uses_71 : decode cM_uses 71 = .ok (.istore_n 2, 1) := by decide +kernel
theorem dM_uses_72 : decode cM_uses 72 = .ok (.iinc 4 1, 3) := by decide +kernel
theorem dM_uses_75 : decode cM_uses 75 = .ok (.goto (-38), 3) := by decide +kernel
theorem dM_uses_78 : decode cM_uses 78 = .ok (.iinc 3 1, 3) := by decide +kernel
theorem dM_uses_81 : decode cM_uses 81 = .ok (.goto (-55), 3) := by decide +kernel
theorem dM_uses_84 : decode cM_uses 84 = .ok (.iload_n 2, 1) := by decide +kernel
theorem dM_uses_85 : decode cM_uses 85 = .ok (.ireturn, 1) := by decide +kernel
