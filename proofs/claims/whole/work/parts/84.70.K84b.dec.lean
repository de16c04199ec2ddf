theorem dL_kinds_0 : decode cL_kinds 0 = .ok (.aload_n 3, 1) := by decide +kernel
theorem dL_kinds_1 : decode cL_kinds 1 = .ok (.iconst 0, 1) := by decide +kernel
theorem dL_kinds_2 : decode cL_kinds 2 = .ok (.aload_n 0, 1) := by decide +kernel
theorem dL_kinds_3 : decode cL_kinds 3 = .ok (.iload_n 1, 1) := by decide +kernel
theorem dL_kinds_4 : decode cL_kinds 4 = .ok (.iload_n 2, 1) := by decide +kernel
theorem dL_kinds_5 : decode cL_kinds 5 = .ok (.invokevirtual 29, 3) := by decide +kernel
theorem dL_kinds_8 : decode cL_kinds 8 = .ok (.ifCond .eq 7, 3) := by decide +kernel
theorem dL_kinds_11 : decode cL_kinds 11 = .ok (.lconst 1, 1) := by decide +kernel
theorem dL_kinds_12 : decode cL_kinds 12 = .ok (.goto 4, 3) := by decide +kernel
theorem dL_kinds_15 : decode cL_kinds 15 = .ok (.lconst 0, 1) := by decide +kernel
theorem dL_kinds_16 : decode cL_kinds 16 = .ok (.lastore, 1) := by decide +kernel
theorem dL_kinds_17 : decode cL_kinds 17 = .ok (.goto 11, 3) := by decide +kernel
theorem dL_kinds_20 : decode cL_kinds 20 = .ok (.astore 4, 2) := by decide +kernel
theorem dL_kinds_22 : decode cL_kinds 22 = .ok (.iconst 1, 1) := by decide +kernel
theorem dL_kinds_23 : decode cL_kinds 23 = .ok (.ireturn, 1) := by decide +kernel
theorem dL_kinds_24 : decode cL_kinds 24 = .ok (.astore 4, 2) := by decide +kernel
theorem dL_kinds_26 : decode cL_kinds 26 = .ok (.iconst 2, 1) := by decide +kernel
theorem dL_kinds_27 : decode cL_kinds 27 = .ok (.ireturn, 1) := by decide +kernel
theorem dL_kinds_28 : decode cL_kinds 28 = .ok (.iconst 0, 1) := by decide +kernel
theorem dL_kinds_29 : decode cL_kinds 29 = .ok (.ireturn, 1) := by decide +kernel
theorem dL_cut_0 : decode cL_cut 0 = .ok (.aload 4, 2) := by decide +kernel
theorem dL_cut_2 : decode cL_cut 2 = .ok (.iconst 0, 1) := by decide +kernel
theorem dL_cut_3 : decode cL_cut 3 = .ok (.aload_n 0, 1) := by decide +kernel
theorem dL_cut_4 : decode cL_cut 4 = .ok (.iload_n 1, 1) := by decide +kernel
theorem dL_cut_5 : decode cL_cut 5 = .ok (.iload_n 2, 1) := by decide +kernel
theorem dL_cut_6 : decode cL_cut 6 = .ok (.iload_n 3, 1) := by decide +kernel
theorem dL_cut_7 : decode cL_cut 7 = .ok (.invokevirtual 33, 3) := by decide +kernel
theorem dL_cut_10 : decode cL_cut 10 = .ok (.i2l, 1) := by decide +kernel
theorem dL_cut_11 : decode cL_cut 11 = .ok (.lastore, 1) := by decide +kernel
theorem dL_cut_12 : decode cL_cut 12 = .ok (.goto 11, 3) := by decide +kernel
theorem dL_cut_15 : decode cL_cut 15 = .ok (.astore 5, 2) := by decide +kernel
theorem dL_cut_17 : decode cL_cut 17 = .ok (.iconst 1, 1) := by decide +kernel
theorem dL_cut_18 : decode cL_cut 18 = .ok (.ireturn, 1) := by decide +kernel
theorem dL_cut_19 : decode cL_cut 19 = .ok (.astore 5, 2) := by decide +kernel
theorem dL_cut_21 : decode cL_cut 21 = .ok (.iconst 2, 1) := by decide +kernel
theorem dL_cut_22 : decode cL_cut 22 = .ok (.ireturn, 1) := by decide +kernel
theorem dL_cut_23 : decode cL_cut 23 = .ok (.iconst 0, 1) := by decide +kernel
theorem dL_cut_24 : decode cL_cut 24 = .ok (.ireturn, 1) := by decide +kernel
theorem dL_edge_0 : decode cL_edge 0 = .ok (.aload_n 3, 1) := by decide +kernel
theorem dL_edge_1 : decode cL_edge 1 = .ok (.iconst 0, 1) := by decide +kernel
theorem dL_edge_2 : decode cL_edge 2 = .ok (.aload_n 0, 1) := by decide +kernel
theorem dL_edge_3 : decode cL_edge 3 = .ok (.iload_n 1, 1) := by decide +kernel
theorem dL_edge_4 : decode cL_edge 4 = .ok (.iload_n 2, 1) := by decide +kernel
theorem dL_edge_5 : decode cL_edge 5 = .ok (.invokevirtual 37, 3) := by decide +kernel
theorem dL_edge_8 : decode cL_edge 8 = .ok (.i2l, 1) := by decide +kernel
theorem dL_edge_9 : decode cL_edge 9 = .ok (.lastore, 1) := by decide +kernel
theorem dL_edge_10 : decode cL_edge 10 = .ok (.goto 7, 3) := by decide +kernel
theorem dL_edge_13 : decode cL_edge 13 = .ok (.astore 4, 2) := by decide +kernel
theorem dL_edge_15 : decode cL_edge 15 = .ok (.iconst 1, 1) := by decide +kernel
theorem dL_edge_16 : decode cL_edge 16 = .ok (.ireturn, 1) := by decide +kernel
theorem dL_edge_17 : decode cL_edge 17 = .ok (.iconst 0, 1) := by decide +kernel
theorem dL_edge_18 : decode cL_edge 18 = .ok (.ireturn, 1) := by decide +kernel
theorem dL_bin_0 : decode cL_bin 0 = .ok (.aload_n 3, 1) := by decide +kernel
theorem dL_bin_1 : decode cL_bin 1 = .ok (.iconst 0, 1) := by decide +kernel
theorem dL_bin_2 : decode cL_bin 2 = .ok (.aload_n 0, 1) := by decide +kernel
theorem dL_bin_3 : decode cL_bin 3 = .ok (.iload_n 1, 1) := by decide +kernel
theorem dL_bin_4 : decode cL_bin 4 = .ok (.iload_n 2, 1) := by decide +kernel
theorem dL_bin_5 : decode cL_bin 5 = .ok (.invokevirtual 40, 3) := by decide +kernel
theorem dL_bin_8 : decode cL_bin 8 = .ok (.i2l, 1) := by decide +kernel
theorem dL_bin_9 : decode cL_bin 9 = .ok (.lastore, 1) := by decide +kernel
theorem dL_bin_10 : decode cL_bin 10 = .ok (.goto 7, 3) := by decide +kernel
theorem dL_bin_13 : decode cL_bin 13 = .ok (.astore 4, 2) := by decide +kernel
theorem dL_bin_15 : decode cL_bin 15 = .ok (.iconst 1, 1) := by decide +kernel
theorem dL_bin_16 : decode cL_bin 16 = .ok (.ireturn, 1) := by decide +kernel
theorem dL_bin_17 : decode cL_bin 17 = .ok (.iconst 0, 1) := by decide +kernel
theorem dL_bin_18 : decode cL_bin 18 = .ok (.ireturn, 1) := by decide +kernel
