theorem dC_cutEdges_0 : decode cC_cutEdges 0 = .ok (.aload_n 0, 1) := by decide +kernel
theorem dC_cutEdges_1 : decode cC_cutEdges 1 = .ok (.iconst 0, 1) := by decide +kernel
theorem dC_cutEdges_2 : decode cC_cutEdges 2 = .ok (.putfield 30, 3) := by decide +kernel
theorem dC_cutEdges_5 : decode cC_cutEdges 5 = .ok (.iload 4, 2) := by decide +kernel
theorem dC_cutEdges_7 : decode cC_cutEdges 7 = .ok (.ifCond .ne 5, 3) := by decide +kernel
theorem dC_cutEdges_10 : decode cC_cutEdges 10 = .ok (.iconst 0, 1) := by decide +kernel
theorem dC_cutEdges_11 : decode cC_cutEdges 11 = .ok (.ireturn, 1) := by decide +kernel
theorem dC_cutEdges_12 : decode cC_cutEdges 12 = .ok (.aload_n 3, 1) := by decide +kernel
theorem dC_cutEdges_13 : decode cC_cutEdges 13 = .ok (.iconst 0, 1) := by decide +kernel
theorem dC_cutEdges_14 : decode cC_cutEdges 14 = .ok (.iaload, 1) := by decide +kernel
theorem dC_cutEdges_15 : decode cC_cutEdges 15 = .ok (.istore 5, 2) := by decide +kernel
theorem dC_cutEdges_17 : decode cC_cutEdges 17 = .ok (.aload_n 3, 1) := by decide +kernel
theorem dC_cutEdges_18 : decode cC_cutEdges 18 = .ok (.iload 4, 2) := by decide +kernel
theorem dC_cutEdges_20 : decode cC_cutEdges 20 = .ok (.iconst 1, 1) := by decide +kernel
theorem dC_cutEdges_21 : decode cC_cutEdges 21 = .ok (.isub, 1) := by decide +kernel
theorem dC_cutEdges_22 : decode cC_cutEdges 22 = .ok (.iaload, 1) := by decide +kernel
theorem dC_cutEdges_23 : decode cC_cutEdges 23 = .ok (.iload 5, 2) := by decide +kernel
theorem dC_cutEdges_25 : decode cC_cutEdges 25 = .ok (.isub, 1) := by decide +kernel
theorem dC_cutEdges_26 : decode cC_cutEdges 26 = .ok (.iconst 1, 1) := by decide +kernel
theorem dC_cutEdges_27 : decode cC_cutEdges 27 = .ok (.iadd, 1) := by decide +kernel
theorem dC_cutEdges_28 : decode cC_cutEdges 28 = .ok (.istore 6, 2) := by decide +kernel
theorem dC_cutEdges_30 : decode cC_cutEdges 30 = .ok (.iload 5, 2) := by decide +kernel
theorem dC_cutEdges_32 : decode cC_cutEdges 32 = .ok (.istore 7, 2) := by decide +kernel
theorem dC_cutEdges_34 : decode cC_cutEdges 34 = .ok (.iconst 1, 1) := by decide +kernel
theorem dC_cutEdges_35 : decode cC_cutEdges 35 = .ok (.istore 8, 2) := by decide +kernel
theorem dC_cutEdges_37 : decode cC_cutEdges 37 = .ok (.iload 8, 2) := by decide +kernel
theorem dC_cutEdges_39 : decode cC_cutEdges 39 = .ok (.iload_n 2, 1) := by decide +kernel
theorem dC_cutEdges_40 : decode cC_cutEdges 40 = .ok (.if_icmp .ge 66, 3) := by decide +kernel
theorem dC_cutEdges_43 : decode cC_cutEdges 43 = .ok (.iload_n 1, 1) := by decide +kernel
theorem dC_cutEdges_44 : decode cC_cutEdges 44 = .ok (.ifCond .eq 15, 3) := by decide +kernel
theorem dC_cutEdges_47 : decode cC_cutEdges 47 = .ok (.aload_n 3, 1) := by decide +kernel
theorem dC_cutEdges_48 : decode cC_cutEdges 48 = .ok (.iload 8, 2) := by decide +kernel
theorem dC_cutEdges_50 : decode cC_cutEdges 50 = .ok (.iload 4, 2) := by decide +kernel
theorem dC_cutEdges_52 : decode cC_cutEdges 52 = .ok (.imul, 1) := by decide +kernel
theorem dC_cutEdges_53 : decode cC_cutEdges 53 = .ok (.iload_n 2, 1) := by decide +kernel
theorem dC_cutEdges_54 : decode cC_cutEdges 54 = .ok (.idiv, 1) := by decide +kernel
theorem dC_cutEdges_55 : decode cC_cutEdges 55 = .ok (.iaload, 1) := by decide +kernel
theorem dC_cutEdges_56 : decode cC_cutEdges 56 = .ok (.goto 13, 3) := by decide +kernel
theorem dC_cutEdges_59 : decode cC_cutEdges 59 = .ok (.iload 5, 2) := by decide +kernel
theorem dC_cutEdges_61 : decode cC_cutEdges 61 = .ok (.iload 8, 2) := by decide +kernel
theorem dC_cutEdges_63 : decode cC_cutEdges 63 = .ok (.iload 6, 2) := by decide +kernel
theorem dC_cutEdges_65 : decode cC_cutEdges 65 = .ok (.imul, 1) := by decide +kernel
theorem dC_cutEdges_66 : decode cC_cutEdges 66 = .ok (.iload_n 2, 1) := by decide +kernel
theorem dC_cutEdges_67 : decode cC_cutEdges 67 = .ok (.idiv, 1) := by decide +kernel
theorem dC_cutEdges_68 : decode cC_cutEdges 68 = .ok (.iadd, 1) := by decide +kernel
theorem dC_cutEdges_69 : decode cC_cutEdges 69 = .ok (.istore 9, 2) := by decide +kernel
theorem dC_cutEdges_71 : decode cC_cutEdges 71 = .ok (.iload 9, 2) := by decide +kernel
theorem dC_cutEdges_73 : decode cC_cutEdges 73 = .ok (.iload 7, 2) := by decide +kernel
theorem dC_cutEdges_75 : decode cC_cutEdges 75 = .ok (.if_icmp .le 25, 3) := by decide +kernel
theorem dC_cutEdges_78 : decode cC_cutEdges 78 = .ok (.aload_n 0, 1) := by decide +kernel
theorem dC_cutEdges_79 : decode cC_cutEdges 79 = .ok (.getfield 15, 3) := by decide +kernel
theorem dC_cutEdges_82 : decode cC_cutEdges 82 = .ok (.aload_n 0, 1) := by decide +kernel
theorem dC_cutEdges_83 : decode cC_cutEdges 83 = .ok (.dup, 1) := by decide +kernel
theorem dC_cutEdges_84 : decode cC_cutEdges 84 = .ok (.getfield 30, 3) := by decide +kernel
theorem dC_cutEdges_87 : decode cC_cutEdges 87 = .ok (.dup_x1, 1) := by decide +kernel
theorem dC_cutEdges_88 : decode cC_cutEdges 88 = .ok (.iconst 1, 1) := by decide +kernel
theorem dC_cutEdges_89 : decode cC_cutEdges 89 = .ok (.iadd, 1) := by decide +kernel
theorem dC_cutEdges_90 : decode cC_cutEdges 90 = .ok (.putfield 30, 3) := by decide +kernel
theorem dC_cutEdges_93 : decode cC_cutEdges 93 = .ok (.iload 9, 2) := by decide +kernel
theorem dC_cutEdges_95 : decode cC_cutEdges 95 = .ok (.iastore, 1) := by decide +kernel
theorem dC_cutEdges_96 : decode cC_cutEdges 96 = .ok (.iload 9, 2) := by decide +kernel
theorem dC_cutEdges_98 : decode cC_cutEdges 98 = .ok (.istore 7, 2) := by decide +kernel
theorem dC_cutEdges_100 : decode cC_cutEdges 100 = .ok (.iinc 8 1, 3) := by decide +kernel
theorem dC_cutEdges_103 : decode cC_cutEdges 103 = .ok (.goto (-66), 3) := by decide +kernel
theorem dC_cutEdges_106 : decode cC_cutEdges 106 = .ok (.aload_n 0, 1) := by decide +kernel
theorem dC_cutEdges_107 : decode cC_cutEdges 107 = .ok (.getfield 30, 3) := by decide +kernel
theorem dC_cutEdges_110 : decode cC_cutEdges 110 = .ok (.ireturn, 1) := by decide +kernel
