theorem dM_kinds_0 : decode cM_kinds 0 = .ok (.iconst 0, 1) := by decide +kernel
theorem dM_kinds_1 : decode cM_kinds 1 = .ok (.istore_n 3, 1) := by decide +kernel
theorem dM_kinds_2 : decode cM_kinds 2 = .ok (.iconst 0, 1) := by decide +kernel
theorem dM_kinds_3 : decode cM_kinds 3 = .ok (.istore 4, 2) := by decide +kernel
theorem dM_kinds_5 : decode cM_kinds 5 = .ok (.iload 4, 2) := by decide +kernel
theorem dM_kinds_7 : decode cM_kinds 7 = .ok (.aload_n 0, 1) := by decide +kernel
theorem dM_kinds_8 : decode cM_kinds 8 = .ok (.getfield 193, 3) := by decide +kernel
theorem dM_kinds_11 : decode cM_kinds 11 = .ok (.if_icmp .ge 59, 3) := by decide +kernel
theorem dM_kinds_14 : decode cM_kinds 14 = .ok (.aload_n 0, 1) := by decide +kernel
theorem dM_kinds_15 : decode cM_kinds 15 = .ok (.iload_n 1, 1) := by decide +kernel
theorem dM_kinds_16 : decode cM_kinds 16 = .ok (.invokevirtual 243, 3) := by decide +kernel
theorem dM_kinds_19 : decode cM_kinds 19 = .ok (.ifCond .ne 51, 3) := by decide +kernel
theorem dM_kinds_22 : decode cM_kinds 22 = .ok (.aload_n 0, 1) := by decide +kernel
theorem dM_kinds_23 : decode cM_kinds 23 = .ok (.getfield 16, 3) := by decide +kernel
theorem dM_kinds_26 : decode cM_kinds 26 = .ok (.bipush 6, 2) := by decide +kernel
theorem dM_kinds_28 : decode cM_kinds 28 = .ok (.iload 4, 2) := by decide +kernel
theorem dM_kinds_30 : decode cM_kinds 30 = .ok (.imul, 1) := by decide +kernel
theorem dM_kinds_31 : decode cM_kinds 31 = .ok (.iload_n 1, 1) := by decide +kernel
theorem dM_kinds_32 : decode cM_kinds 32 = .ok (.iadd, 1) := by decide +kernel
theorem dM_kinds_33 : decode cM_kinds 33 = .ok (.iaload, 1) := by decide +kernel
theorem dM_kinds_34 : decode cM_kinds 34 = .ok (.istore 5, 2) := by decide +kernel
theorem dM_kinds_36 : decode cM_kinds 36 = .ok (.iload_n 3, 1) := by decide +kernel
theorem dM_kinds_37 : decode cM_kinds 37 = .ok (.ifCond .ne 21, 3) := by decide +kernel
theorem dM_kinds_40 : decode cM_kinds 40 = .ok (.iload 5, 2) := by decide +kernel
theorem dM_kinds_42 : decode cM_kinds 42 = .ok (.ldc 226, 2) := by decide +kernel
theorem dM_kinds_44 : decode cM_kinds 44 = .ok (.if_icmp .eq 18, 3) := by decide +kernel
theorem dM_kinds_47 : decode cM_kinds 47 = .ok (.iload 5, 2) := by decide +kernel
theorem dM_kinds_49 : decode cM_kinds 49 = .ok (.iconst 0, 1) := by decide +kernel
theorem dM_kinds_50 : decode cM_kinds 50 = .ok (.bipush 11, 2) := by decide +kernel
theorem dM_kinds_52 : decode cM_kinds 52 = .ok (.invokestatic 227, 3) := by decide +kernel
theorem dM_kinds_55 : decode cM_kinds 55 = .ok (.ifCond .ne 7, 3) := by decide +kernel
theorem dM_kinds_58 : decode cM_kinds 58 = .ok (.iconst 1, 1) := by decide +kernel
theorem dM_kinds_59 : decode cM_kinds 59 = .ok (.goto 4, 3) := by decide +kernel
theorem dM_kinds_62 : decode cM_kinds 62 = .ok (.iconst 0, 1) := by decide +kernel
theorem dM_kinds_63 : decode cM_kinds 63 = .ok (.istore_n 3, 1) := by decide +kernel
theorem dM_kinds_64 : decode cM_kinds 64 = .ok (.iinc 4 1, 3) := by decide +kernel
theorem dM_kinds_67 : decode cM_kinds 67 = .ok (.goto (-62), 3) := by decide +kernel
theorem dM_kinds_70 : decode cM_kinds 70 = .ok (.aload_n 0, 1) := by decide +kernel
theorem dM_kinds_71 : decode cM_kinds 71 = .ok (.aload_n 0, 1) := by decide +kernel
theorem dM_kinds_72 : decode cM_kinds 72 = .ok (.iload_n 1, 1) := by decide +kernel
theorem dM_kinds_73 : decode cM_kinds 73 = .ok (.invokevirtual 243, 3) := by decide +kernel
theorem dM_kinds_76 : decode cM_kinds 76 = .ok (.ifCond .eq 7, 3) := by decide +kernel
theorem dM_kinds_79 : decode cM_kinds 79 = .ok (.iconst 1, 1) := by decide +kernel
theorem dM_kinds_80 : decode cM_kinds 80 = .ok (.goto 16, 3) := by decide +kernel
theorem dM_kinds_83 : decode cM_kinds 83 = .ok (.iload_n 2, 1) := by decide +kernel
theorem dM_kinds_84 : decode cM_kinds 84 = .ok (.ifCond .eq 11, 3) := by decide +kernel
theorem dM_kinds_87 : decode cM_kinds 87 = .ok (.iload_n 3, 1) := by decide +kernel
theorem dM_kinds_88 : decode cM_kinds 88 = .ok (.ifCond .eq 7, 3) := by decide +kernel
theorem dM_kinds_91 : decode cM_kinds 91 = .ok (.iconst 2, 1) := by decide +kernel
theorem dM_kinds_92 : decode cM_kinds 92 = .ok (.goto 4, 3) := by decide +kernel
theorem dM_kinds_95 : decode cM_kinds 95 = .ok (.iconst 0, 1) := by decide +kernel
theorem dM_kinds_96 : decode cM_kinds 96 = .ok (.invokevirtual 231, 3) := by decide +kernel
theorem dM_kinds_99 : decode cM_kinds 99 = .ok (.ifCond .eq 5, 3) := by decide +kernel
theorem dM_kinds_102 : decode cM_kinds 102 = .ok (.iconst 0, 1) := by decide +kernel
theorem dM_kinds_103 : decode cM_kinds 103 = .ok (.ireturn, 1) := by decide +kernel
theorem dM_kinds_104 : decode cM_kinds 104 = .ok (.aload_n 0, 1) := by decide +kernel
theorem dM_kinds_105 : decode cM_kinds 105 = .ok (.getfield 19, 3) := by decide +kernel
theorem dM_kinds_108 : decode cM_kinds 108 = .ok (.iload_n 1, 1) := by decide +kernel
theorem dM_kinds_109 : decode cM_kinds 109 = .ok (.baload, 1) := by decide +kernel
theorem dM_kinds_110 : decode cM_kinds 110 = .ok (.istore 4, 2) := by decide +kernel
theorem dM_kinds_112 : decode cM_kinds 112 = .ok (.aload_n 0, 1) := by decide +kernel
theorem dM_kinds_113 : decode cM_kinds 113 = .ok (.getfield 19, 3) := by decide +kernel
theorem dM_kinds_116 : decode cM_kinds 116 = .ok (.iload_n 1, 1) := by decide +kernel
theorem dM_kinds_117 : decode cM_kinds 117 = .ok (.iload_n 2, 1) := by decide +kernel
theorem dM_kinds_118 : decode cM_kinds 118 = .ok (.bastore, 1) := by decide +kernel
theorem dM_kinds_119 : decode cM_kinds 119 = .ok (.aload_n 0, 1) := by decide +kernel
theorem dM_kinds_120 : decode cM_kinds 120 = .ok (.getfield 26, 3) := by decide +kernel
theorem dM_kinds_123 : decode cM_kinds 123 = .ok (.iload_n 1, 1) := by decide +kernel
theorem dM_kinds_124 : decode cM_kinds 124 = .ok (.iconst 0, 1) := by decide +kernel
theorem dM_kinds_125 : decode cM_kinds 125 = .ok (.iastore, 1) := by decide +kernel
theorem dM_kinds_126 : decode cM_kinds 126 = .ok (.iload 4, 2) := by decide +kernel
theorem dM_kinds_128 : decode cM_kinds 128 = .ok (.ireturn, 1) := by decide +kernel
theorem dM_inOrder_0 : decode cM_inOrder 0 = .ok (.iconst 0, 1) := by decide +kernel
theorem dM_inOrder_1 : decode cM_inOrder 1 = .ok (.istore_n 3, 1) := by decide +kernel
theorem dM_inOrder_2 : decode cM_inOrder 2 = .ok (.iload_n 3, 1) := by decide +kernel
theorem dM_inOrder_3 : decode cM_inOrder 3 = .ok (.aload_n 0, 1) := by decide +kernel
theorem dM_inOrder_4 : decode cM_inOrder 4 = .ok (.getfield 193, 3) := by decide +kernel
theorem dM_inOrder_7 : decode cM_inOrder 7 = .ok (.if_icmp .ge 126, 3) := by decide +kernel
theorem dM_inOrder_10 : decode cM_inOrder 10 = .ok (.aload_n 0, 1) := by decide +kernel
theorem dM_inOrder_11 : decode cM_inOrder 11 = .ok (.getfield 16, 3) := by decide +kernel
theorem dM_inOrder_14 : decode cM_inOrder 14 = .ok (.bipush 6, 2) := by decide +kernel
theorem dM_inOrder_16 : decode cM_inOrder 16 = .ok (.iload_n 3, 1) := by decide +kernel
theorem dM_inOrder_17 : decode cM_inOrder 17 = .ok (.imul, 1) := by decide +kernel
theorem dM_inOrder_18 : decode cM_inOrder 18 = .ok (.iload_n 1, 1) := by decide +kernel
theorem dM_inOrder_19 : decode cM_inOrder 19 = .ok (.iadd, 1) := by decide +kernel
theorem dM_inOrder_20 : decode cM_inOrder 20 = .ok (.iaload, 1) := by decide +kernel
theorem dM_inOrder_21 : decode cM_inOrder 21 = .ok (.istore 4, 2) := by decide +kernel
theorem dM_inOrder_23 : decode cM_inOrder 23 = .ok (.iconst 0, 1) := by decide +kernel
theorem dM_inOrder_24 : decode cM_inOrder 24 = .ok (.istore 5, 2) := by decide +kernel
theorem dM_inOrder_26 : decode cM_inOrder 26 = .ok (.iconst 0, 1) := by decide +kernel
theorem dM_inOrder_27 : decode cM_inOrder 27 = .ok (.istore 6, 2) := by decide +kernel
theorem dM_inOrder_29 : decode cM_inOrder 29 = .ok (.iconst 0, 1) := by decide +kernel
theorem dM_inOrder_30 : decode cM_inOrder 30 = .ok (.istore 7, 2) := by decide +kernel
theorem dM_inOrder_32 : decode cM_inOrder 32 = .ok (.iload 7, 2) := by decide +kernel
theorem dM_inOrder_34 : decode cM_inOrder 34 = .ok (.aload_n 0, 1) := by decide +kernel
theorem dM_inOrder_35 : decode cM_inOrder 35 = .ok (.getfield 193, 3) := by decide +kernel
theorem dM_inOrder_38 : decode cM_inOrder 38 = .ok (.if_icmp .ge 64, 3) := by decide +kernel
theorem dM_inOrder_41 : decode cM_inOrder 41 = .ok (.aload_n 0, 1) := by decide +kernel
theorem dM_inOrder_42 : decode cM_inOrder 42 = .ok (.getfield 16, 3) := by decide +kernel
theorem dM_inOrder_45 : decode cM_inOrder 45 = .ok (.bipush 6, 2) := by decide +kernel
theorem dM_inOrder_47 : decode cM_inOrder 47 = .ok (.iload 7, 2) := by decide +kernel
theorem dM_inOrder_49 : decode cM_inOrder 49 = .ok (.imul, 1) := by decide +kernel
theorem dM_inOrder_50 : decode cM_inOrder 50 = .ok (.iload_n 1, 1) := by decide +kernel
theorem dM_inOrder_51 : decode cM_inOrder 51 = .ok (.iadd, 1) := by decide +kernel
theorem dM_inOrder_52 : decode cM_inOrder 52 = .ok (.iaload, 1) := by decide +kernel
theorem dM_inOrder_53 : decode cM_inOrder 53 = .ok (.istore 8, 2) := by decide +kernel
theorem dM_inOrder_55 : decode cM_inOrder 55 = .ok (.iload 5, 2) := by decide +kernel
theorem dM_inOrder_57 : decode cM_inOrder 57 = .ok (.iload 8, 2) := by decide +kernel
theorem dM_inOrder_59 : decode cM_inOrder 59 = .ok (.ldc 226, 2) := by decide +kernel
theorem dM_inOrder_61 : decode cM_inOrder 61 = .ok (.if_icmp .eq 14, 3) := by decide +kernel
theorem dM_inOrder_64 : decode cM_inOrder 64 = .ok (.iload 8, 2) := by decide +kernel
theorem dM_inOrder_66 : decode cM_inOrder 66 = .ok (.iload 4, 2) := by decide +kernel
theorem dM_inOrder_68 : decode cM_inOrder 68 = .ok (.if_icmp .ge 7, 3) := by decide +kernel
theorem dM_inOrder_71 : decode cM_inOrder 71 = .ok (.iconst 1, 1) := by decide +kernel
theorem dM_inOrder_72 : decode cM_inOrder 72 = .ok (.goto 4, 3) := by decide +kernel
theorem dM_inOrder_75 : decode cM_inOrder 75 = .ok (.iconst 0, 1) := by decide +kernel
theorem dM_inOrder_76 : decode cM_inOrder 76 = .ok (.iadd, 1) := by decide +kernel
theorem dM_inOrder_77 : decode cM_inOrder 77 = .ok (.istore 5, 2) := by decide +kernel
theorem dM_inOrder_79 : decode cM_inOrder 79 = .ok (.iload 6, 2) := by decide +kernel
theorem dM_inOrder_81 : decode cM_inOrder 81 = .ok (.iload 8, 2) := by decide +kernel
theorem dM_inOrder_83 : decode cM_inOrder 83 = .ok (.iload 4, 2) := by decide +kernel
theorem dM_inOrder_85 : decode cM_inOrder 85 = .ok (.if_icmp .ne 7, 3) := by decide +kernel
theorem dM_inOrder_88 : decode cM_inOrder 88 = .ok (.iconst 1, 1) := by decide +kernel
theorem dM_inOrder_89 : decode cM_inOrder 89 = .ok (.goto 4, 3) := by decide +kernel
theorem dM_inOrder_92 : decode cM_inOrder 92 = .ok (.iconst 0, 1) := by decide +kernel
theorem dM_inOrder_93 : decode cM_inOrder 93 = .ok (.iadd, 1) := by decide +kernel
theorem dM_inOrder_94 : decode cM_inOrder 94 = .ok (.istore 6, 2) := by decide +kernel
theorem dM_inOrder_96 : decode cM_inOrder 96 = .ok (.iinc 7 1, 3) := by decide +kernel
theorem dM_inOrder_99 : decode cM_inOrder 99 = .ok (.goto (-67), 3) := by decide +kernel
theorem dM_inOrder_102 : decode cM_inOrder 102 = .ok (.iload 4, 2) := by decide +kernel
theorem dM_inOrder_104 : decode cM_inOrder 104 = .ok (.ldc 226, 2) := by decide +kernel
theorem dM_inOrder_106 : decode cM_inOrder 106 = .ok (.if_icmp .eq 21, 3) := by decide +kernel
theorem dM_inOrder_109 : decode cM_inOrder 109 = .ok (.iload 5, 2) := by decide +kernel
theorem dM_inOrder_111 : decode cM_inOrder 111 = .ok (.iload_n 2, 1) := by decide +kernel
theorem dM_inOrder_112 : decode cM_inOrder 112 = .ok (.if_icmp .gt 15, 3) := by decide +kernel
theorem dM_inOrder_115 : decode cM_inOrder 115 = .ok (.iload_n 2, 1) := by decide +kernel
theorem dM_inOrder_116 : decode cM_inOrder 116 = .ok (.iload 5, 2) := by decide +kernel
theorem dM_inOrder_118 : decode cM_inOrder 118 = .ok (.iload 6, 2) := by decide +kernel
theorem dM_inOrder_120 : decode cM_inOrder 120 = .ok (.iadd, 1) := by decide +kernel
theorem dM_inOrder_121 : decode cM_inOrder 121 = .ok (.if_icmp .ge 6, 3) := by decide +kernel
theorem dM_inOrder_124 : decode cM_inOrder 124 = .ok (.iload 4, 2) := by decide +kernel
theorem dM_inOrder_126 : decode cM_inOrder 126 = .ok (.ireturn, 1) := by decide +kernel
theorem dM_inOrder_127 : decode cM_inOrder 127 = .ok (.iinc 3 1, 3) := by decide +kernel
theorem dM_inOrder_130 : decode cM_inOrder 130 = .ok (.goto (-128), 3) := by decide +kernel
theorem dM_inOrder_133 : decode cM_inOrder 133 = .ok (.iconst 0, 1) := by decide +kernel
theorem dM_inOrder_134 : decode cM_inOrder 134 = .ok (.ireturn, 1) := by decide +kernel
