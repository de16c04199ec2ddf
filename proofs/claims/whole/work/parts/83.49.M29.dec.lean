theorem dM_write_0 : decode cM_write 0 = .ok (.aload_n 0, 1) := by decide +kernel
theorem dM_write_1 : decode cM_write 1 = .ok (.iconst 0, 1) := by decide +kernel
theorem dM_write_2 : decode cM_write 2 = .ok (.putfield 199, 3) := by decide +kernel
theorem dM_write_5 : decode cM_write 5 = .ok (.aload_n 1, 1) := by decide +kernel
theorem dM_write_6 : decode cM_write 6 = .ok (.sipush 301, 3) := by decide +kernel
theorem dM_write_9 : decode cM_write 9 = .ok (.iaload, 1) := by decide +kernel
theorem dM_write_10 : decode cM_write 10 = .ok (.ifCond .ge 16, 3) := by decide +kernel
theorem dM_write_13 : decode cM_write 13 = .ok (.aload_n 0, 1) := by decide +kernel
theorem dM_write_14 : decode cM_write 14 = .ok (.getfield 120, 3) := by decide +kernel
theorem dM_write_17 : decode cM_write 17 = .ok (.iconst 0, 1) := by decide +kernel
theorem dM_write_18 : decode cM_write 18 = .ok (.bipush 45, 2) := by decide +kernel
theorem dM_write_20 : decode cM_write 20 = .ok (.bastore, 1) := by decide +kernel
theorem dM_write_21 : decode cM_write 21 = .ok (.aload_n 0, 1) := by decide +kernel
theorem dM_write_22 : decode cM_write 22 = .ok (.iconst 1, 1) := by decide +kernel
theorem dM_write_23 : decode cM_write 23 = .ok (.putfield 199, 3) := by decide +kernel
theorem dM_write_26 : decode cM_write 26 = .ok (.aload_n 0, 1) := by decide +kernel
theorem dM_write_27 : decode cM_write 27 = .ok (.aload_n 1, 1) := by decide +kernel
theorem dM_write_28 : decode cM_write 28 = .ok (.invokevirtual 395, 3) := by decide +kernel
theorem dM_write_31 : decode cM_write 31 = .ok (.iconst 1, 1) := by decide +kernel
theorem dM_write_32 : decode cM_write 32 = .ok (.istore_n 3, 1) := by decide +kernel
theorem dM_write_33 : decode cM_write 33 = .ok (.aload_n 0, 1) := by decide +kernel
theorem dM_write_34 : decode cM_write 34 = .ok (.getfield 72, 3) := by decide +kernel
theorem dM_write_37 : decode cM_write 37 = .ok (.lconst 1, 1) := by decide +kernel
theorem dM_write_38 : decode cM_write 38 = .ok (.invokestatic 272, 3) := by decide +kernel
theorem dM_write_41 : decode cM_write 41 = .ok (.iconst 0, 1) := by decide +kernel
theorem dM_write_42 : decode cM_write 42 = .ok (.istore 4, 2) := by decide +kernel
theorem dM_write_44 : decode cM_write 44 = .ok (.iload 4, 2) := by decide +kernel
theorem dM_write_46 : decode cM_write 46 = .ok (.bipush 19, 2) := by decide +kernel
theorem dM_write_48 : decode cM_write 48 = .ok (.if_icmp .ge 58, 3) := by decide +kernel
theorem dM_write_51 : decode cM_write 51 = .ok (.iload_n 3, 1) := by decide +kernel
theorem dM_write_52 : decode cM_write 52 = .ok (.ifCond .eq 14, 3) := by decide +kernel
theorem dM_write_55 : decode cM_write 55 = .ok (.aload_n 2, 1) := by decide +kernel
theorem dM_write_56 : decode cM_write 56 = .ok (.iload 4, 2) := by decide +kernel
theorem dM_write_58 : decode cM_write 58 = .ok (.iaload, 1) := by decide +kernel
theorem dM_write_59 : decode cM_write 59 = .ok (.ifCond .ne 7, 3) := by decide +kernel
theorem dM_write_62 : decode cM_write 62 = .ok (.iconst 1, 1) := by decide +kernel
theorem dM_write_63 : decode cM_write 63 = .ok (.goto 4, 3) := by decide +kernel
theorem dM_write_66 : decode cM_write 66 = .ok (.iconst 0, 1) := by decide +kernel
theorem dM_write_67 : decode cM_write 67 = .ok (.istore_n 3, 1) := by decide +kernel
theorem dM_write_68 : decode cM_write 68 = .ok (.iconst 0, 1) := by decide +kernel
theorem dM_write_69 : decode cM_write 69 = .ok (.istore 5, 2) := by decide +kernel
theorem dM_write_71 : decode cM_write 71 = .ok (.iload 5, 2) := by decide +kernel
theorem dM_write_73 : decode cM_write 73 = .ok (.aload_n 2, 1) := by decide +kernel
theorem dM_write_74 : decode cM_write 74 = .ok (.iload 4, 2) := by decide +kernel
theorem dM_write_76 : decode cM_write 76 = .ok (.iaload, 1) := by decide +kernel
theorem dM_write_77 : decode cM_write 77 = .ok (.if_icmp .ge 23, 3) := by decide +kernel
theorem dM_write_80 : decode cM_write 80 = .ok (.aload_n 0, 1) := by decide +kernel
theorem dM_write_81 : decode cM_write 81 = .ok (.getfield 72, 3) := by decide +kernel
theorem dM_write_84 : decode cM_write 84 = .ok (.aload_n 0, 1) := by decide +kernel
theorem dM_write_85 : decode cM_write 85 = .ok (.getfield 7, 3) := by decide +kernel
theorem dM_write_88 : decode cM_write 88 = .ok (.iload 4, 2) := by decide +kernel
theorem dM_write_90 : decode cM_write 90 = .ok (.iaload, 1) := by decide +kernel
theorem dM_write_91 : decode cM_write 91 = .ok (.invokestatic 177, 3) := by decide +kernel
theorem dM_write_94 : decode cM_write 94 = .ok (.iinc 5 1, 3) := by decide +kernel
theorem dM_write_97 : decode cM_write 97 = .ok (.goto (-26), 3) := by decide +kernel
theorem dM_write_100 : decode cM_write 100 = .ok (.iinc 4 1, 3) := by decide +kernel
theorem dM_write_103 : decode cM_write 103 = .ok (.goto (-59), 3) := by decide +kernel
theorem dM_write_106 : decode cM_write 106 = .ok (.iload_n 3, 1) := by decide +kernel
theorem dM_write_107 : decode cM_write 107 = .ok (.ifCond .ne 32, 3) := by decide +kernel
theorem dM_write_110 : decode cM_write 110 = .ok (.aload_n 0, 1) := by decide +kernel
theorem dM_write_111 : decode cM_write 111 = .ok (.getfield 120, 3) := by decide +kernel
theorem dM_write_114 : decode cM_write 114 = .ok (.aload_n 0, 1) := by decide +kernel
theorem dM_write_115 : decode cM_write 115 = .ok (.getfield 199, 3) := by decide +kernel
theorem dM_write_118 : decode cM_write 118 = .ok (.bipush 47, 2) := by decide +kernel
theorem dM_write_120 : decode cM_write 120 = .ok (.bastore, 1) := by decide +kernel
theorem dM_write_121 : decode cM_write 121 = .ok (.aload_n 0, 1) := by decide +kernel
theorem dM_write_122 : decode cM_write 122 = .ok (.dup, 1) := by decide +kernel
theorem dM_write_123 : decode cM_write 123 = .ok (.getfield 199, 3) := by decide +kernel
theorem dM_write_126 : decode cM_write 126 = .ok (.iconst 1, 1) := by decide +kernel
theorem dM_write_127 : decode cM_write 127 = .ok (.iadd, 1) := by decide +kernel
theorem dM_write_128 : decode cM_write 128 = .ok (.putfield 199, 3) := by decide +kernel
theorem dM_write_131 : decode cM_write 131 = .ok (.aload_n 0, 1) := by decide +kernel
theorem dM_write_132 : decode cM_write 132 = .ok (.aload_n 0, 1) := by decide +kernel
theorem dM_write_133 : decode cM_write 133 = .ok (.getfield 72, 3) := by decide +kernel
theorem dM_write_136 : decode cM_write 136 = .ok (.invokevirtual 395, 3) := by decide +kernel
theorem dM_write_139 : decode cM_write 139 = .ok (.aload_n 0, 1) := by decide +kernel
theorem dM_write_140 : decode cM_write 140 = .ok (.getfield 199, 3) := by decide +kernel
theorem dM_write_143 : decode cM_write 143 = .ok (.ireturn, 1) := by decide +kernel
