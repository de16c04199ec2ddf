theorem dM_writeDigits_0 : decode cM_writeDigits 0 = .ok (.iconst 0, 1) := by decide +kernel
theorem dM_writeDigits_1 : decode cM_writeDigits 1 = .ok (.istore_n 2, 1) := by decide +kernel
theorem dM_writeDigits_2 : decode cM_writeDigits 2 = .ok (.aload_n 1, 1) := by decide +kernel
theorem dM_writeDigits_3 : decode cM_writeDigits 3 = .ok (.sipush 300, 3) := by decide +kernel
theorem dM_writeDigits_6 : decode cM_writeDigits 6 = .ok (.iaload, 1) := by decide +kernel
theorem dM_writeDigits_7 : decode cM_writeDigits 7 = .ok (.ifCond .gt 7, 3) := by decide +kernel
theorem dM_writeDigits_10 : decode cM_writeDigits 10 = .ok (.iload_n 2, 1) := by decide +kernel
theorem dM_writeDigits_11 : decode cM_writeDigits 11 = .ok (.ifCond .ne 51, 3) := by decide +kernel
theorem dM_writeDigits_14 : decode cM_writeDigits 14 = .ok (.aload_n 1, 1) := by decide +kernel
theorem dM_writeDigits_15 : decode cM_writeDigits 15 = .ok (.sipush 10000, 3) := by decide +kernel
theorem dM_writeDigits_18 : decode cM_writeDigits 18 = .ok (.invokestatic 174, 3) := by decide +kernel
theorem dM_writeDigits_21 : decode cM_writeDigits 21 = .ok (.istore_n 3, 1) := by decide +kernel
theorem dM_writeDigits_22 : decode cM_writeDigits 22 = .ok (.iconst 0, 1) := by decide +kernel
theorem dM_writeDigits_23 : decode cM_writeDigits 23 = .ok (.istore 4, 2) := by decide +kernel
theorem dM_writeDigits_25 : decode cM_writeDigits 25 = .ok (.iload 4, 2) := by decide +kernel
theorem dM_writeDigits_27 : decode cM_writeDigits 27 = .ok (.iconst 4, 1) := by decide +kernel
theorem dM_writeDigits_28 : decode cM_writeDigits 28 = .ok (.if_icmp .ge 31, 3) := by decide +kernel
theorem dM_writeDigits_31 : decode cM_writeDigits 31 = .ok (.aload_n 0, 1) := by decide +kernel
theorem dM_writeDigits_32 : decode cM_writeDigits 32 = .ok (.getfield 124, 3) := by decide +kernel
theorem dM_writeDigits_35 : decode cM_writeDigits 35 = .ok (.iload_n 2, 1) := by decide +kernel
theorem dM_writeDigits_36 : decode cM_writeDigits 36 = .ok (.bipush 48, 2) := by decide +kernel
theorem dM_writeDigits_38 : decode cM_writeDigits 38 = .ok (.iload_n 3, 1) := by decide +kernel
theorem dM_writeDigits_39 : decode cM_writeDigits 39 = .ok (.bipush 10, 2) := by decide +kernel
theorem dM_writeDigits_41 : decode cM_writeDigits 41 = .ok (.irem, 1) := by decide +kernel
theorem dM_writeDigits_42 : decode cM_writeDigits 42 = .ok (.iadd, 1) := by decide +kernel
theorem dM_writeDigits_43 : decode cM_writeDigits 43 = .ok (.i2b, 1) := by decide +kernel
theorem dM_writeDigits_44 : decode cM_writeDigits 44 = .ok (.bastore, 1) := by decide +kernel
theorem dM_writeDigits_45 : decode cM_writeDigits 45 = .ok (.iload_n 3, 1) := by decide +kernel
theorem dM_writeDigits_46 : decode cM_writeDigits 46 = .ok (.bipush 10, 2) := by decide +kernel
theorem dM_writeDigits_48 : decode cM_writeDigits 48 = .ok (.idiv, 1) := by decide +kernel
theorem dM_writeDigits_49 : decode cM_writeDigits 49 = .ok (.istore_n 3, 1) := by decide +kernel
theorem dM_writeDigits_50 : decode cM_writeDigits 50 = .ok (.iinc 2 1, 3) := by decide +kernel
theorem dM_writeDigits_53 : decode cM_writeDigits 53 = .ok (.iinc 4 1, 3) := by decide +kernel
theorem dM_writeDigits_56 : decode cM_writeDigits 56 = .ok (.goto (-31), 3) := by decide +kernel
theorem dM_writeDigits_59 : decode cM_writeDigits 59 = .ok (.goto (-57), 3) := by decide +kernel
theorem dM_writeDigits_62 : decode cM_writeDigits 62 = .ok (.iload_n 2, 1) := by decide +kernel
theorem dM_writeDigits_63 : decode cM_writeDigits 63 = .ok (.iconst 1, 1) := by decide +kernel
theorem dM_writeDigits_64 : decode cM_writeDigits 64 = .ok (.if_icmp .le 22, 3) := by decide +kernel
theorem dM_writeDigits_67 : decode cM_writeDigits 67 = .ok (.aload_n 0, 1) := by decide +kernel
theorem dM_writeDigits_68 : decode cM_writeDigits 68 = .ok (.getfield 124, 3) := by decide +kernel
theorem dM_writeDigits_71 : decode cM_writeDigits 71 = .ok (.iload_n 2, 1) := by decide +kernel
theorem dM_writeDigits_72 : decode cM_writeDigits 72 = .ok (.iconst 1, 1) := by decide +kernel
theorem dM_writeDigits_73 : decode cM_writeDigits 73 = .ok (.isub, 1) := by decide +kernel
theorem dM_writeDigits_74 : decode cM_writeDigits 74 = .ok (.baload, 1) := by decide +kernel
theorem dM_writeDigits_75 : decode cM_writeDigits 75 = .ok (.bipush 48, 2) := by decide +kernel
theorem dM_writeDigits_77 : decode cM_writeDigits 77 = .ok (.if_icmp .ne 9, 3) := by decide +kernel
theorem dM_writeDigits_80 : decode cM_writeDigits 80 = .ok (.iinc 2 (-1), 3) := by decide +kernel
theorem dM_writeDigits_83 : decode cM_writeDigits 83 = .ok (.goto (-21), 3) := by decide +kernel
theorem dM_writeDigits_86 : decode cM_writeDigits 86 = .ok (.iload_n 2, 1) := by decide +kernel
theorem dM_writeDigits_87 : decode cM_writeDigits 87 = .ok (.iconst 1, 1) := by decide +kernel
theorem dM_writeDigits_88 : decode cM_writeDigits 88 = .ok (.isub, 1) := by decide +kernel
theorem dM_writeDigits_89 : decode cM_writeDigits 89 = .ok (.istore_n 3, 1) := by decide +kernel
theorem dM_writeDigits_90 : decode cM_writeDigits 90 = .ok (.iload_n 3, 1) := by decide +kernel
theorem dM_writeDigits_91 : decode cM_writeDigits 91 = .ok (.ifCond .lt 34, 3) := by decide +kernel
theorem dM_writeDigits_94 : decode cM_writeDigits 94 = .ok (.aload_n 0, 1) := by decide +kernel
theorem dM_writeDigits_95 : decode cM_writeDigits 95 = .ok (.getfield 120, 3) := by decide +kernel
theorem dM_writeDigits_98 : decode cM_writeDigits 98 = .ok (.aload_n 0, 1) := by decide +kernel
theorem dM_writeDigits_99 : decode cM_writeDigits 99 = .ok (.getfield 199, 3) := by decide +kernel
theorem dM_writeDigits_102 : decode cM_writeDigits 102 = .ok (.aload_n 0, 1) := by decide +kernel
theorem dM_writeDigits_103 : decode cM_writeDigits 103 = .ok (.getfield 124, 3) := by decide +kernel
theorem dM_writeDigits_106 : decode cM_writeDigits 106 = .ok (.iload_n 3, 1) := by decide +kernel
theorem dM_writeDigits_107 : decode cM_writeDigits 107 = .ok (.baload, 1) := by decide +kernel
theorem dM_writeDigits_108 : decode cM_writeDigits 108 = .ok (.bastore, 1) := by decide +kernel
theorem dM_writeDigits_109 : decode cM_writeDigits 109 = .ok (.aload_n 0, 1) := by decide +kernel
theorem dM_writeDigits_110 : decode cM_writeDigits 110 = .ok (.dup, 1) := by decide +kernel
theorem dM_writeDigits_111 : decode cM_writeDigits 111 = .ok (.getfield 199, 3) := by decide +kernel
theorem dM_writeDigits_114 : decode cM_writeDigits 114 = .ok (.iconst 1, 1) := by decide +kernel
theorem dM_writeDigits_115 : decode cM_writeDigits 115 = .ok (.iadd, 1) := by decide +kernel
theorem dM_writeDigits_116 : decode cM_writeDigits 116 = .ok (.putfield 199, 3) := by decide +kernel
theorem dM_writeDigits_119 : decode cM_writeDigits 119 = .ok (.iinc 3 (-1), 3) := by decide +kernel
theorem dM_writeDigits_122 : decode cM_writeDigits 122 = .ok (.goto (-32), 3) := by decide +kernel
theorem dM_writeDigits_125 : decode cM_writeDigits 125 = .ok (.return_, 1) := by decide +kernel
