theorem dGr_findSplit_0 : decode cGr_findSplit 0 = .ok (.aload_n 0, 1) := by decide +kernel
theorem dGr_findSplit_1 : decode cGr_findSplit 1 = .ok (.getfield 50, 3) := by decide +kernel
theorem dGr_findSplit_4 : decode cGr_findSplit 4 = .ok (.iconst (-1), 1) := by decide +kernel
theorem dGr_findSplit_5 : decode cGr_findSplit 5 = .ok (.putfield 104, 3) := by decide +kernel
theorem dGr_findSplit_8 : decode cGr_findSplit 8 = .ok (.iconst 0, 1) := by decide +kernel
theorem dGr_findSplit_9 : decode cGr_findSplit 9 = .ok (.istore 4, 2) := by decide +kernel
theorem dGr_findSplit_11 : decode cGr_findSplit 11 = .ok (.iload 4, 2) := by decide +kernel
theorem dGr_findSplit_13 : decode cGr_findSplit 13 = .ok (.aload_n 0, 1) := by decide +kernel
theorem dGr_findSplit_14 : decode cGr_findSplit 14 = .ok (.getfield 57, 3) := by decide +kernel
theorem dGr_findSplit_17 : decode cGr_findSplit 17 = .ok (.getfield 149, 3) := by decide +kernel
theorem dGr_findSplit_20 : decode cGr_findSplit 20 = .ok (.if_icmp .ge 33, 3) := by decide +kernel
theorem dGr_findSplit_23 : decode cGr_findSplit 23 = .ok (.aload_n 0, 1) := by decide +kernel
theorem dGr_findSplit_24 : decode cGr_findSplit 24 = .ok (.getfield 61, 3) := by decide +kernel
theorem dGr_findSplit_27 : decode cGr_findSplit 27 = .ok (.getfield 152, 3) := by decide +kernel
theorem dGr_findSplit_30 : decode cGr_findSplit 30 = .ok (.iload 4, 2) := by decide +kernel
theorem dGr_findSplit_32 : decode cGr_findSplit 32 = .ok (.ishr, 1) := by decide +kernel
theorem dGr_findSplit_33 : decode cGr_findSplit 33 = .ok (.iconst 1, 1) := by decide +kernel
theorem dGr_findSplit_34 : decode cGr_findSplit 34 = .ok (.iand, 1) := by decide +kernel
theorem dGr_findSplit_35 : decode cGr_findSplit 35 = .ok (.iconst 1, 1) := by decide +kernel
theorem dGr_findSplit_36 : decode cGr_findSplit 36 = .ok (.if_icmp .ne 11, 3) := by decide +kernel
theorem dGr_findSplit_39 : decode cGr_findSplit 39 = .ok (.aload_n 0, 1) := by decide +kernel
theorem dGr_findSplit_40 : decode cGr_findSplit 40 = .ok (.iload 4, 2) := by decide +kernel
theorem dGr_findSplit_42 : decode cGr_findSplit 42 = .ok (.aload_n 1, 1) := by decide +kernel
theorem dGr_findSplit_43 : decode cGr_findSplit 43 = .ok (.lload_n 2, 1) := by decide +kernel
theorem dGr_findSplit_44 : decode cGr_findSplit 44 = .ok (.invokevirtual 155, 3) := by decide +kernel
theorem dGr_findSplit_47 : decode cGr_findSplit 47 = .ok (.iinc 4 1, 3) := by decide +kernel
theorem dGr_findSplit_50 : decode cGr_findSplit 50 = .ok (.goto (-39), 3) := by decide +kernel
theorem dGr_findSplit_53 : decode cGr_findSplit 53 = .ok (.aload_n 0, 1) := by decide +kernel
theorem dGr_findSplit_54 : decode cGr_findSplit 54 = .ok (.getfield 50, 3) := by decide +kernel
theorem dGr_findSplit_57 : decode cGr_findSplit 57 = .ok (.getfield 104, 3) := by decide +kernel
theorem dGr_findSplit_60 : decode cGr_findSplit 60 = .ok (.iconst (-1), 1) := by decide +kernel
theorem dGr_findSplit_61 : decode cGr_findSplit 61 = .ok (.if_icmp .ne 5, 3) := by decide +kernel
theorem dGr_findSplit_64 : decode cGr_findSplit 64 = .ok (.iconst 0, 1) := by decide +kernel
theorem dGr_findSplit_65 : decode cGr_findSplit 65 = .ok (.ireturn, 1) := by decide +kernel
theorem dGr_findSplit_66 : decode cGr_findSplit 66 = .ok (.aload_n 0, 1) := by decide +kernel
theorem dGr_findSplit_67 : decode cGr_findSplit 67 = .ok (.getfield 41, 3) := by decide +kernel
theorem dGr_findSplit_70 : decode cGr_findSplit 70 = .ok (.aload_n 0, 1) := by decide +kernel
theorem dGr_findSplit_71 : decode cGr_findSplit 71 = .ok (.getfield 50, 3) := by decide +kernel
theorem dGr_findSplit_74 : decode cGr_findSplit 74 = .ok (.getfield 159, 3) := by decide +kernel
theorem dGr_findSplit_77 : decode cGr_findSplit 77 = .ok (.invokevirtual 162, 3) := by decide +kernel
theorem dGr_findSplit_80 : decode cGr_findSplit 80 = .ok (.aload_n 0, 1) := by decide +kernel
theorem dGr_findSplit_81 : decode cGr_findSplit 81 = .ok (.getfield 41, 3) := by decide +kernel
theorem dGr_findSplit_84 : decode cGr_findSplit 84 = .ok (.aload_n 1, 1) := by decide +kernel
theorem dGr_findSplit_85 : decode cGr_findSplit 85 = .ok (.getfield 165, 3) := by decide +kernel
theorem dGr_findSplit_88 : decode cGr_findSplit 88 = .ok (.aload_n 0, 1) := by decide +kernel
theorem dGr_findSplit_89 : decode cGr_findSplit 89 = .ok (.getfield 61, 3) := by decide +kernel
theorem dGr_findSplit_92 : decode cGr_findSplit 92 = .ok (.getfield 166, 3) := by decide +kernel
theorem dGr_findSplit_95 : decode cGr_findSplit 95 = .ok (.iadd, 1) := by decide +kernel
theorem dGr_findSplit_96 : decode cGr_findSplit 96 = .ok (.i2l, 1) := by decide +kernel
theorem dGr_findSplit_97 : decode cGr_findSplit 97 = .ok (.invokevirtual 169, 3) := by decide +kernel
theorem dGr_findSplit_100 : decode cGr_findSplit 100 = .ok (.aload_n 0, 1) := by decide +kernel
theorem dGr_findSplit_101 : decode cGr_findSplit 101 = .ok (.getfield 44, 3) := by decide +kernel
theorem dGr_findSplit_104 : decode cGr_findSplit 104 = .ok (.aload_n 1, 1) := by decide +kernel
theorem dGr_findSplit_105 : decode cGr_findSplit 105 = .ok (.getfield 85, 3) := by decide +kernel
theorem dGr_findSplit_108 : decode cGr_findSplit 108 = .ok (.aload_n 1, 1) := by decide +kernel
theorem dGr_findSplit_109 : decode cGr_findSplit 109 = .ok (.getfield 85, 3) := by decide +kernel
theorem dGr_findSplit_112 : decode cGr_findSplit 112 = .ok (.invokevirtual 173, 3) := by decide +kernel
theorem dGr_findSplit_115 : decode cGr_findSplit 115 = .ok (.aload_n 0, 1) := by decide +kernel
theorem dGr_findSplit_116 : decode cGr_findSplit 116 = .ok (.getfield 44, 3) := by decide +kernel
theorem dGr_findSplit_119 : decode cGr_findSplit 119 = .ok (.aload_n 0, 1) := by decide +kernel
theorem dGr_findSplit_120 : decode cGr_findSplit 120 = .ok (.getfield 50, 3) := by decide +kernel
theorem dGr_findSplit_123 : decode cGr_findSplit 123 = .ok (.getfield 177, 3) := by decide +kernel
theorem dGr_findSplit_126 : decode cGr_findSplit 126 = .ok (.i2l, 1) := by decide +kernel
theorem dGr_findSplit_127 : decode cGr_findSplit 127 = .ok (.invokevirtual 169, 3) := by decide +kernel
theorem dGr_findSplit_130 : decode cGr_findSplit 130 = .ok (.aload_n 0, 1) := by decide +kernel
theorem dGr_findSplit_131 : decode cGr_findSplit 131 = .ok (.getfield 41, 3) := by decide +kernel
theorem dGr_findSplit_134 : decode cGr_findSplit 134 = .ok (.aload_n 0, 1) := by decide +kernel
theorem dGr_findSplit_135 : decode cGr_findSplit 135 = .ok (.getfield 44, 3) := by decide +kernel
theorem dGr_findSplit_138 : decode cGr_findSplit 138 = .ok (.invokevirtual 180, 3) := by decide +kernel
theorem dGr_findSplit_141 : decode cGr_findSplit 141 = .ok (.ifCond .le 7, 3) := by decide +kernel
theorem dGr_findSplit_144 : decode cGr_findSplit 144 = .ok (.iconst 1, 1) := by decide +kernel
theorem dGr_findSplit_145 : decode cGr_findSplit 145 = .ok (.goto 4, 3) := by decide +kernel
theorem dGr_findSplit_148 : decode cGr_findSplit 148 = .ok (.iconst 0, 1) := by decide +kernel
theorem dGr_findSplit_149 : decode cGr_findSplit 149 = .ok (.ireturn, 1) := by decide +kernel
