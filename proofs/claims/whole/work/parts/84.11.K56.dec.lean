theorem dR_best_0 : decode cR_best 0 = .ok (.lload_n 1, 1) := by decide +kernel
theorem dR_best_1 : decode cR_best 1 = .ok (.aload_n 0, 1) := by decide +kernel
theorem dR_best_2 : decode cR_best 2 = .ok (.getfield 12, 3) := by decide +kernel
theorem dR_best_5 : decode cR_best 5 = .ok (.invokevirtual 178, 3) := by decide +kernel
theorem dR_best_8 : decode cR_best 8 = .ok (.land, 1) := by decide +kernel
theorem dR_best_9 : decode cR_best 9 = .ok (.lstore_n 3, 1) := by decide +kernel
theorem dR_best_10 : decode cR_best 10 = .ok (.iconst 0, 1) := by decide +kernel
theorem dR_best_11 : decode cR_best 11 = .ok (.istore 5, 2) := by decide +kernel
theorem dR_best_13 : decode cR_best 13 = .ok (.aload_n 0, 1) := by decide +kernel
theorem dR_best_14 : decode cR_best 14 = .ok (.iconst 0, 1) := by decide +kernel
theorem dR_best_15 : decode cR_best 15 = .ok (.invokevirtual 195, 3) := by decide +kernel
theorem dR_best_18 : decode cR_best 18 = .ok (.aload_n 0, 1) := by decide +kernel
theorem dR_best_19 : decode cR_best 19 = .ok (.lload_n 3, 1) := by decide +kernel
theorem dR_best_20 : decode cR_best 20 = .ok (.invokevirtual 303, 3) := by decide +kernel
theorem dR_best_23 : decode cR_best 23 = .ok (.aload_n 0, 1) := by decide +kernel
theorem dR_best_24 : decode cR_best 24 = .ok (.getfield 76, 3) := by decide +kernel
theorem dR_best_27 : decode cR_best 27 = .ok (.aload_n 0, 1) := by decide +kernel
theorem dR_best_28 : decode cR_best 28 = .ok (.getfield 73, 3) := by decide +kernel
theorem dR_best_31 : decode cR_best 31 = .ok (.invokevirtual 275, 3) := by decide +kernel
theorem dR_best_34 : decode cR_best 34 = .ok (.iconst 0, 1) := by decide +kernel
theorem dR_best_35 : decode cR_best 35 = .ok (.istore 6, 2) := by decide +kernel
theorem dR_best_37 : decode cR_best 37 = .ok (.iload 6, 2) := by decide +kernel
theorem dR_best_39 : decode cR_best 39 = .ok (.aload_n 0, 1) := by decide +kernel
theorem dR_best_40 : decode cR_best 40 = .ok (.getfield 192, 3) := by decide +kernel
theorem dR_best_43 : decode cR_best 43 = .ok (.if_icmp .ge 119, 3) := by decide +kernel
theorem dR_best_46 : decode cR_best 46 = .ok (.aload_n 0, 1) := by decide +kernel
theorem dR_best_47 : decode cR_best 47 = .ok (.getfield 43, 3) := by decide +kernel
theorem dR_best_50 : decode cR_best 50 = .ok (.iload 6, 2) := by decide +kernel
theorem dR_best_52 : decode cR_best 52 = .ok (.invokevirtual 219, 3) := by decide +kernel
theorem dR_best_55 : decode cR_best 55 = .ok (.checkcast 207, 3) := by decide +kernel
theorem dR_best_58 : decode cR_best 58 = .ok (.astore 7, 2) := by decide +kernel
theorem dR_best_60 : decode cR_best 60 = .ok (.iconst 0, 1) := by decide +kernel
theorem dR_best_61 : decode cR_best 61 = .ok (.istore 8, 2) := by decide +kernel
theorem dR_best_63 : decode cR_best 63 = .ok (.iload 8, 2) := by decide +kernel
theorem dR_best_65 : decode cR_best 65 = .ok (.aload_n 0, 1) := by decide +kernel
theorem dR_best_66 : decode cR_best 66 = .ok (.getfield 12, 3) := by decide +kernel
theorem dR_best_69 : decode cR_best 69 = .ok (.getfield 94, 3) := by decide +kernel
theorem dR_best_72 : decode cR_best 72 = .ok (.if_icmp .ge 24, 3) := by decide +kernel
theorem dR_best_75 : decode cR_best 75 = .ok (.aload_n 0, 1) := by decide +kernel
theorem dR_best_76 : decode cR_best 76 = .ok (.aload 7, 2) := by decide +kernel
theorem dR_best_78 : decode cR_best 78 = .ok (.iload 8, 2) := by decide +kernel
theorem dR_best_80 : decode cR_best 80 = .ok (.aload_n 0, 1) := by decide +kernel
theorem dR_best_81 : decode cR_best 81 = .ok (.getfield 27, 3) := by decide +kernel
theorem dR_best_84 : decode cR_best 84 = .ok (.iload 8, 2) := by decide +kernel
theorem dR_best_86 : decode cR_best 86 = .ok (.aaload, 1) := by decide +kernel
theorem dR_best_87 : decode cR_best 87 = .ok (.invokevirtual 310, 3) := by decide +kernel
theorem dR_best_90 : decode cR_best 90 = .ok (.iinc 8 1, 3) := by decide +kernel
theorem dR_best_93 : decode cR_best 93 = .ok (.goto (-30), 3) := by decide +kernel
theorem dR_best_96 : decode cR_best 96 = .ok (.aload_n 0, 1) := by decide +kernel
theorem dR_best_97 : decode cR_best 97 = .ok (.lload_n 3, 1) := by decide +kernel
theorem dR_best_98 : decode cR_best 98 = .ok (.invokevirtual 303, 3) := by decide +kernel
theorem dR_best_101 : decode cR_best 101 = .ok (.aload_n 0, 1) := by decide +kernel
theorem dR_best_102 : decode cR_best 102 = .ok (.getfield 76, 3) := by decide +kernel
theorem dR_best_105 : decode cR_best 105 = .ok (.aload 7, 2) := by decide +kernel
theorem dR_best_107 : decode cR_best 107 = .ok (.getfield 314, 3) := by decide +kernel
theorem dR_best_110 : decode cR_best 110 = .ok (.invokevirtual 280, 3) := by decide +kernel
theorem dR_best_113 : decode cR_best 113 = .ok (.aload_n 0, 1) := by decide +kernel
theorem dR_best_114 : decode cR_best 114 = .ok (.getfield 76, 3) := by decide +kernel
theorem dR_best_117 : decode cR_best 117 = .ok (.aload 7, 2) := by decide +kernel
theorem dR_best_119 : decode cR_best 119 = .ok (.getfield 314, 3) := by decide +kernel
theorem dR_best_122 : decode cR_best 122 = .ok (.invokevirtual 280, 3) := by decide +kernel
theorem dR_best_125 : decode cR_best 125 = .ok (.aload_n 0, 1) := by decide +kernel
theorem dR_best_126 : decode cR_best 126 = .ok (.getfield 73, 3) := by decide +kernel
theorem dR_best_129 : decode cR_best 129 = .ok (.aload_n 0, 1) := by decide +kernel
theorem dR_best_130 : decode cR_best 130 = .ok (.getfield 76, 3) := by decide +kernel
theorem dR_best_133 : decode cR_best 133 = .ok (.invokevirtual 317, 3) := by decide +kernel
theorem dR_best_136 : decode cR_best 136 = .ok (.ifCond .ge 20, 3) := by decide +kernel
theorem dR_best_139 : decode cR_best 139 = .ok (.aload_n 0, 1) := by decide +kernel
theorem dR_best_140 : decode cR_best 140 = .ok (.getfield 76, 3) := by decide +kernel
theorem dR_best_143 : decode cR_best 143 = .ok (.aload_n 0, 1) := by decide +kernel
theorem dR_best_144 : decode cR_best 144 = .ok (.getfield 73, 3) := by decide +kernel
theorem dR_best_147 : decode cR_best 147 = .ok (.invokevirtual 275, 3) := by decide +kernel
theorem dR_best_150 : decode cR_best 150 = .ok (.iload 6, 2) := by decide +kernel
theorem dR_best_152 : decode cR_best 152 = .ok (.iconst 1, 1) := by decide +kernel
theorem dR_best_153 : decode cR_best 153 = .ok (.iadd, 1) := by decide +kernel
theorem dR_best_154 : decode cR_best 154 = .ok (.istore 5, 2) := by decide +kernel
theorem dR_best_156 : decode cR_best 156 = .ok (.iinc 6 1, 3) := by decide +kernel
theorem dR_best_159 : decode cR_best 159 = .ok (.goto (-122), 3) := by decide +kernel
theorem dR_best_162 : decode cR_best 162 = .ok (.iload 5, 2) := by decide +kernel
theorem dR_best_164 : decode cR_best 164 = .ok (.ireturn, 1) := by decide +kernel
