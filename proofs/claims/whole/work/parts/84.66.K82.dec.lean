theorem dR_train_0 : decode cR_train 0 = .ok (.iload_n 1, 1) := by decide +kernel
theorem dR_train_1 : decode cR_train 1 = .ok (.iconst 1, 1) := by decide +kernel
theorem dR_train_2 : decode cR_train 2 = .ok (.bipush 16, 2) := by decide +kernel
theorem dR_train_4 : decode cR_train 4 = .ok (.invokestatic 82, 3) := by decide +kernel
theorem dR_train_7 : decode cR_train 7 = .ok (.invokestatic 86, 3) := by decide +kernel
theorem dR_train_10 : decode cR_train 10 = .ok (.aload_n 0, 1) := by decide +kernel
theorem dR_train_11 : decode cR_train 11 = .ok (.getfield 19, 3) := by decide +kernel
theorem dR_train_14 : decode cR_train 14 = .ok (.getfield 171, 3) := by decide +kernel
theorem dR_train_17 : decode cR_train 17 = .ok (.aload_n 0, 1) := by decide +kernel
theorem dR_train_18 : decode cR_train 18 = .ok (.getfield 12, 3) := by decide +kernel
theorem dR_train_21 : decode cR_train 21 = .ok (.invokevirtual 178, 3) := by decide +kernel
theorem dR_train_24 : decode cR_train 24 = .ok (.land, 1) := by decide +kernel
theorem dR_train_25 : decode cR_train 25 = .ok (.lstore_n 2, 1) := by decide +kernel
theorem dR_train_26 : decode cR_train 26 = .ok (.lload_n 2, 1) := by decide +kernel
theorem dR_train_27 : decode cR_train 27 = .ok (.lconst 0, 1) := by decide +kernel
theorem dR_train_28 : decode cR_train 28 = .ok (.lcmp, 1) := by decide +kernel
theorem dR_train_29 : decode cR_train 29 = .ok (.ifCond .eq 25, 3) := by decide +kernel
theorem dR_train_32 : decode cR_train 32 = .ok (.aload_n 0, 1) := by decide +kernel
theorem dR_train_33 : decode cR_train 33 = .ok (.getfield 19, 3) := by decide +kernel
theorem dR_train_36 : decode cR_train 36 = .ok (.getfield 175, 3) := by decide +kernel
theorem dR_train_39 : decode cR_train 39 = .ok (.aload_n 0, 1) := by decide +kernel
theorem dR_train_40 : decode cR_train 40 = .ok (.getfield 12, 3) := by decide +kernel
theorem dR_train_43 : decode cR_train 43 = .ok (.invokevirtual 188, 3) := by decide +kernel
theorem dR_train_46 : decode cR_train 46 = .ok (.iand, 1) := by decide +kernel
theorem dR_train_47 : decode cR_train 47 = .ok (.ifCond .eq 7, 3) := by decide +kernel
theorem dR_train_50 : decode cR_train 50 = .ok (.iconst 1, 1) := by decide +kernel
theorem dR_train_51 : decode cR_train 51 = .ok (.goto 4, 3) := by decide +kernel
theorem dR_train_54 : decode cR_train 54 = .ok (.iconst 0, 1) := by decide +kernel
theorem dR_train_55 : decode cR_train 55 = .ok (.invokestatic 98, 3) := by decide +kernel
theorem dR_train_58 : decode cR_train 58 = .ok (.aload_n 0, 1) := by decide +kernel
theorem dR_train_59 : decode cR_train 59 = .ok (.getfield 192, 3) := by decide +kernel
theorem dR_train_62 : decode cR_train 62 = .ok (.iload_n 1, 1) := by decide +kernel
theorem dR_train_63 : decode cR_train 63 = .ok (.iadd, 1) := by decide +kernel
theorem dR_train_64 : decode cR_train 64 = .ok (.bipush 16, 2) := by decide +kernel
theorem dR_train_66 : decode cR_train 66 = .ok (.if_icmp .gt 7, 3) := by decide +kernel
theorem dR_train_69 : decode cR_train 69 = .ok (.iconst 1, 1) := by decide +kernel
theorem dR_train_70 : decode cR_train 70 = .ok (.goto 4, 3) := by decide +kernel
theorem dR_train_73 : decode cR_train 73 = .ok (.iconst 0, 1) := by decide +kernel
theorem dR_train_74 : decode cR_train 74 = .ok (.invokestatic 98, 3) := by decide +kernel
theorem dR_train_77 : decode cR_train 77 = .ok (.aload_n 0, 1) := by decide +kernel
theorem dR_train_78 : decode cR_train 78 = .ok (.getfield 192, 3) := by decide +kernel
theorem dR_train_81 : decode cR_train 81 = .ok (.istore 4, 2) := by decide +kernel
theorem dR_train_83 : decode cR_train 83 = .ok (.iconst 0, 1) := by decide +kernel
theorem dR_train_84 : decode cR_train 84 = .ok (.istore 5, 2) := by decide +kernel
theorem dR_train_86 : decode cR_train 86 = .ok (.iload 5, 2) := by decide +kernel
theorem dR_train_88 : decode cR_train 88 = .ok (.iload_n 1, 1) := by decide +kernel
theorem dR_train_89 : decode cR_train 89 = .ok (.if_icmp .ge 77, 3) := by decide +kernel
theorem dR_train_92 : decode cR_train 92 = .ok (.aload_n 0, 1) := by decide +kernel
theorem dR_train_93 : decode cR_train 93 = .ok (.aload_n 0, 1) := by decide +kernel
theorem dR_train_94 : decode cR_train 94 = .ok (.getfield 192, 3) := by decide +kernel
theorem dR_train_97 : decode cR_train 97 = .ok (.invokevirtual 195, 3) := by decide +kernel
theorem dR_train_100 : decode cR_train 100 = .ok (.aload_n 0, 1) := by decide +kernel
theorem dR_train_101 : decode cR_train 101 = .ok (.invokevirtual 198, 3) := by decide +kernel
theorem dR_train_104 : decode cR_train 104 = .ok (.astore 6, 2) := by decide +kernel
theorem dR_train_106 : decode cR_train 106 = .ok (.aload_n 0, 1) := by decide +kernel
theorem dR_train_107 : decode cR_train 107 = .ok (.getfield 36, 3) := by decide +kernel
theorem dR_train_110 : decode cR_train 110 = .ok (.aload 6, 2) := by decide +kernel
theorem dR_train_112 : decode cR_train 112 = .ok (.lload_n 2, 1) := by decide +kernel
theorem dR_train_113 : decode cR_train 113 = .ok (.iconst 0, 1) := by decide +kernel
theorem dR_train_114 : decode cR_train 114 = .ok (.invokevirtual 202, 3) := by decide +kernel
theorem dR_train_117 : decode cR_train 117 = .ok (.pop, 1) := by decide +kernel
theorem dR_train_118 : decode cR_train 118 = .ok (.aload 6, 2) := by decide +kernel
theorem dR_train_120 : decode cR_train 120 = .ok (.aload_n 0, 1) := by decide +kernel
theorem dR_train_121 : decode cR_train 121 = .ok (.getfield 19, 3) := by decide +kernel
theorem dR_train_124 : decode cR_train 124 = .ok (.invokevirtual 206, 3) := by decide +kernel
theorem dR_train_127 : decode cR_train 127 = .ok (.aload_n 0, 1) := by decide +kernel
theorem dR_train_128 : decode cR_train 128 = .ok (.dup, 1) := by decide +kernel
theorem dR_train_129 : decode cR_train 129 = .ok (.getfield 192, 3) := by decide +kernel
theorem dR_train_132 : decode cR_train 132 = .ok (.iconst 1, 1) := by decide +kernel
theorem dR_train_133 : decode cR_train 133 = .ok (.iadd, 1) := by decide +kernel
theorem dR_train_134 : decode cR_train 134 = .ok (.putfield 192, 3) := by decide +kernel
theorem dR_train_137 : decode cR_train 137 = .ok (.aload_n 0, 1) := by decide +kernel
theorem dR_train_138 : decode cR_train 138 = .ok (.invokevirtual 212, 3) := by decide +kernel
theorem dR_train_141 : decode cR_train 141 = .ok (.sipush 1500, 3) := by decide +kernel
theorem dR_train_144 : decode cR_train 144 = .ok (.if_icmp .le 16, 3) := by decide +kernel
theorem dR_train_147 : decode cR_train 147 = .ok (.aload_n 0, 1) := by decide +kernel
theorem dR_train_148 : decode cR_train 148 = .ok (.dup, 1) := by decide +kernel
theorem dR_train_149 : decode cR_train 149 = .ok (.getfield 192, 3) := by decide +kernel
theorem dR_train_152 : decode cR_train 152 = .ok (.iconst 1, 1) := by decide +kernel
theorem dR_train_153 : decode cR_train 153 = .ok (.isub, 1) := by decide +kernel
theorem dR_train_154 : decode cR_train 154 = .ok (.putfield 192, 3) := by decide +kernel
theorem dR_train_157 : decode cR_train 157 = .ok (.goto 9, 3) := by decide +kernel
theorem dR_train_160 : decode cR_train 160 = .ok (.iinc 5 1, 3) := by decide +kernel
theorem dR_train_163 : decode cR_train 163 = .ok (.goto (-77), 3) := by decide +kernel
theorem dR_train_166 : decode cR_train 166 = .ok (.aload_n 0, 1) := by decide +kernel
theorem dR_train_167 : decode cR_train 167 = .ok (.getfield 192, 3) := by decide +kernel
theorem dR_train_170 : decode cR_train 170 = .ok (.iload 4, 2) := by decide +kernel
theorem dR_train_172 : decode cR_train 172 = .ok (.isub, 1) := by decide +kernel
theorem dR_train_173 : decode cR_train 173 = .ok (.ireturn, 1) := by decide +kernel
