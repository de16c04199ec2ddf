theorem dM_train_0 : decode cM_train 0 = .ok (.aload_n 0, 1) := by decide +kernel
theorem dM_train_1 : decode cM_train 1 = .ok (.getfield 219, 3) := by decide +kernel
theorem dM_train_4 : decode cM_train 4 = .ok (.aload_n 0, 1) := by decide +kernel
theorem dM_train_5 : decode cM_train 5 = .ok (.invokevirtual 254, 3) := by decide +kernel
theorem dM_train_8 : decode cM_train 8 = .ok (.land, 1) := by decide +kernel
theorem dM_train_9 : decode cM_train 9 = .ok (.lconst 0, 1) := by decide +kernel
theorem dM_train_10 : decode cM_train 10 = .ok (.lcmp, 1) := by decide +kernel
theorem dM_train_11 : decode cM_train 11 = .ok (.ifCond .eq 19, 3) := by decide +kernel
theorem dM_train_14 : decode cM_train 14 = .ok (.aload_n 0, 1) := by decide +kernel
theorem dM_train_15 : decode cM_train 15 = .ok (.getfield 223, 3) := by decide +kernel
theorem dM_train_18 : decode cM_train 18 = .ok (.iconst 1, 1) := by decide +kernel
theorem dM_train_19 : decode cM_train 19 = .ok (.aload_n 0, 1) := by decide +kernel
theorem dM_train_20 : decode cM_train 20 = .ok (.getfield 190, 3) := by decide +kernel
theorem dM_train_23 : decode cM_train 23 = .ok (.ishl, 1) := by decide +kernel
theorem dM_train_24 : decode cM_train 24 = .ok (.iconst 1, 1) := by decide +kernel
theorem dM_train_25 : decode cM_train 25 = .ok (.isub, 1) := by decide +kernel
theorem dM_train_26 : decode cM_train 26 = .ok (.iand, 1) := by decide +kernel
theorem dM_train_27 : decode cM_train 27 = .ok (.ifCond .ne 7, 3) := by decide +kernel
theorem dM_train_30 : decode cM_train 30 = .ok (.iconst 1, 1) := by decide +kernel
theorem dM_train_31 : decode cM_train 31 = .ok (.goto 4, 3) := by decide +kernel
theorem dM_train_34 : decode cM_train 34 = .ok (.iconst 0, 1) := by decide +kernel
theorem dM_train_35 : decode cM_train 35 = .ok (.istore_n 2, 1) := by decide +kernel
theorem dM_train_36 : decode cM_train 36 = .ok (.aload_n 0, 1) := by decide +kernel
theorem dM_train_37 : decode cM_train 37 = .ok (.iload_n 1, 1) := by decide +kernel
theorem dM_train_38 : decode cM_train 38 = .ok (.iconst 1, 1) := by decide +kernel
theorem dM_train_39 : decode cM_train 39 = .ok (.bipush 16, 2) := by decide +kernel
theorem dM_train_41 : decode cM_train 41 = .ok (.invokestatic 227, 3) := by decide +kernel
theorem dM_train_44 : decode cM_train 44 = .ok (.ifCond .ne 7, 3) := by decide +kernel
theorem dM_train_47 : decode cM_train 47 = .ok (.iconst 1, 1) := by decide +kernel
theorem dM_train_48 : decode cM_train 48 = .ok (.goto 23, 3) := by decide +kernel
theorem dM_train_51 : decode cM_train 51 = .ok (.iload_n 2, 1) := by decide +kernel
theorem dM_train_52 : decode cM_train 52 = .ok (.ifCond .ne 14, 3) := by decide +kernel
theorem dM_train_55 : decode cM_train 55 = .ok (.aload_n 0, 1) := by decide +kernel
theorem dM_train_56 : decode cM_train 56 = .ok (.getfield 196, 3) := by decide +kernel
theorem dM_train_59 : decode cM_train 59 = .ok (.iload_n 1, 1) := by decide +kernel
theorem dM_train_60 : decode cM_train 60 = .ok (.iadd, 1) := by decide +kernel
theorem dM_train_61 : decode cM_train 61 = .ok (.bipush 16, 2) := by decide +kernel
theorem dM_train_63 : decode cM_train 63 = .ok (.if_icmp .le 7, 3) := by decide +kernel
theorem dM_train_66 : decode cM_train 66 = .ok (.iconst 2, 1) := by decide +kernel
theorem dM_train_67 : decode cM_train 67 = .ok (.goto 4, 3) := by decide +kernel
theorem dM_train_70 : decode cM_train 70 = .ok (.iconst 0, 1) := by decide +kernel
theorem dM_train_71 : decode cM_train 71 = .ok (.invokevirtual 231, 3) := by decide +kernel
theorem dM_train_74 : decode cM_train 74 = .ok (.ifCond .eq 5, 3) := by decide +kernel
theorem dM_train_77 : decode cM_train 77 = .ok (.iconst 0, 1) := by decide +kernel
theorem dM_train_78 : decode cM_train 78 = .ok (.ireturn, 1) := by decide +kernel
theorem dM_train_79 : decode cM_train 79 = .ok (.aload_n 0, 1) := by decide +kernel
theorem dM_train_80 : decode cM_train 80 = .ok (.getfield 196, 3) := by decide +kernel
theorem dM_train_83 : decode cM_train 83 = .ok (.istore_n 3, 1) := by decide +kernel
theorem dM_train_84 : decode cM_train 84 = .ok (.iconst 1, 1) := by decide +kernel
theorem dM_train_85 : decode cM_train 85 = .ok (.istore 4, 2) := by decide +kernel
theorem dM_train_87 : decode cM_train 87 = .ok (.iconst 0, 1) := by decide +kernel
theorem dM_train_88 : decode cM_train 88 = .ok (.istore 5, 2) := by decide +kernel
theorem dM_train_90 : decode cM_train 90 = .ok (.iload 5, 2) := by decide +kernel
theorem dM_train_92 : decode cM_train 92 = .ok (.iload_n 1, 1) := by decide +kernel
theorem dM_train_93 : decode cM_train 93 = .ok (.if_icmp .ge 87, 3) := by decide +kernel
theorem dM_train_96 : decode cM_train 96 = .ok (.iload 4, 2) := by decide +kernel
theorem dM_train_98 : decode cM_train 98 = .ok (.ifCond .eq 82, 3) := by decide +kernel
theorem dM_train_101 : decode cM_train 101 = .ok (.aload_n 0, 1) := by decide +kernel
theorem dM_train_102 : decode cM_train 102 = .ok (.invokevirtual 300, 3) := by decide +kernel
theorem dM_train_105 : decode cM_train 105 = .ok (.aload_n 0, 1) := by decide +kernel
theorem dM_train_106 : decode cM_train 106 = .ok (.getfield 32, 3) := by decide +kernel
theorem dM_train_109 : decode cM_train 109 = .ok (.aload_n 0, 1) := by decide +kernel
theorem dM_train_110 : decode cM_train 110 = .ok (.getfield 196, 3) := by decide +kernel
theorem dM_train_113 : decode cM_train 113 = .ok (.iconst 0, 1) := by decide +kernel
theorem dM_train_114 : decode cM_train 114 = .ok (.iastore, 1) := by decide +kernel
theorem dM_train_115 : decode cM_train 115 = .ok (.aload_n 0, 1) := by decide +kernel
theorem dM_train_116 : decode cM_train 116 = .ok (.aload_n 0, 1) := by decide +kernel
theorem dM_train_117 : decode cM_train 117 = .ok (.getfield 219, 3) := by decide +kernel
theorem dM_train_120 : decode cM_train 120 = .ok (.aload_n 0, 1) := by decide +kernel
theorem dM_train_121 : decode cM_train 121 = .ok (.invokevirtual 254, 3) := by decide +kernel
theorem dM_train_124 : decode cM_train 124 = .ok (.land, 1) := by decide +kernel
theorem dM_train_125 : decode cM_train 125 = .ok (.invokevirtual 303, 3) := by decide +kernel
theorem dM_train_128 : decode cM_train 128 = .ok (.aload_n 0, 1) := by decide +kernel
theorem dM_train_129 : decode cM_train 129 = .ok (.dup, 1) := by decide +kernel
theorem dM_train_130 : decode cM_train 130 = .ok (.getfield 196, 3) := by decide +kernel
theorem dM_train_133 : decode cM_train 133 = .ok (.iconst 1, 1) := by decide +kernel
theorem dM_train_134 : decode cM_train 134 = .ok (.iadd, 1) := by decide +kernel
theorem dM_train_135 : decode cM_train 135 = .ok (.putfield 196, 3) := by decide +kernel
theorem dM_train_138 : decode cM_train 138 = .ok (.aload_n 0, 1) := by decide +kernel
theorem dM_train_139 : decode cM_train 139 = .ok (.invokevirtual 307, 3) := by decide +kernel
theorem dM_train_142 : decode cM_train 142 = .ok (.sipush 1500, 3) := by decide +kernel
theorem dM_train_145 : decode cM_train 145 = .ok (.if_icmp .gt 7, 3) := by decide +kernel
theorem dM_train_148 : decode cM_train 148 = .ok (.iconst 1, 1) := by decide +kernel
theorem dM_train_149 : decode cM_train 149 = .ok (.goto 4, 3) := by decide +kernel
theorem dM_train_152 : decode cM_train 152 = .ok (.iconst 0, 1) := by decide +kernel
theorem dM_train_153 : decode cM_train 153 = .ok (.istore 4, 2) := by decide +kernel
theorem dM_train_155 : decode cM_train 155 = .ok (.aload_n 0, 1) := by decide +kernel
theorem dM_train_156 : decode cM_train 156 = .ok (.dup, 1) := by decide +kernel
theorem dM_train_157 : decode cM_train 157 = .ok (.getfield 196, 3) := by decide +kernel
theorem dM_train_160 : decode cM_train 160 = .ok (.iload 4, 2) := by decide +kernel
theorem dM_train_162 : decode cM_train 162 = .ok (.ifCond .eq 7, 3) := by decide +kernel
theorem dM_train_165 : decode cM_train 165 = .ok (.iconst 0, 1) := by decide +kernel
theorem dM_train_166 : decode cM_train 166 = .ok (.goto 4, 3) := by decide +kernel
theorem dM_train_169 : decode cM_train 169 = .ok (.iconst 1, 1) := by decide +kernel
theorem dM_train_170 : decode cM_train 170 = .ok (.isub, 1) := by decide +kernel
theorem dM_train_171 : decode cM_train 171 = .ok (.putfield 196, 3) := by decide +kernel
theorem dM_train_174 : decode cM_train 174 = .ok (.iinc 5 1, 3) := by decide +kernel
theorem dM_train_177 : decode cM_train 177 = .ok (.goto (-87), 3) := by decide +kernel
theorem dM_train_180 : decode cM_train 180 = .ok (.aload_n 0, 1) := by decide +kernel
theorem dM_train_181 : decode cM_train 181 = .ok (.getfield 196, 3) := by decide +kernel
theorem dM_train_184 : decode cM_train 184 = .ok (.iload_n 3, 1) := by decide +kernel
theorem dM_train_185 : decode cM_train 185 = .ok (.isub, 1) := by decide +kernel
theorem dM_train_186 : decode cM_train 186 = .ok (.ireturn, 1) := by decide +kernel
