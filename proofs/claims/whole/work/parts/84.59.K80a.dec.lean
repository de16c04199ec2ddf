theorem dGr_grow_0 : decode cGr_grow 0 = .ok (.aload_n 1, 1) := by decide +kernel
theorem dGr_grow_1 : decode cGr_grow 1 = .ok (.lload_n 2, 1) := by decide +kernel
theorem dGr_grow_2 : decode cGr_grow 2 = .ok (.invokestatic 69, 3) := by decide +kernel
theorem dGr_grow_5 : decode cGr_grow 5 = .ok (.iload 4, 2) := by decide +kernel
theorem dGr_grow_7 : decode cGr_grow 7 = .ok (.invokevirtual 75, 3) := by decide +kernel
theorem dGr_grow_10 : decode cGr_grow 10 = .ok (.istore 5, 2) := by decide +kernel
theorem dGr_grow_12 : decode cGr_grow 12 = .ok (.aload_n 1, 1) := by decide +kernel
theorem dGr_grow_13 : decode cGr_grow 13 = .ok (.iload 5, 2) := by decide +kernel
theorem dGr_grow_15 : decode cGr_grow 15 = .ok (.invokevirtual 81, 3) := by decide +kernel
theorem dGr_grow_18 : decode cGr_grow 18 = .ok (.astore 6, 2) := by decide +kernel
theorem dGr_grow_20 : decode cGr_grow 20 = .ok (.aload_n 0, 1) := by decide +kernel
theorem dGr_grow_21 : decode cGr_grow 21 = .ok (.lload_n 2, 1) := by decide +kernel
theorem dGr_grow_22 : decode cGr_grow 22 = .ok (.aload 6, 2) := by decide +kernel
theorem dGr_grow_24 : decode cGr_grow 24 = .ok (.getfield 85, 3) := by decide +kernel
theorem dGr_grow_27 : decode cGr_grow 27 = .ok (.invokevirtual 90, 3) := by decide +kernel
theorem dGr_grow_30 : decode cGr_grow 30 = .ok (.iload 4, 2) := by decide +kernel
theorem dGr_grow_32 : decode cGr_grow 32 = .ok (.aload_n 0, 1) := by decide +kernel
theorem dGr_grow_33 : decode cGr_grow 33 = .ok (.getfield 61, 3) := by decide +kernel
theorem dGr_grow_36 : decode cGr_grow 36 = .ok (.getfield 94, 3) := by decide +kernel
theorem dGr_grow_39 : decode cGr_grow 39 = .ok (.if_icmp .ge 114, 3) := by decide +kernel
theorem dGr_grow_42 : decode cGr_grow 42 = .ok (.iload 4, 2) := by decide +kernel
theorem dGr_grow_44 : decode cGr_grow 44 = .ok (.iconst 4, 1) := by decide +kernel
theorem dGr_grow_45 : decode cGr_grow 45 = .ok (.if_icmp .ge 108, 3) := by decide +kernel
theorem dGr_grow_48 : decode cGr_grow 48 = .ok (.aload_n 0, 1) := by decide +kernel
theorem dGr_grow_49 : decode cGr_grow 49 = .ok (.aload 6, 2) := by decide +kernel
theorem dGr_grow_51 : decode cGr_grow 51 = .ok (.lload_n 2, 1) := by decide +kernel
theorem dGr_grow_52 : decode cGr_grow 52 = .ok (.invokevirtual 100, 3) := by decide +kernel
theorem dGr_grow_55 : decode cGr_grow 55 = .ok (.ifCond .eq 98, 3) := by decide +kernel
theorem dGr_grow_58 : decode cGr_grow 58 = .ok (.aload 6, 2) := by decide +kernel
theorem dGr_grow_60 : decode cGr_grow 60 = .ok (.aload_n 0, 1) := by decide +kernel
theorem dGr_grow_61 : decode cGr_grow 61 = .ok (.getfield 50, 3) := by decide +kernel
theorem dGr_grow_64 : decode cGr_grow 64 = .ok (.getfield 104, 3) := by decide +kernel
theorem dGr_grow_67 : decode cGr_grow 67 = .ok (.putfield 107, 3) := by decide +kernel
theorem dGr_grow_70 : decode cGr_grow 70 = .ok (.aload 6, 2) := by decide +kernel
theorem dGr_grow_72 : decode cGr_grow 72 = .ok (.aload_n 0, 1) := by decide +kernel
theorem dGr_grow_73 : decode cGr_grow 73 = .ok (.getfield 50, 3) := by decide +kernel
theorem dGr_grow_76 : decode cGr_grow 76 = .ok (.getfield 108, 3) := by decide +kernel
theorem dGr_grow_79 : decode cGr_grow 79 = .ok (.putfield 111, 3) := by decide +kernel
theorem dGr_grow_82 : decode cGr_grow 82 = .ok (.aload 6, 2) := by decide +kernel
theorem dGr_grow_84 : decode cGr_grow 84 = .ok (.aload_n 0, 1) := by decide +kernel
theorem dGr_grow_85 : decode cGr_grow 85 = .ok (.getfield 50, 3) := by decide +kernel
theorem dGr_grow_88 : decode cGr_grow 88 = .ok (.getfield 112, 3) := by decide +kernel
theorem dGr_grow_91 : decode cGr_grow 91 = .ok (.putfield 116, 3) := by decide +kernel
theorem dGr_grow_94 : decode cGr_grow 94 = .ok (.aload 6, 2) := by decide +kernel
theorem dGr_grow_96 : decode cGr_grow 96 = .ok (.aload_n 0, 1) := by decide +kernel
theorem dGr_grow_97 : decode cGr_grow 97 = .ok (.getfield 50, 3) := by decide +kernel
theorem dGr_grow_100 : decode cGr_grow 100 = .ok (.getfield 117, 3) := by decide +kernel
theorem dGr_grow_103 : decode cGr_grow 103 = .ok (.putfield 120, 3) := by decide +kernel
theorem dGr_grow_106 : decode cGr_grow 106 = .ok (.aload_n 0, 1) := by decide +kernel
theorem dGr_grow_107 : decode cGr_grow 107 = .ok (.getfield 50, 3) := by decide +kernel
theorem dGr_grow_110 : decode cGr_grow 110 = .ok (.getfield 121, 3) := by decide +kernel
theorem dGr_grow_113 : decode cGr_grow 113 = .ok (.lstore 7, 2) := by decide +kernel
theorem dGr_grow_115 : decode cGr_grow 115 = .ok (.aload 6, 2) := by decide +kernel
theorem dGr_grow_117 : decode cGr_grow 117 = .ok (.aload_n 0, 1) := by decide +kernel
theorem dGr_grow_118 : decode cGr_grow 118 = .ok (.aload_n 1, 1) := by decide +kernel
theorem dGr_grow_119 : decode cGr_grow 119 = .ok (.lload 7, 2) := by decide +kernel
theorem dGr_grow_121 : decode cGr_grow 121 = .ok (.iload 4, 2) := by decide +kernel
theorem dGr_grow_123 : decode cGr_grow 123 = .ok (.iconst 1, 1) := by decide +kernel
theorem dGr_grow_124 : decode cGr_grow 124 = .ok (.iadd, 1) := by decide +kernel
theorem dGr_grow_125 : decode cGr_grow 125 = .ok (.invokevirtual 125, 3) := by decide +kernel
theorem dGr_grow_128 : decode cGr_grow 128 = .ok (.putfield 129, 3) := by decide +kernel
theorem dGr_grow_131 : decode cGr_grow 131 = .ok (.aload 6, 2) := by decide +kernel
theorem dGr_grow_133 : decode cGr_grow 133 = .ok (.aload_n 0, 1) := by decide +kernel
theorem dGr_grow_134 : decode cGr_grow 134 = .ok (.aload_n 1, 1) := by decide +kernel
theorem dGr_grow_135 : decode cGr_grow 135 = .ok (.lload_n 2, 1) := by decide +kernel
theorem dGr_grow_136 : decode cGr_grow 136 = .ok (.lload 7, 2) := by decide +kernel
theorem dGr_grow_138 : decode cGr_grow 138 = .ok (.ldc2_w 132, 3) := by decide +kernel
theorem dGr_grow_141 : decode cGr_grow 141 = .ok (.lxor, 1) := by decide +kernel
theorem dGr_grow_142 : decode cGr_grow 142 = .ok (.land, 1) := by decide +kernel
theorem dGr_grow_143 : decode cGr_grow 143 = .ok (.iload 4, 2) := by decide +kernel
theorem dGr_grow_145 : decode cGr_grow 145 = .ok (.iconst 1, 1) := by decide +kernel
theorem dGr_grow_146 : decode cGr_grow 146 = .ok (.iadd, 1) := by decide +kernel
theorem dGr_grow_147 : decode cGr_grow 147 = .ok (.invokevirtual 125, 3) := by decide +kernel
theorem dGr_grow_150 : decode cGr_grow 150 = .ok (.putfield 134, 3) := by decide +kernel
theorem dGr_grow_153 : decode cGr_grow 153 = .ok (.iload 5, 2) := by decide +kernel
theorem dGr_grow_155 : decode cGr_grow 155 = .ok (.ireturn, 1) := by decide +kernel
