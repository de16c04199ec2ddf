theorem dR_init_0 : decode cR_init 0 = .ok (.aload_n 0, 1) := by decide +kernel
theorem dR_init_1 : decode cR_init 1 = .ok (.invokespecial 3, 3) := by decide +kernel
theorem dR_init_4 : decode cR_init 4 = .ok (.aload_n 0, 1) := by decide +kernel
theorem dR_init_5 : decode cR_init 5 = .ok (.new 9, 3) := by decide +kernel
theorem dR_init_8 : decode cR_init 8 = .ok (.dup, 1) := by decide +kernel
theorem dR_init_9 : decode cR_init 9 = .ok (.invokespecial 11, 3) := by decide +kernel
theorem dR_init_12 : decode cR_init 12 = .ok (.putfield 12, 3) := by decide +kernel
theorem dR_init_15 : decode cR_init 15 = .ok (.aload_n 0, 1) := by decide +kernel
theorem dR_init_16 : decode cR_init 16 = .ok (.new 16, 3) := by decide +kernel
theorem dR_init_19 : decode cR_init 19 = .ok (.dup, 1) := by decide +kernel
theorem dR_init_20 : decode cR_init 20 = .ok (.invokespecial 18, 3) := by decide +kernel
theorem dR_init_23 : decode cR_init 23 = .ok (.putfield 19, 3) := by decide +kernel
theorem dR_init_26 : decode cR_init 26 = .ok (.aload_n 0, 1) := by decide +kernel
theorem dR_init_27 : decode cR_init 27 = .ok (.bipush 48, 2) := by decide +kernel
theorem dR_init_29 : decode cR_init 29 = .ok (.invokestatic 23, 3) := by decide +kernel
theorem dR_init_32 : decode cR_init 32 = .ok (.putfield 27, 3) := by decide +kernel
theorem dR_init_35 : decode cR_init 35 = .ok (.aload_n 0, 1) := by decide +kernel
theorem dR_init_36 : decode cR_init 36 = .ok (.new 31, 3) := by decide +kernel
theorem dR_init_39 : decode cR_init 39 = .ok (.dup, 1) := by decide +kernel
theorem dR_init_40 : decode cR_init 40 = .ok (.aload_n 0, 1) := by decide +kernel
theorem dR_init_41 : decode cR_init 41 = .ok (.getfield 12, 3) := by decide +kernel
theorem dR_init_44 : decode cR_init 44 = .ok (.aload_n 0, 1) := by decide +kernel
theorem dR_init_45 : decode cR_init 45 = .ok (.getfield 19, 3) := by decide +kernel
theorem dR_init_48 : decode cR_init 48 = .ok (.aload_n 0, 1) := by decide +kernel
theorem dR_init_49 : decode cR_init 49 = .ok (.getfield 27, 3) := by decide +kernel
theorem dR_init_52 : decode cR_init 52 = .ok (.invokespecial 33, 3) := by decide +kernel
theorem dR_init_55 : decode cR_init 55 = .ok (.putfield 36, 3) := by decide +kernel
theorem dR_init_58 : decode cR_init 58 = .ok (.aload_n 0, 1) := by decide +kernel
theorem dR_init_59 : decode cR_init 59 = .ok (.new 40, 3) := by decide +kernel
theorem dR_init_62 : decode cR_init 62 = .ok (.dup, 1) := by decide +kernel
theorem dR_init_63 : decode cR_init 63 = .ok (.invokespecial 42, 3) := by decide +kernel
theorem dR_init_66 : decode cR_init 66 = .ok (.putfield 43, 3) := by decide +kernel
theorem dR_init_69 : decode cR_init 69 = .ok (.aload_n 0, 1) := by decide +kernel
theorem dR_init_70 : decode cR_init 70 = .ok (.new 47, 3) := by decide +kernel
theorem dR_init_73 : decode cR_init 73 = .ok (.dup, 1) := by decide +kernel
theorem dR_init_74 : decode cR_init 74 = .ok (.invokespecial 49, 3) := by decide +kernel
theorem dR_init_77 : decode cR_init 77 = .ok (.putfield 50, 3) := by decide +kernel
theorem dR_init_80 : decode cR_init 80 = .ok (.aload_n 0, 1) := by decide +kernel
theorem dR_init_81 : decode cR_init 81 = .ok (.bipush 48, 2) := by decide +kernel
theorem dR_init_83 : decode cR_init 83 = .ok (.newarray .int, 2) := by decide +kernel
theorem dR_init_85 : decode cR_init 85 = .ok (.putfield 54, 3) := by decide +kernel
theorem dR_init_88 : decode cR_init 88 = .ok (.aload_n 0, 1) := by decide +kernel
theorem dR_init_89 : decode cR_init 89 = .ok (.new 58, 3) := by decide +kernel
theorem dR_init_92 : decode cR_init 92 = .ok (.dup, 1) := by decide +kernel
theorem dR_init_93 : decode cR_init 93 = .ok (.bipush 24, 2) := by decide +kernel
theorem dR_init_95 : decode cR_init 95 = .ok (.invokespecial 60, 3) := by decide +kernel
theorem dR_init_98 : decode cR_init 98 = .ok (.putfield 63, 3) := by decide +kernel
theorem dR_init_101 : decode cR_init 101 = .ok (.aload_n 0, 1) := by decide +kernel
theorem dR_init_102 : decode cR_init 102 = .ok (.new 58, 3) := by decide +kernel
theorem dR_init_105 : decode cR_init 105 = .ok (.dup, 1) := by decide +kernel
theorem dR_init_106 : decode cR_init 106 = .ok (.bipush 24, 2) := by decide +kernel
theorem dR_init_108 : decode cR_init 108 = .ok (.invokespecial 60, 3) := by decide +kernel
theorem dR_init_111 : decode cR_init 111 = .ok (.putfield 67, 3) := by decide +kernel
theorem dR_init_114 : decode cR_init 114 = .ok (.aload_n 0, 1) := by decide +kernel
theorem dR_init_115 : decode cR_init 115 = .ok (.new 58, 3) := by decide +kernel
theorem dR_init_118 : decode cR_init 118 = .ok (.dup, 1) := by decide +kernel
theorem dR_init_119 : decode cR_init 119 = .ok (.bipush 48, 2) := by decide +kernel
theorem dR_init_121 : decode cR_init 121 = .ok (.invokespecial 60, 3) := by decide +kernel
theorem dR_init_124 : decode cR_init 124 = .ok (.putfield 70, 3) := by decide +kernel
theorem dR_init_127 : decode cR_init 127 = .ok (.aload_n 0, 1) := by decide +kernel
theorem dR_init_128 : decode cR_init 128 = .ok (.new 58, 3) := by decide +kernel
theorem dR_init_131 : decode cR_init 131 = .ok (.dup, 1) := by decide +kernel
theorem dR_init_132 : decode cR_init 132 = .ok (.bipush 48, 2) := by decide +kernel
theorem dR_init_134 : decode cR_init 134 = .ok (.invokespecial 60, 3) := by decide +kernel
theorem dR_init_137 : decode cR_init 137 = .ok (.putfield 73, 3) := by decide +kernel
theorem dR_init_140 : decode cR_init 140 = .ok (.aload_n 0, 1) := by decide +kernel
theorem dR_init_141 : decode cR_init 141 = .ok (.new 58, 3) := by decide +kernel
theorem dR_init_144 : decode cR_init 144 = .ok (.dup, 1) := by decide +kernel
theorem dR_init_145 : decode cR_init 145 = .ok (.bipush 48, 2) := by decide +kernel
theorem dR_init_147 : decode cR_init 147 = .ok (.invokespecial 60, 3) := by decide +kernel
theorem dR_init_150 : decode cR_init 150 = .ok (.putfield 76, 3) := by decide +kernel
theorem dR_init_153 : decode cR_init 153 = .ok (.aload_n 0, 1) := by decide +kernel
theorem dR_init_154 : decode cR_init 154 = .ok (.iconst 1, 1) := by decide +kernel
theorem dR_init_155 : decode cR_init 155 = .ok (.invokevirtual 79, 3) := by decide +kernel
theorem dR_init_158 : decode cR_init 158 = .ok (.return_, 1) := by decide +kernel
