theorem dGr_init_0 : decode cGr_init 0 = .ok (.aload_n 0, 1) := by decide +kernel
theorem dGr_init_1 : decode cGr_init 1 = .ok (.invokespecial 3, 3) := by decide +kernel
theorem dGr_init_4 : decode cGr_init 4 = .ok (.aload_n 0, 1) := by decide +kernel
theorem dGr_init_5 : decode cGr_init 5 = .ok (.bipush 12, 2) := by decide +kernel
theorem dGr_init_7 : decode cGr_init 7 = .ok (.anewarray 9, 3) := by decide +kernel
theorem dGr_init_10 : decode cGr_init 10 = .ok (.putfield 11, 3) := by decide +kernel
theorem dGr_init_13 : decode cGr_init 13 = .ok (.aload_n 0, 1) := by decide +kernel
theorem dGr_init_14 : decode cGr_init 14 = .ok (.bipush 12, 2) := by decide +kernel
theorem dGr_init_16 : decode cGr_init 16 = .ok (.newarray .int, 2) := by decide +kernel
theorem dGr_init_18 : decode cGr_init 18 = .ok (.putfield 17, 3) := by decide +kernel
theorem dGr_init_21 : decode cGr_init 21 = .ok (.aload_n 0, 1) := by decide +kernel
theorem dGr_init_22 : decode cGr_init 22 = .ok (.new 9, 3) := by decide +kernel
theorem dGr_init_25 : decode cGr_init 25 = .ok (.dup, 1) := by decide +kernel
theorem dGr_init_26 : decode cGr_init 26 = .ok (.invokespecial 21, 3) := by decide +kernel
theorem dGr_init_29 : decode cGr_init 29 = .ok (.putfield 22, 3) := by decide +kernel
theorem dGr_init_32 : decode cGr_init 32 = .ok (.aload_n 0, 1) := by decide +kernel
theorem dGr_init_33 : decode cGr_init 33 = .ok (.new 9, 3) := by decide +kernel
theorem dGr_init_36 : decode cGr_init 36 = .ok (.dup, 1) := by decide +kernel
theorem dGr_init_37 : decode cGr_init 37 = .ok (.invokespecial 21, 3) := by decide +kernel
theorem dGr_init_40 : decode cGr_init 40 = .ok (.putfield 26, 3) := by decide +kernel
theorem dGr_init_43 : decode cGr_init 43 = .ok (.aload_n 0, 1) := by decide +kernel
theorem dGr_init_44 : decode cGr_init 44 = .ok (.new 9, 3) := by decide +kernel
theorem dGr_init_47 : decode cGr_init 47 = .ok (.dup, 1) := by decide +kernel
theorem dGr_init_48 : decode cGr_init 48 = .ok (.invokespecial 21, 3) := by decide +kernel
theorem dGr_init_51 : decode cGr_init 51 = .ok (.putfield 29, 3) := by decide +kernel
theorem dGr_init_54 : decode cGr_init 54 = .ok (.aload_n 0, 1) := by decide +kernel
theorem dGr_init_55 : decode cGr_init 55 = .ok (.new 32, 3) := by decide +kernel
theorem dGr_init_58 : decode cGr_init 58 = .ok (.dup, 1) := by decide +kernel
theorem dGr_init_59 : decode cGr_init 59 = .ok (.bipush 24, 2) := by decide +kernel
theorem dGr_init_61 : decode cGr_init 61 = .ok (.invokespecial 34, 3) := by decide +kernel
theorem dGr_init_64 : decode cGr_init 64 = .ok (.putfield 37, 3) := by decide +kernel
theorem dGr_init_67 : decode cGr_init 67 = .ok (.aload_n 0, 1) := by decide +kernel
theorem dGr_init_68 : decode cGr_init 68 = .ok (.new 32, 3) := by decide +kernel
theorem dGr_init_71 : decode cGr_init 71 = .ok (.dup, 1) := by decide +kernel
theorem dGr_init_72 : decode cGr_init 72 = .ok (.bipush 48, 2) := by decide +kernel
theorem dGr_init_74 : decode cGr_init 74 = .ok (.invokespecial 34, 3) := by decide +kernel
theorem dGr_init_77 : decode cGr_init 77 = .ok (.putfield 41, 3) := by decide +kernel
theorem dGr_init_80 : decode cGr_init 80 = .ok (.aload_n 0, 1) := by decide +kernel
theorem dGr_init_81 : decode cGr_init 81 = .ok (.new 32, 3) := by decide +kernel
theorem dGr_init_84 : decode cGr_init 84 = .ok (.dup, 1) := by decide +kernel
theorem dGr_init_85 : decode cGr_init 85 = .ok (.bipush 48, 2) := by decide +kernel
theorem dGr_init_87 : decode cGr_init 87 = .ok (.invokespecial 34, 3) := by decide +kernel
theorem dGr_init_90 : decode cGr_init 90 = .ok (.putfield 44, 3) := by decide +kernel
theorem dGr_init_93 : decode cGr_init 93 = .ok (.aload_n 0, 1) := by decide +kernel
theorem dGr_init_94 : decode cGr_init 94 = .ok (.new 47, 3) := by decide +kernel
theorem dGr_init_97 : decode cGr_init 97 = .ok (.dup, 1) := by decide +kernel
theorem dGr_init_98 : decode cGr_init 98 = .ok (.invokespecial 49, 3) := by decide +kernel
theorem dGr_init_101 : decode cGr_init 101 = .ok (.putfield 50, 3) := by decide +kernel
theorem dGr_init_104 : decode cGr_init 104 = .ok (.aload_n 0, 1) := by decide +kernel
theorem dGr_init_105 : decode cGr_init 105 = .ok (.new 47, 3) := by decide +kernel
theorem dGr_init_108 : decode cGr_init 108 = .ok (.dup, 1) := by decide +kernel
theorem dGr_init_109 : decode cGr_init 109 = .ok (.invokespecial 49, 3) := by decide +kernel
theorem dGr_init_112 : decode cGr_init 112 = .ok (.putfield 54, 3) := by decide +kernel
theorem dGr_init_115 : decode cGr_init 115 = .ok (.aload_n 0, 1) := by decide +kernel
theorem dGr_init_116 : decode cGr_init 116 = .ok (.aload_n 1, 1) := by decide +kernel
theorem dGr_init_117 : decode cGr_init 117 = .ok (.putfield 57, 3) := by decide +kernel
theorem dGr_init_120 : decode cGr_init 120 = .ok (.aload_n 0, 1) := by decide +kernel
theorem dGr_init_121 : decode cGr_init 121 = .ok (.aload_n 2, 1) := by decide +kernel
theorem dGr_init_122 : decode cGr_init 122 = .ok (.putfield 61, 3) := by decide +kernel
theorem dGr_init_125 : decode cGr_init 125 = .ok (.aload_n 0, 1) := by decide +kernel
theorem dGr_init_126 : decode cGr_init 126 = .ok (.aload_n 3, 1) := by decide +kernel
theorem dGr_init_127 : decode cGr_init 127 = .ok (.putfield 65, 3) := by decide +kernel
theorem dGr_init_130 : decode cGr_init 130 = .ok (.iconst 0, 1) := by decide +kernel
theorem dGr_init_131 : decode cGr_init 131 = .ok (.istore 4, 2) := by decide +kernel
theorem dGr_init_133 : decode cGr_init 133 = .ok (.iload 4, 2) := by decide +kernel
theorem dGr_init_135 : decode cGr_init 135 = .ok (.bipush 12, 2) := by decide +kernel
theorem dGr_init_137 : decode cGr_init 137 = .ok (.if_icmp .ge 23, 3) := by decide +kernel
theorem dGr_init_140 : decode cGr_init 140 = .ok (.aload_n 0, 1) := by decide +kernel
theorem dGr_init_141 : decode cGr_init 141 = .ok (.getfield 11, 3) := by decide +kernel
theorem dGr_init_144 : decode cGr_init 144 = .ok (.iload 4, 2) := by decide +kernel
theorem dGr_init_146 : decode cGr_init 146 = .ok (.new 9, 3) := by decide +kernel
theorem dGr_init_149 : decode cGr_init 149 = .ok (.dup, 1) := by decide +kernel
theorem dGr_init_150 : decode cGr_init 150 = .ok (.invokespecial 21, 3) := by decide +kernel
theorem dGr_init_153 : decode cGr_init 153 = .ok (.aastore, 1) := by decide +kernel
theorem dGr_init_154 : decode cGr_init 154 = .ok (.iinc 4 1, 3) := by decide +kernel
theorem dGr_init_157 : decode cGr_init 157 = .ok (.goto (-24), 3) := by decide +kernel
theorem dGr_init_160 : decode cGr_init 160 = .ok (.return_, 1) := by decide +kernel
