theorem dM_node_0 : decode cM_node 0 = .ok (.aload_n 0, 1) := by decide +kernel
theorem dM_node_1 : decode cM_node 1 = .ok (.aload_n 0, 1) := by decide +kernel
theorem dM_node_2 : decode cM_node 2 = .ok (.iload_n 1, 1) := by decide +kernel
theorem dM_node_3 : decode cM_node 3 = .ok (.iload_n 2, 1) := by decide +kernel
theorem dM_node_4 : decode cM_node 4 = .ok (.invokevirtual 392, 3) := by decide +kernel
theorem dM_node_7 : decode cM_node 7 = .ok (.ifCond .ne 13, 3) := by decide +kernel
theorem dM_node_10 : decode cM_node 10 = .ok (.iload_n 3, 1) := by decide +kernel
theorem dM_node_11 : decode cM_node 11 = .ok (.iconst 0, 1) := by decide +kernel
theorem dM_node_12 : decode cM_node 12 = .ok (.bipush 7, 2) := by decide +kernel
theorem dM_node_14 : decode cM_node 14 = .ok (.invokestatic 227, 3) := by decide +kernel
theorem dM_node_17 : decode cM_node 17 = .ok (.ifCond .ne 7, 3) := by decide +kernel
theorem dM_node_20 : decode cM_node 20 = .ok (.iconst 1, 1) := by decide +kernel
theorem dM_node_21 : decode cM_node 21 = .ok (.goto 4, 3) := by decide +kernel
theorem dM_node_24 : decode cM_node 24 = .ok (.iconst 0, 1) := by decide +kernel
theorem dM_node_25 : decode cM_node 25 = .ok (.invokevirtual 231, 3) := by decide +kernel
theorem dM_node_28 : decode cM_node 28 = .ok (.ifCond .eq 5, 3) := by decide +kernel
theorem dM_node_31 : decode cM_node 31 = .ok (.iconst 0, 1) := by decide +kernel
theorem dM_node_32 : decode cM_node 32 = .ok (.ireturn, 1) := by decide +kernel
theorem dM_node_33 : decode cM_node 33 = .ok (.bipush 31, 2) := by decide +kernel
theorem dM_node_35 : decode cM_node 35 = .ok (.iload_n 1, 1) := by decide +kernel
theorem dM_node_36 : decode cM_node 36 = .ok (.imul, 1) := by decide +kernel
theorem dM_node_37 : decode cM_node 37 = .ok (.iload_n 2, 1) := by decide +kernel
theorem dM_node_38 : decode cM_node 38 = .ok (.iadd, 1) := by decide +kernel
theorem dM_node_39 : decode cM_node 39 = .ok (.istore 4, 2) := by decide +kernel
theorem dM_node_41 : decode cM_node 41 = .ok (.iload_n 3, 1) := by decide +kernel
theorem dM_node_42 : decode cM_node 42 = .ok (.tableswitch 106 0 6 #[42, 50, 58, 74, 82, 90, 98], 42) := by decide +kernel
theorem dM_node_84 : decode cM_node 84 = .ok (.aload_n 0, 1) := by decide +kernel
theorem dM_node_85 : decode cM_node 85 = .ok (.getfield 35, 3) := by decide +kernel
theorem dM_node_88 : decode cM_node 88 = .ok (.iload 4, 2) := by decide +kernel
theorem dM_node_90 : decode cM_node 90 = .ok (.iaload, 1) := by decide +kernel
theorem dM_node_91 : decode cM_node 91 = .ok (.ireturn, 1) := by decide +kernel
theorem dM_node_92 : decode cM_node 92 = .ok (.aload_n 0, 1) := by decide +kernel
theorem dM_node_93 : decode cM_node 93 = .ok (.getfield 38, 3) := by decide +kernel
theorem dM_node_96 : decode cM_node 96 = .ok (.iload 4, 2) := by decide +kernel
theorem dM_node_98 : decode cM_node 98 = .ok (.iaload, 1) := by decide +kernel
theorem dM_node_99 : decode cM_node 99 = .ok (.ireturn, 1) := by decide +kernel
theorem dM_node_100 : decode cM_node 100 = .ok (.aload_n 0, 1) := by decide +kernel
theorem dM_node_101 : decode cM_node 101 = .ok (.getfield 41, 3) := by decide +kernel
theorem dM_node_104 : decode cM_node 104 = .ok (.iload 4, 2) := by decide +kernel
theorem dM_node_106 : decode cM_node 106 = .ok (.baload, 1) := by decide +kernel
theorem dM_node_107 : decode cM_node 107 = .ok (.ifCond .eq 7, 3) := by decide +kernel
theorem dM_node_110 : decode cM_node 110 = .ok (.iconst 1, 1) := by decide +kernel
theorem dM_node_111 : decode cM_node 111 = .ok (.goto 4, 3) := by decide +kernel
theorem dM_node_114 : decode cM_node 114 = .ok (.iconst 0, 1) := by decide +kernel
theorem dM_node_115 : decode cM_node 115 = .ok (.ireturn, 1) := by decide +kernel
theorem dM_node_116 : decode cM_node 116 = .ok (.aload_n 0, 1) := by decide +kernel
theorem dM_node_117 : decode cM_node 117 = .ok (.getfield 44, 3) := by decide +kernel
theorem dM_node_120 : decode cM_node 120 = .ok (.iload 4, 2) := by decide +kernel
theorem dM_node_122 : decode cM_node 122 = .ok (.iaload, 1) := by decide +kernel
theorem dM_node_123 : decode cM_node 123 = .ok (.ireturn, 1) := by decide +kernel
theorem dM_node_124 : decode cM_node 124 = .ok (.aload_n 0, 1) := by decide +kernel
theorem dM_node_125 : decode cM_node 125 = .ok (.getfield 47, 3) := by decide +kernel
theorem dM_node_128 : decode cM_node 128 = .ok (.iload 4, 2) := by decide +kernel
theorem dM_node_130 : decode cM_node 130 = .ok (.iaload, 1) := by decide +kernel
theorem dM_node_131 : decode cM_node 131 = .ok (.ireturn, 1) := by decide +kernel
theorem dM_node_132 : decode cM_node 132 = .ok (.aload_n 0, 1) := by decide +kernel
theorem dM_node_133 : decode cM_node 133 = .ok (.getfield 50, 3) := by decide +kernel
theorem dM_node_136 : decode cM_node 136 = .ok (.iload 4, 2) := by decide +kernel
theorem dM_node_138 : decode cM_node 138 = .ok (.iaload, 1) := by decide +kernel
theorem dM_node_139 : decode cM_node 139 = .ok (.ireturn, 1) := by decide +kernel
theorem dM_node_140 : decode cM_node 140 = .ok (.aload_n 0, 1) := by decide +kernel
theorem dM_node_141 : decode cM_node 141 = .ok (.getfield 53, 3) := by decide +kernel
theorem dM_node_144 : decode cM_node 144 = .ok (.iload 4, 2) := by decide +kernel
theorem dM_node_146 : decode cM_node 146 = .ok (.iaload, 1) := by decide +kernel
theorem dM_node_147 : decode cM_node 147 = .ok (.ireturn, 1) := by decide +kernel
theorem dM_node_148 : decode cM_node 148 = .ok (.aload_n 0, 1) := by decide +kernel
theorem dM_node_149 : decode cM_node 149 = .ok (.getfield 56, 3) := by decide +kernel
theorem dM_node_152 : decode cM_node 152 = .ok (.iload 4, 2) := by decide +kernel
theorem dM_node_154 : decode cM_node 154 = .ok (.baload, 1) := by decide +kernel
theorem dM_node_155 : decode cM_node 155 = .ok (.ifCond .eq 7, 3) := by decide +kernel
theorem dM_node_158 : decode cM_node 158 = .ok (.iconst 1, 1) := by decide +kernel
theorem dM_node_159 : decode cM_node 159 = .ok (.goto 4, 3) := by decide +kernel
theorem dM_node_162 : decode cM_node 162 = .ok (.iconst 0, 1) := by decide +kernel
theorem dM_node_163 : decode cM_node 163 = .ok (.ireturn, 1) := by decide +kernel
