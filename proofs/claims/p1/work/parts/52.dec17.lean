theorem dM_count_0 : decode cM_count 0 = .ok (.iconst 0, 1) := by decide +kernel
theorem dM_count_1 : decode cM_count 1 = .ok (.istore_n 2, 1) := by decide +kernel
theorem dM_count_2 : decode cM_count 2 = .ok (.iconst 0, 1) := by decide +kernel
theorem dM_count_3 : decode cM_count 3 = .ok (.istore_n 3, 1) := by decide +kernel
theorem dM_count_4 : decode cM_count 4 = .ok (.iload_n 3, 1) := by decide +kernel
theorem dM_count_5 : decode cM_count 5 = .ok (.bipush 64, 2) := by decide +kernel
theorem dM_count_7 : decode cM_count 7 = .ok (.if_icmp .ge 27, 3) := by decide +kernel
theorem dM_count_10 : decode cM_count 10 = .ok (.iload_n 2, 1) := by decide +kernel
theorem dM_count_11 : decode cM_count 11 = .ok (.lload_n 0, 1) := by decide +kernel
theorem dM_count_12 : decode cM_count 12 = .ok (.iload_n 3, 1) := by decide +kernel
theorem dM_count_13 : decode cM_count 13 = .ok (.lshr, 1) := by decide +kernel
theorem dM_count_14 : decode cM_count 14 = .ok (.lconst 1, 1) := by decide +kernel
theorem dM_count_15 : decode cM_count 15 = .ok (.land, 1) := by decide +kernel
theorem dM_count_16 : decode cM_count 16 = .ok (.lconst 1, 1) := by decide +kernel
theorem dM_count_17 : decode cM_count 17 = .ok (.lcmp, 1) := by decide +kernel
theorem dM_count_18 : decode cM_count 18 = .ok (.ifCond .ne 7, 3) := by decide +kernel
theorem dM_count_21 : decode cM_count 21 = .ok (.iconst 1, 1) := by decide +kernel
theorem dM_count_22 : decode cM_count 22 = .ok (.goto 4, 3) := by decide +kernel
theorem dM_count_25 : decode cM_count 25 = .ok (.iconst 0, 1) := by decide +kernel
theorem dM_count_26 : decode cM_count 26 = .ok (.iadd, 1) := by decide +kernel
theorem dM_count_27 : decode cM_count 27 = .ok (.istore_n 2, 1) := by decide +kernel
theorem dM_count_28 : decode cM_count 28 = .ok (.iinc 3 1, 3) := by decide +kernel
theorem dM_count_31 : decode cM_count 31 = .ok (.goto (-27), 3) := by decide +kernel
theorem dM_count_34 : decode cM_count 34 = .ok (.iload_n 2, 1) := by decide +kernel
theorem dM_count_35 : decode cM_count 35 = .ok (.ireturn, 1) := by decide +kernel
theorem dM_there_0 : decode cM_there 0 = .ok (.lconst 1, 1) := by decide +kernel
theorem dM_there_1 : decode cM_there 1 = .ok (.aload_n 0, 1) := by decide +kernel
theorem dM_there_2 : decode cM_there 2 = .ok (.getfield 193, 3) := by decide +kernel
theorem dM_there_5 : decode cM_there 5 = .ok (.lshl, 1) := by decide +kernel
theorem dM_there_6 : decode cM_there 6 = .ok (.lconst 1, 1) := by decide +kernel
theorem dM_there_7 : decode cM_there 7 = .ok (.lsub, 1) := by decide +kernel
theorem dM_there_8 : decode cM_there 8 = .ok (.lreturn, 1) := by decide +kernel
theorem dM_sample_0 : decode cM_sample 0 = .ok (.aload_n 0, 1) := by decide +kernel
theorem dM_sample_1 : decode cM_sample 1 = .ok (.iconst 0, 1) := by decide +kernel
theorem dM_sample_2 : decode cM_sample 2 = .ok (.putfield 144, 3) := by decide +kernel
theorem dM_sample_5 : decode cM_sample 5 = .ok (.aload_n 0, 1) := by decide +kernel
theorem dM_sample_6 : decode cM_sample 6 = .ok (.lload_n 1, 1) := by decide +kernel
theorem dM_sample_7 : decode cM_sample 7 = .ok (.putfield 219, 3) := by decide +kernel
theorem dM_sample_10 : decode cM_sample 10 = .ok (.aload_n 0, 1) := by decide +kernel
theorem dM_sample_11 : decode cM_sample 11 = .ok (.iload_n 3, 1) := by decide +kernel
theorem dM_sample_12 : decode cM_sample 12 = .ok (.putfield 223, 3) := by decide +kernel
theorem dM_sample_15 : decode cM_sample 15 = .ok (.lload_n 1, 1) := by decide +kernel
theorem dM_sample_16 : decode cM_sample 16 = .ok (.aload_n 0, 1) := by decide +kernel
theorem dM_sample_17 : decode cM_sample 17 = .ok (.invokevirtual 254, 3) := by decide +kernel
theorem dM_sample_20 : decode cM_sample 20 = .ok (.land, 1) := by decide +kernel
theorem dM_sample_21 : decode cM_sample 21 = .ok (.invokestatic 258, 3) := by decide +kernel
theorem dM_sample_24 : decode cM_sample 24 = .ok (.ireturn, 1) := by decide +kernel
theorem dM_train_0 : decode cM_train 0 = .ok (.aload_n 0, 1) := by decide +kernel
theorem dM_train_1 : decode cM_train 1 = .ok (.getfield 219, 3) := by decide +kernel
theorem dM_train_4 : decode cM_train 4 = .ok (.aload_n 0, 1) := by decide +kernel
theorem dM_train_5 : decode cM_train 5 = .ok (.invokevirtual 254, 3) := by decide +kernel
theorem dM_train_8 : decode cM_train 8 = .ok (.land, 1) := by decide +kernel
theorem dM_train_9 : decode cM_train 9 = .ok (.lconst 0, 1) := by decide +kernel
theorem dM_train_10 : decode cM_train 10 = .ok (.lcmp, 1) := by decide +kernel
theorem dM_train_11 : decode cM_train 11 = .ok (.ifCond .eq 19, 3) := by decide +kernel
theorem dM_train_14 : decode cM_train 14 = .ok (.aload_n 0, 1) := by decide +kernel
theorem dM_train_15 : decode cM_train 15 = .ok (.getfield 223, 3) := by decide +kernel
theorem dM_train_18 : decode cM_train 18 = .ok (.iconst 1, 1) := by decide +kernel
theorem dM_train_19 : decode cM_train 19 = .ok (.aload_n 0, 1) := by decide +kernel
theorem dM_train_20 : decode cM_train 20 = .ok (.getfield 190, 3) := by decide +kernel
theorem dM_train_23 : decode cM_train 23 = .ok (.ishl, 1) := by decide +kernel
theorem dM_train_24 : decode cM_train 24 = .ok (.iconst 1, 1) := by decide +kernel
theorem dM_train_25 : decode cM_train 25 = .ok (.isub, 1) := by decide +kernel
theorem dM_train_26 : decode cM_train 26 = .ok (.iand, 1) := by decide +kernel
theorem dM_train_27 : decode cM_train 27 = .ok (.ifCond .ne 7, 3) := by decide +kernel
theorem dM_train_30 : decode cM_train 30 = .ok (.iconst 1, 1) := by decide +kernel
theorem dM_train_31 : decode cM_train 31 = .ok (.goto 4, 3) := by decide +kernel
theorem dM_train_34 : decode cM_train 34 = .ok (.iconst 0, 1) := by decide +kernel
theorem dM_train_35 : decode cM_train 35 = .ok (.istore_n 2, 1) := by decide +kernel
theorem dM_train_36 : decode cM_train 36 = .ok (.aload_n 0, 1) := by decide +kernel
theorem dM_train_37 : decode cM_train 37 = .ok (.iload_n 1, 1) := by decide +kernel
theorem dM_train_38 : decode cM_train 38 = .ok (.iconst 1, 1) := by decide +kernel
theorem dM_train_39 : decode cM_train 39 = .ok (.bipush 16, 2) := by decide +kernel
theorem dM_train_41 : decode cM_train 41 = .ok (.invokestatic 227, 3) := by decide +kernel
theorem dM_train_44 : decode cM_train 44 = .ok (.ifCond .ne 7, 3) := by decide +kernel
theorem dM_train_47 : decode cM_train 47 = .ok (.iconst 1, 1) := by decide +kernel
theorem dM_train_48 : decode cM_train 48 = .ok (.goto 23, 3) := by decide +kernel
theorem dM_train_51 : decode cM_train 51 = .ok (.iload_n 2, 1) := by decide +kernel
theorem dM_train_52 : decode cM_train 52 = .ok (.ifCond .ne 14, 3) := by decide +kernel
theorem dM_train_55 : decode cM_train 55 = .ok (.aload_n 0, 1) := by decide +kernel
theorem dM_train_56 : decode cM_train 56 = .ok (.getfield 196, 3) := by decide +kernel
theorem dM_train_59 : decode cM_train 59 = .ok (.iload_n 1, 1) := by decide +kernel
theorem dM_train_60 : decode cM_train 60 = .ok (.iadd, 1) := by decide +kernel
theorem dM_train_61 : decode cM_train 61 = .ok (.bipush 16, 2) := by decide +kernel
theorem dM_train_63 : decode cM_train 63 = .ok (.if_icmp .le 7, 3) := by decide +kernel
theorem dM_train_66 : decode cM_train 66 = .ok (.iconst 2, 1) := by decide +kernel
theorem dM_train_67 : decode cM_train 67 = .ok (.goto 4, 3) := by decide +kernel
theorem dM_train_70 : decode cM_train 70 = .ok (.iconst 0, 1) := by decide +kernel
theorem dM_train_71 : decode cM_train 71 = .ok (.invokevirtual 231, 3) := by decide +kernel
theorem dM_train_74 : decode cM_train 74 = .ok (.ifCond .eq 5, 3) := by decide +kernel
theorem dM_train_77 : decode cM_train 77 = .ok (.iconst 0, 1) := by decide +kernel
theorem dM_train_78 : decode cM_train 78 = .ok (.ireturn, 1) := by decide +kernel
theorem dM_train_79 : decode cM_train 79 = .ok (.aload_n 0, 1) := by decide +kernel
theorem dM_train_80 : decode cM_train 80 = .ok (.getfield 196, 3) := by decide +kernel
theorem dM_train_83 : decode cM_train 83 = .ok (.istore_n 3, 1) := by decide +kernel
theorem dM_train_84 : decode cM_train 84 = .ok (.iconst 1, 1) := by decide +kernel
theorem dM_train_85 : decode cM_train 85 = .ok (.istore 4, 2) := by decide +kernel
theorem dM_train_87 : decode cM_train 87 = .ok (.iconst 0, 1) := by decide +kernel
theorem dM_train_88 : decode cM_train 88 = .ok (.istore 5, 2) := by decide +kernel
theorem dM_train_90 : decode cM_train 90 = .ok (.iload 5, 2) := by decide +kernel
theorem dM_train_92 : decode cM_train 92 = .ok (.iload_n 1, 1) := by decide +kernel
theorem dM_train_93 : decode cM_train 93 = .ok (.if_icmp .ge 87, 3) := by decide +kernel
theorem dM_train_96 : decode cM_train 96 = .ok (.iload 4, 2) := by decide +kernel
theorem dM_train_98 : decode cM_train 98 = .ok (.ifCond .eq 82, 3) := by decide +kernel
theorem dM_train_101 : decode cM_train 101 = .ok (.aload_n 0, 1) := by decide +kernel
theorem dM_train_102 : decode cM_train 102 = .ok (.invokevirtual 300, 3) := by decide +kernel
theorem dM_train_105 : decode cM_train 105 = .ok (.aload_n 0, 1) := by decide +kernel
theorem dM_train_106 : decode cM_train 106 = .ok (.getfield 32, 3) := by decide +kernel
theorem dM_train_109 : decode cM_train 109 = .ok (.aload_n 0, 1) := by decide +kernel
theorem dM_train_110 : decode cM_train 110 = .ok (.getfield 196, 3) := by decide +kernel
theorem dM_train_113 : decode cM_train 113 = .ok (.iconst 0, 1) := by decide +kernel
theorem dM_train_114 : decode cM_train 114 = .ok (.iastore, 1) := by decide +kernel
theorem dM_train_115 : decode cM_train 115 = .ok (.aload_n 0, 1) := by decide +kernel
theorem dM_train_116 : decode cM_train 116 = .ok (.aload_n 0, 1) := by decide +kernel
theorem dM_train_117 : decode cM_train 117 = .ok (.getfield 219, 3) := by decide +kernel
theorem dM_train_120 : decode cM_train 120 = .ok (.aload_n 0, 1) := by decide +kernel
theorem dM_train_121 : decode cM_train 121 = .ok (.invokevirtual 254, 3) := by decide +kernel
theorem dM_train_124 : decode cM_train 124 = .ok (.land, 1) := by decide +kernel
theorem dM_train_125 : decode cM_train 125 = .ok (.invokevirtual 303, 3) := by decide +kernel
theorem dM_train_128 : decode cM_train 128 = .ok (.aload_n 0, 1) := by decide +kernel
theorem dM_train_129 : decode cM_train 129 = .ok (.dup, 1) := by decide +kernel
theorem dM_train_130 : decode cM_train 130 = .ok (.getfield 196, 3) := by decide +kernel
theorem dM_train_133 : decode cM_train 133 = .ok (.iconst 1, 1) := by decide +kernel
theorem dM_train_134 : decode cM_train 134 = .ok (.iadd, 1) := by decide +kernel
theorem dM_train_135 : decode cM_train 135 = .ok (.putfield 196, 3) := by decide +kernel
theorem dM_train_138 : decode cM_train 138 = .ok (.aload_n 0, 1) := by decide +kernel
theorem dM_train_139 : decode cM_train 139 = .ok (.invokevirtual 307, 3) := by decide +kernel
theorem dM_train_142 : decode cM_train 142 = .ok (.sipush 1500, 3) := by decide +kernel
theorem dM_train_145 : decode cM_train 145 = .ok (.if_icmp .gt 7, 3) := by decide +kernel
theorem dM_train_148 : decode cM_train 148 = .ok (.iconst 1, 1) := by decide +kernel
theorem dM_train_149 : decode cM_train 149 = .ok (.goto 4, 3) := by decide +kernel
theorem dM_train_152 : decode cM_train 152 = .ok (.iconst 0, 1) := by decide +kernel
theorem dM_train_153 : decode cM_train 153 = .ok (.istore 4, 2) := by decide +kernel
theorem dM_train_155 : decode cM_train 155 = .ok (.aload_n 0, 1) := by decide +kernel
theorem dM_train_156 : decode cM_train 156 = .ok (.dup, 1) := by decide +kernel
theorem dM_train_157 : decode cM_train 157 = .ok (.getfield 196, 3) := by decide +kernel
theorem dM_train_160 : decode cM_train 160 = .ok (.iload 4, 2) := by decide +kernel
theorem dM_train_162 : decode cM_train 162 = .ok (.ifCond .eq 7, 3) := by decide +kernel
theorem dM_train_165 : decode cM_train 165 = .ok (.iconst 0, 1) := by decide +kernel
theorem dM_train_166 : decode cM_train 166 = .ok (.goto 4, 3) := by decide +kernel
theorem dM_train_169 : decode cM_train 169 = .ok (.iconst 1, 1) := by decide +kernel
theorem dM_train_170 : decode cM_train 170 = .ok (.isub, 1) := by decide +kernel
theorem dM_train_171 : decode cM_train 171 = .ok (.putfield 196, 3) := by decide +kernel
theorem dM_train_174 : decode cM_train 174 = .ok (.iinc 5 1, 3) := by decide +kernel
theorem dM_train_177 : decode cM_train 177 = .ok (.goto (-87), 3) := by decide +kernel
theorem dM_train_180 : decode cM_train 180 = .ok (.aload_n 0, 1) := by decide +kernel
theorem dM_train_181 : decode cM_train 181 = .ok (.getfield 196, 3) := by decide +kernel
theorem dM_train_184 : decode cM_train 184 = .ok (.iload_n 3, 1) := by decide +kernel
theorem dM_train_185 : decode cM_train 185 = .ok (.isub, 1) := by decide +kernel
theorem dM_train_186 : decode cM_train 186 = .ok (.ireturn, 1) := by decide +kernel
theorem dM_drop_0 : decode cM_drop 0 = .ok (.aload_n 0, 1) := by decide +kernel
theorem dM_drop_1 : decode cM_drop 1 = .ok (.iload_n 1, 1) := by decide +kernel
theorem dM_drop_2 : decode cM_drop 2 = .ok (.iconst 0, 1) := by decide +kernel
theorem dM_drop_3 : decode cM_drop 3 = .ok (.aload_n 0, 1) := by decide +kernel
theorem dM_drop_4 : decode cM_drop 4 = .ok (.getfield 196, 3) := by decide +kernel
theorem dM_drop_7 : decode cM_drop 7 = .ok (.invokestatic 227, 3) := by decide +kernel
theorem dM_drop_10 : decode cM_drop 10 = .ok (.ifCond .eq 7, 3) := by decide +kernel
theorem dM_drop_13 : decode cM_drop 13 = .ok (.iconst 0, 1) := by decide +kernel
theorem dM_drop_14 : decode cM_drop 14 = .ok (.goto 4, 3) := by decide +kernel
theorem dM_drop_17 : decode cM_drop 17 = .ok (.iconst 1, 1) := by decide +kernel
theorem dM_drop_18 : decode cM_drop 18 = .ok (.invokevirtual 231, 3) := by decide +kernel
theorem dM_drop_21 : decode cM_drop 21 = .ok (.ifCond .eq 5, 3) := by decide +kernel
theorem dM_drop_24 : decode cM_drop 24 = .ok (.iconst 0, 1) := by decide +kernel
theorem dM_drop_25 : decode cM_drop 25 = .ok (.ireturn, 1) := by decide +kernel
theorem dM_drop_26 : decode cM_drop 26 = .ok (.aload_n 0, 1) := by decide +kernel
theorem dM_drop_27 : decode cM_drop 27 = .ok (.getfield 196, 3) := by decide +kernel
theorem dM_drop_30 : decode cM_drop 30 = .ok (.iload_n 1, 1) := by decide +kernel
theorem dM_drop_31 : decode cM_drop 31 = .ok (.isub, 1) := by decide +kernel
theorem dM_drop_32 : decode cM_drop 32 = .ok (.istore_n 2, 1) := by decide +kernel
theorem dM_drop_33 : decode cM_drop 33 = .ok (.aload_n 0, 1) := by decide +kernel
theorem dM_drop_34 : decode cM_drop 34 = .ok (.iload_n 1, 1) := by decide +kernel
theorem dM_drop_35 : decode cM_drop 35 = .ok (.putfield 196, 3) := by decide +kernel
theorem dM_drop_38 : decode cM_drop 38 = .ok (.iload_n 2, 1) := by decide +kernel
theorem dM_drop_39 : decode cM_drop 39 = .ok (.ireturn, 1) := by decide +kernel
theorem dM_node_0 : decode cM_node 0 = .ok (.aload_n 0, 1) := by decide +kernel
theorem dM_node_1 : decode cM_node 1 = .ok (.aload_n 0, 1) := by decide +kernel
theorem dM_node_2 : decode cM_node 2 = .ok (.iload_n 1, 1) := by decide +kernel
theorem dM_node_3 : decode cM_node 3 = .ok (.iload_n 2, 1) := by decide +kernel
theorem dM_node_4 : decode cM_node 4 = .ok (.invokevirtual 392, 3) := by decide +kernel
theorem dM_node_7 : decode cM_node 7 = .ok (.ifCond .ne 13, 3) := by decide +kernel
theorem dM_node_10 : decode cM_node 10 = .ok (.iload_n 3, 1) := by decide +kernel
theorem dM_node_11 : decode cM_node 11 = .ok (.iconst 0, 1) := by decide +kernel
theorem dM_node_12 : decode cM_node 12 = .ok (.bipush 7, 2) := by decide +kernel
theorem dM_node_14 : decode cM_node 14 = .ok (.invokestatic 227, 3) := by decide +kernel
theorem dM_node_17 : decode cM_node 17 = .ok (.ifCond .ne 7, 3) := by decide +kernel
theorem dM_node_20 : decode cM_node 20 = .ok (.iconst 1, 1) := by decide +kernel
theorem dM_node_21 : decode cM_node 21 = .ok (.goto 4, 3) := by decide +kernel
theorem dM_node_24 : decode cM_node 24 = .ok (.iconst 0, 1) := by decide +kernel
theorem dM_node_25 : decode cM_node 25 = .ok (.invokevirtual 231, 3) := by decide +kernel
theorem dM_node_28 : decode cM_node 28 = .ok (.ifCond .eq 5, 3) := by decide +kernel
theorem dM_node_31 : decode cM_node 31 = .ok (.iconst 0, 1) := by decide +kernel
theorem dM_node_32 : decode cM_node 32 = .ok (.ireturn, 1) := by decide +kernel
theorem dM_node_33 : decode cM_node 33 = .ok (.bipush 31, 2) := by decide +kernel
theorem dM_node_35 : decode cM_node 35 = .ok (.iload_n 1, 1) := by decide +kernel
theorem dM_node_36 : decode cM_node 36 = .ok (.imul, 1) := by decide +kernel
theorem dM_node_37 : decode cM_node 37 = .ok (.iload_n 2, 1) := by decide +kernel
theorem dM_node_38 : decode cM_node 38 = .ok (.iadd, 1) := by decide +kernel
theorem dM_node_39 : decode cM_node 39 = .ok (.istore 4, 2) := by decide +kernel
theorem dM_node_41 : decode cM_node 41 = .ok (.iload_n 3, 1) := by decide +kernel
theorem dM_node_42 : decode cM_node 42 = .ok (.tableswitch 106 0 6 #[42, 50, 58, 74, 82, 90, 98], 42) := by decide +kernel
theorem dM_node_84 : decode cM_node 84 = .ok (.aload_n 0, 1) := by decide +kernel
theorem dM_node_85 : decode cM_node 85 = .ok (.getfield 35, 3) := by decide +kernel
theorem dM_node_88 : decode cM_node 88 = .ok (.iload 4, 2) := by decide +kernel
theorem dM_node_90 : decode cM_node 90 = .ok (.iaload, 1) := by decide +kernel
theorem dM_node_91 : decode cM_node 91 = .ok (.ireturn, 1) := by decide +kernel
theorem dM_node_92 : decode cM_node 92 = .ok (.aload_n 0, 1) := by decide +kernel
theorem dM_node_93 : decode cM_node 93 = .ok (.getfield 38, 3) := by decide +kernel
theorem dM_node_96 : decode cM_node 96 = .ok (.iload 4, 2) := by decide +kernel
theorem dM_node_98 : decode cM_node 98 = .ok (.iaload, 1) := by decide +kernel
theorem dM_node_99 : decode cM_node 99 = .ok (.ireturn, 1) := by decide +kernel
theorem dM_node_100 : decode cM_node 100 = .ok (.aload_n 0, 1) := by decide +kernel
theorem dM_node_101 : decode cM_node 101 = .ok (.getfield 41, 3) := by decide +kernel
theorem dM_node_104 : decode cM_node 104 = .ok (.iload 4, 2) := by decide +kernel
theorem dM_node_106 : decode cM_node 106 = .ok (.baload, 1) := by decide +kernel
theorem dM_node_107 : decode cM_node 107 = .ok (.ifCond .eq 7, 3) := by decide +kernel
theorem dM_node_110 : decode cM_node 110 = .ok (.iconst 1, 1) := by decide +kernel
theorem dM_node_111 : decode cM_node 111 = .ok (.goto 4, 3) := by decide +kernel
theorem dM_node_114 : decode cM_node 114 = .ok (.iconst 0, 1) := by decide +kernel
theorem dM_node_115 : decode cM_node 115 = .ok (.ireturn, 1) := by decide +kernel
theorem dM_node_116 : decode cM_node 116 = .ok (.aload_n 0, 1) := by decide +kernel
theorem dM_node_117 : decode cM_node 117 = .ok (.getfield 44, 3) := by decide +kernel
theorem dM_node_120 : decode cM_node 120 = .ok (.iload 4, 2) := by decide +kernel
theorem dM_node_122 : decode cM_node 122 = .ok (.iaload, 1) := by decide +kernel
theorem dM_node_123 : decode cM_node 123 = .ok (.ireturn, 1) := by decide +kernel
theorem dM_node_124 : decode cM_node 124 = .ok (.aload_n 0, 1) := by decide +kernel
theorem dM_node_125 : decode cM_node 125 = .ok (.getfield 47, 3) := by decide +kernel
theorem dM_node_128 : decode cM_node 128 = .ok (.iload 4, 2) := by decide +kernel
theorem dM_node_130 : decode cM_node 130 = .ok (.iaload, 1) := by decide +kernel
theorem dM_node_131 : decode cM_node 131 = .ok (.ireturn, 1) := by decide +kernel
theorem dM_node_132 : decode cM_node 132 = .ok (.aload_n 0, 1) := by decide +kernel
theorem dM_node_133 : decode cM_node 133 = .ok (.getfield 50, 3) := by decide +kernel
theorem dM_node_136 : decode cM_node 136 = .ok (.iload 4, 2) := by decide +kernel
theorem dM_node_138 : decode cM_node 138 = .ok (.iaload, 1) := by decide +kernel
theorem dM_node_139 : decode cM_node 139 = .ok (.ireturn, 1) := by decide +kernel
theorem dM_node_140 : decode cM_node 140 = .ok (.aload_n 0, 1) := by decide +kernel
theorem dM_node_141 : decode cM_node 141 = .ok (.getfield 53, 3) := by decide +kernel
theorem dM_node_144 : decode cM_node 144 = .ok (.iload 4, 2) := by decide +kernel
theorem dM_node_146 : decode cM_node 146 = .ok (.iaload, 1) := by decide +kernel
theorem dM_node_147 : decode cM_node 147 = .ok (.ireturn, 1) := by decide +kernel
theorem dM_node_148 : decode cM_node 148 = .ok (.aload_n 0, 1) := by decide +kernel
theorem dM_node_149 : decode cM_node 149 = .ok (.getfield 56, 3) := by decide +kernel
theorem dM_node_152 : decode cM_node 152 = .ok (.iload 4, 2) := by decide +kernel
theorem dM_node_154 : decode cM_node 154 = .ok (.baload, 1) := by decide +kernel
theorem dM_node_155 : decode cM_node 155 = .ok (.ifCond .eq 7, 3) := by decide +kernel
theorem dM_node_158 : decode cM_node 158 = .ok (.iconst 1, 1) := by decide +kernel
theorem dM_node_159 : decode cM_node 159 = .ok (.goto 4, 3) := by decide +kernel
theorem dM_node_162 : decode cM_node 162 = .ok (.iconst 0, 1) := by decide +kernel
theorem dM_node_163 : decode cM_node 163 = .ok (.ireturn, 1) := by decide +kernel
theorem dM_nodes_0 : decode cM_nodes 0 = .ok (.aload_n 0, 1) := by decide +kernel
theorem dM_nodes_1 : decode cM_nodes 1 = .ok (.aload_n 0, 1) := by decide +kernel
theorem dM_nodes_2 : decode cM_nodes 2 = .ok (.iload_n 1, 1) := by decide +kernel
theorem dM_nodes_3 : decode cM_nodes 3 = .ok (.invokevirtual 389, 3) := by decide +kernel
theorem dM_nodes_6 : decode cM_nodes 6 = .ok (.ifCond .eq 7, 3) := by decide +kernel
theorem dM_nodes_9 : decode cM_nodes 9 = .ok (.iconst 1, 1) := by decide +kernel
theorem dM_nodes_10 : decode cM_nodes 10 = .ok (.goto 4, 3) := by decide +kernel
theorem dM_nodes_13 : decode cM_nodes 13 = .ok (.iconst 0, 1) := by decide +kernel
theorem dM_nodes_14 : decode cM_nodes 14 = .ok (.invokevirtual 231, 3) := by decide +kernel
theorem dM_nodes_17 : decode cM_nodes 17 = .ok (.ifCond .eq 7, 3) := by decide +kernel
theorem dM_nodes_20 : decode cM_nodes 20 = .ok (.iconst 0, 1) := by decide +kernel
theorem dM_nodes_21 : decode cM_nodes 21 = .ok (.goto 9, 3) := by decide +kernel
theorem dM_nodes_24 : decode cM_nodes 24 = .ok (.aload_n 0, 1) := by decide +kernel
theorem dM_nodes_25 : decode cM_nodes 25 = .ok (.getfield 32, 3) := by decide +kernel
theorem dM_nodes_28 : decode cM_nodes 28 = .ok (.iload_n 1, 1) := by decide +kernel
theorem dM_nodes_29 : decode cM_nodes 29 = .ok (.iaload, 1) := by decide +kernel
theorem dM_nodes_30 : decode cM_nodes 30 = .ok (.ireturn, 1) := by decide +kernel
theorem dM_tell_0 : decode cM_tell 0 = .ok (.aload_n 0, 1) := by decide +kernel
theorem dM_tell_1 : decode cM_tell 1 = .ok (.aload_n 0, 1) := by decide +kernel
theorem dM_tell_2 : decode cM_tell 2 = .ok (.iload_n 1, 1) := by decide +kernel
theorem dM_tell_3 : decode cM_tell 3 = .ok (.iload_n 2, 1) := by decide +kernel
theorem dM_tell_4 : decode cM_tell 4 = .ok (.invokevirtual 392, 3) := by decide +kernel
theorem dM_tell_7 : decode cM_tell 7 = .ok (.ifCond .eq 7, 3) := by decide +kernel
theorem dM_tell_10 : decode cM_tell 10 = .ok (.iconst 1, 1) := by decide +kernel
theorem dM_tell_11 : decode cM_tell 11 = .ok (.goto 4, 3) := by decide +kernel
theorem dM_tell_14 : decode cM_tell 14 = .ok (.iconst 0, 1) := by decide +kernel
theorem dM_tell_15 : decode cM_tell 15 = .ok (.invokevirtual 231, 3) := by decide +kernel
theorem dM_tell_18 : decode cM_tell 18 = .ok (.ifCond .eq 5, 3) := by decide +kernel
theorem dM_tell_21 : decode cM_tell 21 = .ok (.iconst 0, 1) := by decide +kernel
theorem dM_tell_22 : decode cM_tell 22 = .ok (.ireturn, 1) := by decide +kernel
theorem dM_tell_23 : decode cM_tell 23 = .ok (.aload_n 0, 1) := by decide +kernel
theorem dM_tell_24 : decode cM_tell 24 = .ok (.bipush 31, 2) := by decide +kernel
theorem dM_tell_26 : decode cM_tell 26 = .ok (.iload_n 1, 1) := by decide +kernel
theorem dM_tell_27 : decode cM_tell 27 = .ok (.imul, 1) := by decide +kernel
theorem dM_tell_28 : decode cM_tell 28 = .ok (.iload_n 2, 1) := by decide +kernel
theorem dM_tell_29 : decode cM_tell 29 = .ok (.iadd, 1) := by decide +kernel
theorem dM_tell_30 : decode cM_tell 30 = .ok (.invokevirtual 283, 3) := by decide +kernel
theorem dM_tell_33 : decode cM_tell 33 = .ok (.aload_n 0, 1) := by decide +kernel
theorem dM_tell_34 : decode cM_tell 34 = .ok (.aload_n 0, 1) := by decide +kernel
theorem dM_tell_35 : decode cM_tell 35 = .ok (.getfield 69, 3) := by decide +kernel
theorem dM_tell_38 : decode cM_tell 38 = .ok (.aload_n 0, 1) := by decide +kernel
theorem dM_tell_39 : decode cM_tell 39 = .ok (.getfield 102, 3) := by decide +kernel
theorem dM_tell_42 : decode cM_tell 42 = .ok (.invokevirtual 398, 3) := by decide +kernel
theorem dM_tell_45 : decode cM_tell 45 = .ok (.ireturn, 1) := by decide +kernel
theorem dM_residual_0 : decode cM_residual 0 = .ok (.aload_n 0, 1) := by decide +kernel
theorem dM_residual_1 : decode cM_residual 1 = .ok (.aload_n 0, 1) := by decide +kernel
theorem dM_residual_2 : decode cM_residual 2 = .ok (.iload_n 1, 1) := by decide +kernel
theorem dM_residual_3 : decode cM_residual 3 = .ok (.invokevirtual 240, 3) := by decide +kernel
theorem dM_residual_6 : decode cM_residual 6 = .ok (.ifCond .ne 15, 3) := by decide +kernel
theorem dM_residual_9 : decode cM_residual 9 = .ok (.iload_n 2, 1) := by decide +kernel
theorem dM_residual_10 : decode cM_residual 10 = .ok (.iconst 0, 1) := by decide +kernel
theorem dM_residual_11 : decode cM_residual 11 = .ok (.aload_n 0, 1) := by decide +kernel
theorem dM_residual_12 : decode cM_residual 12 = .ok (.getfield 196, 3) := by decide +kernel
theorem dM_residual_15 : decode cM_residual 15 = .ok (.invokestatic 227, 3) := by decide +kernel
theorem dM_residual_18 : decode cM_residual 18 = .ok (.ifCond .ne 7, 3) := by decide +kernel
theorem dM_residual_21 : decode cM_residual 21 = .ok (.iconst 1, 1) := by decide +kernel
theorem dM_residual_22 : decode cM_residual 22 = .ok (.goto 4, 3) := by decide +kernel
theorem dM_residual_25 : decode cM_residual 25 = .ok (.iconst 0, 1) := by decide +kernel
theorem dM_residual_26 : decode cM_residual 26 = .ok (.invokevirtual 231, 3) := by decide +kernel
theorem dM_residual_29 : decode cM_residual 29 = .ok (.ifCond .eq 5, 3) := by decide +kernel
theorem dM_residual_32 : decode cM_residual 32 = .ok (.iconst 0, 1) := by decide +kernel
theorem dM_residual_33 : decode cM_residual 33 = .ok (.ireturn, 1) := by decide +kernel
theorem dM_residual_34 : decode cM_residual 34 = .ok (.aload_n 0, 1) := by decide +kernel
theorem dM_residual_35 : decode cM_residual 35 = .ok (.iload_n 1, 1) := by decide +kernel
theorem dM_residual_36 : decode cM_residual 36 = .ok (.iload_n 2, 1) := by decide +kernel
theorem dM_residual_37 : decode cM_residual 37 = .ok (.iconst (-1), 1) := by decide +kernel
theorem dM_residual_38 : decode cM_residual 38 = .ok (.aload_n 0, 1) := by decide +kernel
theorem dM_residual_39 : decode cM_residual 39 = .ok (.getfield 13, 3) := by decide +kernel
theorem dM_residual_42 : decode cM_residual 42 = .ok (.iload_n 1, 1) := by decide +kernel
theorem dM_residual_43 : decode cM_residual 43 = .ok (.iaload, 1) := by decide +kernel
theorem dM_residual_44 : decode cM_residual 44 = .ok (.invokevirtual 290, 3) := by decide +kernel
theorem dM_residual_47 : decode cM_residual 47 = .ok (.aload_n 0, 1) := by decide +kernel
theorem dM_residual_48 : decode cM_residual 48 = .ok (.aload_n 0, 1) := by decide +kernel
theorem dM_residual_49 : decode cM_residual 49 = .ok (.getfield 66, 3) := by decide +kernel
theorem dM_residual_52 : decode cM_residual 52 = .ok (.aload_n 0, 1) := by decide +kernel
theorem dM_residual_53 : decode cM_residual 53 = .ok (.getfield 99, 3) := by decide +kernel
theorem dM_residual_56 : decode cM_residual 56 = .ok (.invokevirtual 398, 3) := by decide +kernel
theorem dM_residual_59 : decode cM_residual 59 = .ok (.ireturn, 1) := by decide +kernel
theorem dM_uses_0 : decode cM_uses 0 = .ok (.aload_n 0, 1) := by decide +kernel
theorem dM_uses_1 : decode cM_uses 1 = .ok (.aload_n 0, 1) := by decide +kernel
theorem dM_uses_2 : decode cM_uses 2 = .ok (.iload_n 1, 1) := by decide +kernel
theorem dM_uses_3 : decode cM_uses 3 = .ok (.invokevirtual 243, 3) := by decide +kernel
theorem dM_uses_6 : decode cM_uses 6 = .ok (.ifCond .eq 7, 3) := by decide +kernel
theorem dM_uses_9 : decode cM_uses 9 = .ok (.iconst 1, 1) := by decide +kernel
theorem dM_uses_10 : decode cM_uses 10 = .ok (.goto 4, 3) := by decide +kernel
theorem dM_uses_13 : decode cM_uses 13 = .ok (.iconst 0, 1) := by decide +kernel
theorem dM_uses_14 : decode cM_uses 14 = .ok (.invokevirtual 231, 3) := by decide +kernel
theorem dM_uses_17 : decode cM_uses 17 = .ok (.ifCond .eq 5, 3) := by decide +kernel
theorem dM_uses_20 : decode cM_uses 20 = .ok (.iconst 0, 1) := by decide +kernel
theorem dM_uses_21 : decode cM_uses 21 = .ok (.ireturn, 1) := by decide +kernel
theorem dM_uses_22 : decode cM_uses 22 = .ok (.iconst 0, 1) := by decide +kernel
theorem dM_uses_23 : decode cM_uses 23 = .ok (.istore_n 2, 1) := by decide +kernel
theorem dM_uses_24 : decode cM_uses 24 = .ok (.iconst 0, 1) := by decide +kernel
theorem dM_uses_25 : decode cM_uses 25 = .ok (.istore_n 3, 1) := by decide +kernel
theorem dM_uses_26 : decode cM_uses 26 = .ok (.iload_n 3, 1) := by decide +kernel
theorem dM_uses_27 : decode cM_uses 27 = .ok (.aload_n 0, 1) := by decide +kernel
theorem dM_uses_28 : decode cM_uses 28 = .ok (.getfield 196, 3) := by decide +kernel
theorem dM_uses_31 : decode cM_uses 31 = .ok (.if_icmp .ge 53, 3) := by decide +kernel
theorem dM_uses_34 : decode cM_uses 34 = .ok (.iconst 0, 1) := by decide +kernel
theorem dM_uses_35 : decode cM_uses 35 = .ok (.istore 4, 2) := by decide +kernel
theorem dM_uses_37 : decode cM_uses 37 = .ok (.iload 4, 2) := by decide +kernel
theorem dM_uses_39 : decode cM_uses 39 = .ok (.aload_n 0, 1) := by decide +kernel
theorem dM_uses_40 : decode cM_uses 40 = .ok (.getfield 32, 3) := by decide +kernel
theorem dM_uses_43 : decode cM_uses 43 = .ok (.iload_n 3, 1) := by decide +kernel
theorem dM_uses_44 : decode cM_uses 44 = .ok (.iaload, 1) := by decide +kernel
theorem dM_uses_45 : decode cM_uses 45 = .ok (.if_icmp .ge 33, 3) := by decide +kernel
theorem dM_uses_48 : decode cM_uses 48 = .ok (.iload_n 2, 1) := by decide +kernel
theorem dM_uses_49 : decode cM_uses 49 = .ok (.aload_n 0, 1) := by decide +kernel
theorem dM_uses_50 : decode cM_uses 50 = .ok (.getfield 35, 3) := by decide +kernel
theorem dM_uses_53 : decode cM_uses 53 = .ok (.bipush 31, 2) := by decide +kernel
theorem dM_uses_55 : decode cM_uses 55 = .ok (.iload_n 3, 1) := by decide +kernel
theorem dM_uses_56 : decode cM_uses 56 = .ok (.imul, 1) := by decide +kernel
theorem dM_uses_57 : decode cM_uses 57 = .ok (.iload 4, 2) := by decide +kernel
theorem dM_uses_59 : decode cM_uses 59 = .ok (.iadd, 1) := by decide +kernel
theorem dM_uses_60 : decode cM_uses 60 = .ok (.iaload, 1) := by decide +kernel
theorem dM_uses_61 : decode cM_uses 61 = .ok (.iload_n 1, 1) := by decide +kernel
theorem dM_uses_62 : decode cM_uses 62 = .ok (.if_icmp .ne 7, 3) := by decide +kernel
theorem dM_uses_65 : decode cM_uses 65 = .ok (.iconst 1, 1) := by decide +kernel
theorem dM_uses_66 : decode cM_uses 66 = .ok (.goto 4, 3) := by decide +kernel
theorem dM_uses_69 : decode cM_uses 69 = .ok (.iconst 0, 1) := by decide +kernel
theorem dM_uses_70 : decode cM_uses 70 = .ok (.iadd, 1) := by decide +kernel
theorem dM_uses_71 : decode cM_uses 71 = .ok (.istore_n 2, 1) := by decide +kernel
theorem dM_uses_72 : decode cM_uses 72 = .ok (.iinc 4 1, 3) := by decide +kernel
theorem dM_uses_75 : decode cM_uses 75 = .ok (.goto (-38), 3) := by decide +kernel
theorem dM_uses_78 : decode cM_uses 78 = .ok (.iinc 3 1, 3) := by decide +kernel
theorem dM_uses_81 : decode cM_uses 81 = .ok (.goto (-55), 3) := by decide +kernel
theorem dM_uses_84 : decode cM_uses 84 = .ok (.iload_n 2, 1) := by decide +kernel
theorem dM_uses_85 : decode cM_uses 85 = .ok (.ireturn, 1) := by decide +kernel
theorem dM_ask_0 : decode cM_ask 0 = .ok (.aload_n 0, 1) := by decide +kernel
theorem dM_ask_1 : decode cM_ask 1 = .ok (.aload_n 0, 1) := by decide +kernel
theorem dM_ask_2 : decode cM_ask 2 = .ok (.iload_n 1, 1) := by decide +kernel
theorem dM_ask_3 : decode cM_ask 3 = .ok (.invokevirtual 243, 3) := by decide +kernel
theorem dM_ask_6 : decode cM_ask 6 = .ok (.ifCond .ne 16, 3) := by decide +kernel
theorem dM_ask_9 : decode cM_ask 9 = .ok (.iload_n 2, 1) := by decide +kernel
theorem dM_ask_10 : decode cM_ask 10 = .ok (.ldc 226, 2) := by decide +kernel
theorem dM_ask_12 : decode cM_ask 12 = .ok (.if_icmp .eq 14, 3) := by decide +kernel
theorem dM_ask_15 : decode cM_ask 15 = .ok (.iload_n 2, 1) := by decide +kernel
theorem dM_ask_16 : decode cM_ask 16 = .ok (.invokestatic 237, 3) := by decide +kernel
theorem dM_ask_19 : decode cM_ask 19 = .ok (.ifCond .ne 7, 3) := by decide +kernel
theorem dM_ask_22 : decode cM_ask 22 = .ok (.iconst 1, 1) := by decide +kernel
theorem dM_ask_23 : decode cM_ask 23 = .ok (.goto 4, 3) := by decide +kernel
theorem dM_ask_26 : decode cM_ask 26 = .ok (.iconst 0, 1) := by decide +kernel
theorem dM_ask_27 : decode cM_ask 27 = .ok (.invokevirtual 231, 3) := by decide +kernel
theorem dM_ask_30 : decode cM_ask 30 = .ok (.ifCond .eq 5, 3) := by decide +kernel
theorem dM_ask_33 : decode cM_ask 33 = .ok (.iconst 0, 1) := by decide +kernel
theorem dM_ask_34 : decode cM_ask 34 = .ok (.ireturn, 1) := by decide +kernel
theorem dM_ask_35 : decode cM_ask 35 = .ok (.aload_n 0, 1) := by decide +kernel
theorem dM_ask_36 : decode cM_ask 36 = .ok (.getfield 29, 3) := by decide +kernel
theorem dM_ask_39 : decode cM_ask 39 = .ok (.iload_n 1, 1) := by decide +kernel
theorem dM_ask_40 : decode cM_ask 40 = .ok (.iaload, 1) := by decide +kernel
theorem dM_ask_41 : decode cM_ask 41 = .ok (.istore_n 3, 1) := by decide +kernel
theorem dM_ask_42 : decode cM_ask 42 = .ok (.aload_n 0, 1) := by decide +kernel
theorem dM_ask_43 : decode cM_ask 43 = .ok (.getfield 29, 3) := by decide +kernel
theorem dM_ask_46 : decode cM_ask 46 = .ok (.iload_n 1, 1) := by decide +kernel
theorem dM_ask_47 : decode cM_ask 47 = .ok (.iload_n 2, 1) := by decide +kernel
theorem dM_ask_48 : decode cM_ask 48 = .ok (.iastore, 1) := by decide +kernel
theorem dM_ask_49 : decode cM_ask 49 = .ok (.iload_n 3, 1) := by decide +kernel
theorem dM_ask_50 : decode cM_ask 50 = .ok (.ireturn, 1) := by decide +kernel
theorem dM_countb_0 : decode cM_countb 0 = .ok (.aload_n 0, 1) := by decide +kernel
theorem dM_countb_1 : decode cM_countb 1 = .ok (.iload_n 1, 1) := by decide +kernel
theorem dM_countb_2 : decode cM_countb 2 = .ok (.iconst 0, 1) := by decide +kernel
theorem dM_countb_3 : decode cM_countb 3 = .ok (.iconst 4, 1) := by decide +kernel
theorem dM_countb_4 : decode cM_countb 4 = .ok (.invokestatic 227, 3) := by decide +kernel
theorem dM_countb_7 : decode cM_countb 7 = .ok (.ifCond .eq 7, 3) := by decide +kernel
theorem dM_countb_10 : decode cM_countb 10 = .ok (.iconst 0, 1) := by decide +kernel
theorem dM_countb_11 : decode cM_countb 11 = .ok (.goto 4, 3) := by decide +kernel
theorem dM_countb_14 : decode cM_countb 14 = .ok (.iconst 1, 1) := by decide +kernel
theorem dM_countb_15 : decode cM_countb 15 = .ok (.invokevirtual 231, 3) := by decide +kernel
theorem dM_countb_18 : decode cM_countb 18 = .ok (.ifCond .eq 5, 3) := by decide +kernel
theorem dM_countb_21 : decode cM_countb 21 = .ok (.iconst 0, 1) := by decide +kernel
theorem dM_countb_22 : decode cM_countb 22 = .ok (.ireturn, 1) := by decide +kernel
theorem dM_countb_23 : decode cM_countb 23 = .ok (.iload_n 1, 1) := by decide +kernel
theorem dM_countb_24 : decode cM_countb 24 = .ok (.tableswitch 52 0 3 #[32, 37, 42, 47], 32) := by decide +kernel
theorem dM_countb_56 : decode cM_countb 56 = .ok (.aload_n 0, 1) := by decide +kernel
theorem dM_countb_57 : decode cM_countb 57 = .ok (.getfield 190, 3) := by decide +kernel
theorem dM_countb_60 : decode cM_countb 60 = .ok (.ireturn, 1) := by decide +kernel
theorem dM_countb_61 : decode cM_countb 61 = .ok (.aload_n 0, 1) := by decide +kernel
theorem dM_countb_62 : decode cM_countb 62 = .ok (.getfield 193, 3) := by decide +kernel
theorem dM_countb_65 : decode cM_countb 65 = .ok (.ireturn, 1) := by decide +kernel
theorem dM_countb_66 : decode cM_countb 66 = .ok (.aload_n 0, 1) := by decide +kernel
theorem dM_countb_67 : decode cM_countb 67 = .ok (.getfield 196, 3) := by decide +kernel
theorem dM_countb_70 : decode cM_countb 70 = .ok (.ireturn, 1) := by decide +kernel
theorem dM_countb_71 : decode cM_countb 71 = .ok (.aload_n 0, 1) := by decide +kernel
theorem dM_countb_72 : decode cM_countb 72 = .ok (.invokevirtual 307, 3) := by decide +kernel
theorem dM_countb_75 : decode cM_countb 75 = .ok (.ireturn, 1) := by decide +kernel
theorem dM_countb_76 : decode cM_countb 76 = .ok (.aload_n 0, 1) := by decide +kernel
theorem dM_countb_77 : decode cM_countb 77 = .ok (.getfield 199, 3) := by decide +kernel
theorem dM_countb_80 : decode cM_countb 80 = .ok (.ireturn, 1) := by decide +kernel
theorem dM_predict_0 : decode cM_predict 0 = .ok (.aload_n 0, 1) := by decide +kernel
theorem dM_predict_1 : decode cM_predict 1 = .ok (.iload_n 1, 1) := by decide +kernel
theorem dM_predict_2 : decode cM_predict 2 = .ok (.iconst 0, 1) := by decide +kernel
theorem dM_predict_3 : decode cM_predict 3 = .ok (.aload_n 0, 1) := by decide +kernel
theorem dM_predict_4 : decode cM_predict 4 = .ok (.getfield 196, 3) := by decide +kernel
theorem dM_predict_7 : decode cM_predict 7 = .ok (.invokestatic 227, 3) := by decide +kernel
theorem dM_predict_10 : decode cM_predict 10 = .ok (.ifCond .eq 7, 3) := by decide +kernel
theorem dM_predict_13 : decode cM_predict 13 = .ok (.iconst 0, 1) := by decide +kernel
theorem dM_predict_14 : decode cM_predict 14 = .ok (.goto 4, 3) := by decide +kernel
theorem dM_predict_17 : decode cM_predict 17 = .ok (.iconst 1, 1) := by decide +kernel
theorem dM_predict_18 : decode cM_predict 18 = .ok (.invokevirtual 231, 3) := by decide +kernel
theorem dM_predict_21 : decode cM_predict 21 = .ok (.ifCond .eq 5, 3) := by decide +kernel
theorem dM_predict_24 : decode cM_predict 24 = .ok (.iconst 0, 1) := by decide +kernel
theorem dM_predict_25 : decode cM_predict 25 = .ok (.ireturn, 1) := by decide +kernel
theorem dM_predict_26 : decode cM_predict 26 = .ok (.aload_n 0, 1) := by decide +kernel
theorem dM_predict_27 : decode cM_predict 27 = .ok (.iconst (-1), 1) := by decide +kernel
theorem dM_predict_28 : decode cM_predict 28 = .ok (.iload_n 1, 1) := by decide +kernel
theorem dM_predict_29 : decode cM_predict 29 = .ok (.iconst 1, 1) := by decide +kernel
theorem dM_predict_30 : decode cM_predict 30 = .ok (.iconst 0, 1) := by decide +kernel
theorem dM_predict_31 : decode cM_predict 31 = .ok (.invokevirtual 290, 3) := by decide +kernel
theorem dM_predict_34 : decode cM_predict 34 = .ok (.aload_n 0, 1) := by decide +kernel
theorem dM_predict_35 : decode cM_predict 35 = .ok (.aload_n 0, 1) := by decide +kernel
theorem dM_predict_36 : decode cM_predict 36 = .ok (.getfield 66, 3) := by decide +kernel
theorem dM_predict_39 : decode cM_predict 39 = .ok (.aload_n 0, 1) := by decide +kernel
theorem dM_predict_40 : decode cM_predict 40 = .ok (.getfield 99, 3) := by decide +kernel
theorem dM_predict_43 : decode cM_predict 43 = .ok (.invokevirtual 398, 3) := by decide +kernel
theorem dM_predict_46 : decode cM_predict 46 = .ok (.ireturn, 1) := by decide +kernel
theorem dM_error_0 : decode cM_error 0 = .ok (.aload_n 0, 1) := by decide +kernel
theorem dM_error_1 : decode cM_error 1 = .ok (.iload_n 3, 1) := by decide +kernel
theorem dM_error_2 : decode cM_error 2 = .ok (.iconst 0, 1) := by decide +kernel
theorem dM_error_3 : decode cM_error 3 = .ok (.aload_n 0, 1) := by decide +kernel
theorem dM_error_4 : decode cM_error 4 = .ok (.getfield 196, 3) := by decide +kernel
theorem dM_error_7 : decode cM_error 7 = .ok (.invokestatic 227, 3) := by decide +kernel
theorem dM_error_10 : decode cM_error 10 = .ok (.ifCond .eq 7, 3) := by decide +kernel
theorem dM_error_13 : decode cM_error 13 = .ok (.iconst 0, 1) := by decide +kernel
theorem dM_error_14 : decode cM_error 14 = .ok (.goto 4, 3) := by decide +kernel
theorem dM_error_17 : decode cM_error 17 = .ok (.iconst 1, 1) := by decide +kernel
theorem dM_error_18 : decode cM_error 18 = .ok (.invokevirtual 231, 3) := by decide +kernel
theorem dM_error_21 : decode cM_error 21 = .ok (.ifCond .eq 5, 3) := by decide +kernel
theorem dM_error_24 : decode cM_error 24 = .ok (.iconst 0, 1) := by decide +kernel
theorem dM_error_25 : decode cM_error 25 = .ok (.ireturn, 1) := by decide +kernel
theorem dM_error_26 : decode cM_error 26 = .ok (.aload_n 0, 1) := by decide +kernel
theorem dM_error_27 : decode cM_error 27 = .ok (.lload_n 1, 1) := by decide +kernel
theorem dM_error_28 : decode cM_error 28 = .ok (.iload_n 3, 1) := by decide +kernel
theorem dM_error_29 : decode cM_error 29 = .ok (.invokevirtual 401, 3) := by decide +kernel
theorem dM_error_32 : decode cM_error 32 = .ok (.aload_n 0, 1) := by decide +kernel
theorem dM_error_33 : decode cM_error 33 = .ok (.aload_n 0, 1) := by decide +kernel
theorem dM_error_34 : decode cM_error 34 = .ok (.getfield 90, 3) := by decide +kernel
theorem dM_error_37 : decode cM_error 37 = .ok (.aload_n 0, 1) := by decide +kernel
theorem dM_error_38 : decode cM_error 38 = .ok (.getfield 105, 3) := by decide +kernel
theorem dM_error_41 : decode cM_error 41 = .ok (.invokevirtual 398, 3) := by decide +kernel
theorem dM_error_44 : decode cM_error 44 = .ok (.ireturn, 1) := by decide +kernel
theorem dM_byteAt_0 : decode cM_byteAt 0 = .ok (.aload_n 0, 1) := by decide +kernel
theorem dM_byteAt_1 : decode cM_byteAt 1 = .ok (.iconst 0, 1) := by decide +kernel
theorem dM_byteAt_2 : decode cM_byteAt 2 = .ok (.putfield 144, 3) := by decide +kernel
theorem dM_byteAt_5 : decode cM_byteAt 5 = .ok (.iload_n 1, 1) := by decide +kernel
theorem dM_byteAt_6 : decode cM_byteAt 6 = .ok (.ifCond .lt 11, 3) := by decide +kernel
theorem dM_byteAt_9 : decode cM_byteAt 9 = .ok (.iload_n 1, 1) := by decide +kernel
theorem dM_byteAt_10 : decode cM_byteAt 10 = .ok (.aload_n 0, 1) := by decide +kernel
theorem dM_byteAt_11 : decode cM_byteAt 11 = .ok (.getfield 199, 3) := by decide +kernel
theorem dM_byteAt_14 : decode cM_byteAt 14 = .ok (.if_icmp .lt 7, 3) := by decide +kernel
theorem dM_byteAt_17 : decode cM_byteAt 17 = .ok (.iconst (-1), 1) := by decide +kernel
theorem dM_byteAt_18 : decode cM_byteAt 18 = .ok (.goto 9, 3) := by decide +kernel
theorem dM_byteAt_21 : decode cM_byteAt 21 = .ok (.aload_n 0, 1) := by decide +kernel
theorem dM_byteAt_22 : decode cM_byteAt 22 = .ok (.getfield 120, 3) := by decide +kernel
theorem dM_byteAt_25 : decode cM_byteAt 25 = .ok (.iload_n 1, 1) := by decide +kernel
theorem dM_byteAt_26 : decode cM_byteAt 26 = .ok (.baload, 1) := by decide +kernel
theorem dM_byteAt_27 : decode cM_byteAt 27 = .ok (.ireturn, 1) := by decide +kernel
