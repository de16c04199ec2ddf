theorem dM_takeSizes_0 : decode cM_takeSizes 0 = .ok (.aload_n 0, 1) := by decide +kernel
theorem dM_takeSizes_1 : decode cM_takeSizes 1 = .ok (.aload_n 1, 1) := by decide +kernel
theorem dM_takeSizes_2 : decode cM_takeSizes 2 = .ok (.invokestatic 150, 3) := by decide +kernel
theorem dM_takeSizes_5 : decode cM_takeSizes 5 = .ok (.ifCond .ge 7, 3) := by decide +kernel
theorem dM_takeSizes_8 : decode cM_takeSizes 8 = .ok (.iconst 1, 1) := by decide +kernel
theorem dM_takeSizes_9 : decode cM_takeSizes 9 = .ok (.goto 4, 3) := by decide +kernel
theorem dM_takeSizes_12 : decode cM_takeSizes 12 = .ok (.iconst 0, 1) := by decide +kernel
theorem dM_takeSizes_13 : decode cM_takeSizes 13 = .ok (.istore_n 3, 1) := by decide +kernel
theorem dM_takeSizes_14 : decode cM_takeSizes 14 = .ok (.aload_n 0, 1) := by decide +kernel
theorem dM_takeSizes_15 : decode cM_takeSizes 15 = .ok (.sipush 300, 3) := by decide +kernel
theorem dM_takeSizes_18 : decode cM_takeSizes 18 = .ok (.iaload, 1) := by decide +kernel
theorem dM_takeSizes_19 : decode cM_takeSizes 19 = .ok (.aload_n 1, 1) := by decide +kernel
theorem dM_takeSizes_20 : decode cM_takeSizes 20 = .ok (.sipush 300, 3) := by decide +kernel
theorem dM_takeSizes_23 : decode cM_takeSizes 23 = .ok (.iaload, 1) := by decide +kernel
theorem dM_takeSizes_24 : decode cM_takeSizes 24 = .ok (.if_icmp .le 11, 3) := by decide +kernel
theorem dM_takeSizes_27 : decode cM_takeSizes 27 = .ok (.aload_n 0, 1) := by decide +kernel
theorem dM_takeSizes_28 : decode cM_takeSizes 28 = .ok (.sipush 300, 3) := by decide +kernel
theorem dM_takeSizes_31 : decode cM_takeSizes 31 = .ok (.iaload, 1) := by decide +kernel
theorem dM_takeSizes_32 : decode cM_takeSizes 32 = .ok (.goto 8, 3) := by decide +kernel
theorem dM_takeSizes_35 : decode cM_takeSizes 35 = .ok (.aload_n 1, 1) := by decide +kernel
theorem dM_takeSizes_36 : decode cM_takeSizes 36 = .ok (.sipush 300, 3) := by decide +kernel
theorem dM_takeSizes_39 : decode cM_takeSizes 39 = .ok (.iaload, 1) := by decide +kernel
theorem dM_takeSizes_40 : decode cM_takeSizes 40 = .ok (.istore 4, 2) := by decide +kernel
theorem dM_takeSizes_42 : decode cM_takeSizes 42 = .ok (.iconst 0, 1) := by decide +kernel
theorem dM_takeSizes_43 : decode cM_takeSizes 43 = .ok (.istore 5, 2) := by decide +kernel
theorem dM_takeSizes_45 : decode cM_takeSizes 45 = .ok (.iconst 0, 1) := by decide +kernel
theorem dM_takeSizes_46 : decode cM_takeSizes 46 = .ok (.istore 6, 2) := by decide +kernel
theorem dM_takeSizes_48 : decode cM_takeSizes 48 = .ok (.iload 6, 2) := by decide +kernel
theorem dM_takeSizes_50 : decode cM_takeSizes 50 = .ok (.iload 4, 2) := by decide +kernel
theorem dM_takeSizes_52 : decode cM_takeSizes 52 = .ok (.if_icmp .ge 92, 3) := by decide +kernel
theorem dM_takeSizes_55 : decode cM_takeSizes 55 = .ok (.iload 6, 2) := by decide +kernel
theorem dM_takeSizes_57 : decode cM_takeSizes 57 = .ok (.aload_n 0, 1) := by decide +kernel
theorem dM_takeSizes_58 : decode cM_takeSizes 58 = .ok (.sipush 300, 3) := by decide +kernel
theorem dM_takeSizes_61 : decode cM_takeSizes 61 = .ok (.iaload, 1) := by decide +kernel
theorem dM_takeSizes_62 : decode cM_takeSizes 62 = .ok (.if_icmp .ge 10, 3) := by decide +kernel
theorem dM_takeSizes_65 : decode cM_takeSizes 65 = .ok (.aload_n 0, 1) := by decide +kernel
theorem dM_takeSizes_66 : decode cM_takeSizes 66 = .ok (.iload 6, 2) := by decide +kernel
theorem dM_takeSizes_68 : decode cM_takeSizes 68 = .ok (.iaload, 1) := by decide +kernel
theorem dM_takeSizes_69 : decode cM_takeSizes 69 = .ok (.goto 4, 3) := by decide +kernel
theorem dM_takeSizes_72 : decode cM_takeSizes 72 = .ok (.iconst 0, 1) := by decide +kernel
theorem dM_takeSizes_73 : decode cM_takeSizes 73 = .ok (.istore 7, 2) := by decide +kernel
theorem dM_takeSizes_75 : decode cM_takeSizes 75 = .ok (.iload 6, 2) := by decide +kernel
theorem dM_takeSizes_77 : decode cM_takeSizes 77 = .ok (.aload_n 1, 1) := by decide +kernel
theorem dM_takeSizes_78 : decode cM_takeSizes 78 = .ok (.sipush 300, 3) := by decide +kernel
theorem dM_takeSizes_81 : decode cM_takeSizes 81 = .ok (.iaload, 1) := by decide +kernel
theorem dM_takeSizes_82 : decode cM_takeSizes 82 = .ok (.if_icmp .ge 10, 3) := by decide +kernel
theorem dM_takeSizes_85 : decode cM_takeSizes 85 = .ok (.aload_n 1, 1) := by decide +kernel
theorem dM_takeSizes_86 : decode cM_takeSizes 86 = .ok (.iload 6, 2) := by decide +kernel
theorem dM_takeSizes_88 : decode cM_takeSizes 88 = .ok (.iaload, 1) := by decide +kernel
theorem dM_takeSizes_89 : decode cM_takeSizes 89 = .ok (.goto 4, 3) := by decide +kernel
theorem dM_takeSizes_92 : decode cM_takeSizes 92 = .ok (.iconst 0, 1) := by decide +kernel
theorem dM_takeSizes_93 : decode cM_takeSizes 93 = .ok (.istore 8, 2) := by decide +kernel
theorem dM_takeSizes_95 : decode cM_takeSizes 95 = .ok (.iload_n 3, 1) := by decide +kernel
theorem dM_takeSizes_96 : decode cM_takeSizes 96 = .ok (.ifCond .eq 11, 3) := by decide +kernel
theorem dM_takeSizes_99 : decode cM_takeSizes 99 = .ok (.iload 8, 2) := by decide +kernel
theorem dM_takeSizes_101 : decode cM_takeSizes 101 = .ok (.iload 7, 2) := by decide +kernel
theorem dM_takeSizes_103 : decode cM_takeSizes 103 = .ok (.isub, 1) := by decide +kernel
theorem dM_takeSizes_104 : decode cM_takeSizes 104 = .ok (.goto 8, 3) := by decide +kernel
theorem dM_takeSizes_107 : decode cM_takeSizes 107 = .ok (.iload 7, 2) := by decide +kernel
theorem dM_takeSizes_109 : decode cM_takeSizes 109 = .ok (.iload 8, 2) := by decide +kernel
theorem dM_takeSizes_111 : decode cM_takeSizes 111 = .ok (.isub, 1) := by decide +kernel
theorem dM_takeSizes_112 : decode cM_takeSizes 112 = .ok (.iload 5, 2) := by decide +kernel
theorem dM_takeSizes_114 : decode cM_takeSizes 114 = .ok (.isub, 1) := by decide +kernel
theorem dM_takeSizes_115 : decode cM_takeSizes 115 = .ok (.istore 9, 2) := by decide +kernel
theorem dM_takeSizes_117 : decode cM_takeSizes 117 = .ok (.iload 9, 2) := by decide +kernel
theorem dM_takeSizes_119 : decode cM_takeSizes 119 = .ok (.ifCond .ge 7, 3) := by decide +kernel
theorem dM_takeSizes_122 : decode cM_takeSizes 122 = .ok (.iconst 1, 1) := by decide +kernel
theorem dM_takeSizes_123 : decode cM_takeSizes 123 = .ok (.goto 4, 3) := by decide +kernel
theorem dM_takeSizes_126 : decode cM_takeSizes 126 = .ok (.iconst 0, 1) := by decide +kernel
theorem dM_takeSizes_127 : decode cM_takeSizes 127 = .ok (.istore 5, 2) := by decide +kernel
theorem dM_takeSizes_129 : decode cM_takeSizes 129 = .ok (.aload_n 0, 1) := by decide +kernel
theorem dM_takeSizes_130 : decode cM_takeSizes 130 = .ok (.iload 6, 2) := by decide +kernel
theorem dM_takeSizes_132 : decode cM_takeSizes 132 = .ok (.iload 9, 2) := by decide +kernel
theorem dM_takeSizes_134 : decode cM_takeSizes 134 = .ok (.ldc 165, 2) := by decide +kernel
theorem dM_takeSizes_136 : decode cM_takeSizes 136 = .ok (.iand, 1) := by decide +kernel
theorem dM_takeSizes_137 : decode cM_takeSizes 137 = .ok (.iastore, 1) := by decide +kernel
theorem dM_takeSizes_138 : decode cM_takeSizes 138 = .ok (.iinc 6 1, 3) := by decide +kernel
theorem dM_takeSizes_141 : decode cM_takeSizes 141 = .ok (.goto (-93), 3) := by decide +kernel
theorem dM_takeSizes_144 : decode cM_takeSizes 144 = .ok (.aload_n 0, 1) := by decide +kernel
theorem dM_takeSizes_145 : decode cM_takeSizes 145 = .ok (.sipush 301, 3) := by decide +kernel
theorem dM_takeSizes_148 : decode cM_takeSizes 148 = .ok (.iload_n 3, 1) := by decide +kernel
theorem dM_takeSizes_149 : decode cM_takeSizes 149 = .ok (.ifCond .eq 7, 3) := by decide +kernel
theorem dM_takeSizes_152 : decode cM_takeSizes 152 = .ok (.iload_n 2, 1) := by decide +kernel
theorem dM_takeSizes_153 : decode cM_takeSizes 153 = .ok (.goto 8, 3) := by decide +kernel
theorem dM_takeSizes_156 : decode cM_takeSizes 156 = .ok (.aload_n 0, 1) := by decide +kernel
theorem dM_takeSizes_157 : decode cM_takeSizes 157 = .ok (.sipush 301, 3) := by decide +kernel
theorem dM_takeSizes_160 : decode cM_takeSizes 160 = .ok (.iaload, 1) := by decide +kernel
theorem dM_takeSizes_161 : decode cM_takeSizes 161 = .ok (.iastore, 1) := by decide +kernel
theorem dM_takeSizes_162 : decode cM_takeSizes 162 = .ok (.aload_n 0, 1) := by decide +kernel
theorem dM_takeSizes_163 : decode cM_takeSizes 163 = .ok (.iload 4, 2) := by decide +kernel
theorem dM_takeSizes_165 : decode cM_takeSizes 165 = .ok (.invokestatic 166, 3) := by decide +kernel
theorem dM_takeSizes_168 : decode cM_takeSizes 168 = .ok (.return_, 1) := by decide +kernel
theorem dM_add_0 : decode cM_add 0 = .ok (.iload_n 2, 1) := by decide +kernel
theorem dM_add_1 : decode cM_add 1 = .ok (.aload_n 1, 1) := by decide +kernel
theorem dM_add_2 : decode cM_add 2 = .ok (.sipush 301, 3) := by decide +kernel
theorem dM_add_5 : decode cM_add 5 = .ok (.iaload, 1) := by decide +kernel
theorem dM_add_6 : decode cM_add 6 = .ok (.imul, 1) := by decide +kernel
theorem dM_add_7 : decode cM_add 7 = .ok (.istore_n 3, 1) := by decide +kernel
theorem dM_add_8 : decode cM_add 8 = .ok (.iload_n 3, 1) := by decide +kernel
theorem dM_add_9 : decode cM_add 9 = .ok (.ifCond .ne 4, 3) := by decide +kernel
theorem dM_add_12 : decode cM_add 12 = .ok (.return_, 1) := by decide +kernel
theorem dM_add_13 : decode cM_add 13 = .ok (.aload_n 0, 1) := by decide +kernel
theorem dM_add_14 : decode cM_add 14 = .ok (.sipush 301, 3) := by decide +kernel
theorem dM_add_17 : decode cM_add 17 = .ok (.iaload, 1) := by decide +kernel
theorem dM_add_18 : decode cM_add 18 = .ok (.ifCond .ne 17, 3) := by decide +kernel
theorem dM_add_21 : decode cM_add 21 = .ok (.aload_n 1, 1) := by decide +kernel
theorem dM_add_22 : decode cM_add 22 = .ok (.aload_n 0, 1) := by decide +kernel
theorem dM_add_23 : decode cM_add 23 = .ok (.invokestatic 154, 3) := by decide +kernel
theorem dM_add_26 : decode cM_add 26 = .ok (.aload_n 0, 1) := by decide +kernel
theorem dM_add_27 : decode cM_add 27 = .ok (.sipush 301, 3) := by decide +kernel
theorem dM_add_30 : decode cM_add 30 = .ok (.iload_n 3, 1) := by decide +kernel
theorem dM_add_31 : decode cM_add 31 = .ok (.iastore, 1) := by decide +kernel
theorem dM_add_32 : decode cM_add 32 = .ok (.goto 26, 3) := by decide +kernel
theorem dM_add_35 : decode cM_add 35 = .ok (.aload_n 0, 1) := by decide +kernel
theorem dM_add_36 : decode cM_add 36 = .ok (.sipush 301, 3) := by decide +kernel
theorem dM_add_39 : decode cM_add 39 = .ok (.iaload, 1) := by decide +kernel
theorem dM_add_40 : decode cM_add 40 = .ok (.iload_n 3, 1) := by decide +kernel
theorem dM_add_41 : decode cM_add 41 = .ok (.if_icmp .ne 11, 3) := by decide +kernel
theorem dM_add_44 : decode cM_add 44 = .ok (.aload_n 0, 1) := by decide +kernel
theorem dM_add_45 : decode cM_add 45 = .ok (.aload_n 1, 1) := by decide +kernel
theorem dM_add_46 : decode cM_add 46 = .ok (.invokestatic 158, 3) := by decide +kernel
theorem dM_add_49 : decode cM_add 49 = .ok (.goto 9, 3) := by decide +kernel
theorem dM_add_52 : decode cM_add 52 = .ok (.aload_n 0, 1) := by decide +kernel
theorem dM_add_53 : decode cM_add 53 = .ok (.aload_n 1, 1) := by decide +kernel
theorem dM_add_54 : decode cM_add 54 = .ok (.iload_n 3, 1) := by decide +kernel
theorem dM_add_55 : decode cM_add 55 = .ok (.invokestatic 161, 3) := by decide +kernel
theorem dM_add_58 : decode cM_add 58 = .ok (.return_, 1) := by decide +kernel
theorem dM_setInt_0 : decode cM_setInt 0 = .ok (.lload_n 1, 1) := by decide +kernel
theorem dM_setInt_1 : decode cM_setInt 1 = .ok (.lconst 0, 1) := by decide +kernel
theorem dM_setInt_2 : decode cM_setInt 2 = .ok (.lcmp, 1) := by decide +kernel
theorem dM_setInt_3 : decode cM_setInt 3 = .ok (.ifCond .ge 8, 3) := by decide +kernel
theorem dM_setInt_6 : decode cM_setInt 6 = .ok (.lload_n 1, 1) := by decide +kernel
theorem dM_setInt_7 : decode cM_setInt 7 = .ok (.lneg, 1) := by decide +kernel
theorem dM_setInt_8 : decode cM_setInt 8 = .ok (.goto 4, 3) := by decide +kernel
theorem dM_setInt_11 : decode cM_setInt 11 = .ok (.lload_n 1, 1) := by decide +kernel
theorem dM_setInt_12 : decode cM_setInt 12 = .ok (.lstore_n 3, 1) := by decide +kernel
theorem dM_setInt_13 : decode cM_setInt 13 = .ok (.iconst 0, 1) := by decide +kernel
theorem dM_setInt_14 : decode cM_setInt 14 = .ok (.istore 5, 2) := by decide +kernel
theorem dM_setInt_16 : decode cM_setInt 16 = .ok (.lload_n 3, 1) := by decide +kernel
theorem dM_setInt_17 : decode cM_setInt 17 = .ok (.lconst 0, 1) := by decide +kernel
theorem dM_setInt_18 : decode cM_setInt 18 = .ok (.lcmp, 1) := by decide +kernel
theorem dM_setInt_19 : decode cM_setInt 19 = .ok (.ifCond .le 24, 3) := by decide +kernel
theorem dM_setInt_22 : decode cM_setInt 22 = .ok (.aload_n 0, 1) := by decide +kernel
theorem dM_setInt_23 : decode cM_setInt 23 = .ok (.iload 5, 2) := by decide +kernel
theorem dM_setInt_25 : decode cM_setInt 25 = .ok (.lload_n 3, 1) := by decide +kernel
theorem dM_setInt_26 : decode cM_setInt 26 = .ok (.ldc2_w 148, 3) := by decide +kernel
theorem dM_setInt_29 : decode cM_setInt 29 = .ok (.land, 1) := by decide +kernel
theorem dM_setInt_30 : decode cM_setInt 30 = .ok (.l2i, 1) := by decide +kernel
theorem dM_setInt_31 : decode cM_setInt 31 = .ok (.iastore, 1) := by decide +kernel
theorem dM_setInt_32 : decode cM_setInt 32 = .ok (.lload_n 3, 1) := by decide +kernel
theorem dM_setInt_33 : decode cM_setInt 33 = .ok (.bipush 28, 2) := by decide +kernel
theorem dM_setInt_35 : decode cM_setInt 35 = .ok (.lshr, 1) := by decide +kernel
theorem dM_setInt_36 : decode cM_setInt 36 = .ok (.lstore_n 3, 1) := by decide +kernel
theorem dM_setInt_37 : decode cM_setInt 37 = .ok (.iinc 5 1, 3) := by decide +kernel
theorem dM_setInt_40 : decode cM_setInt 40 = .ok (.goto (-24), 3) := by decide +kernel
theorem dM_setInt_43 : decode cM_setInt 43 = .ok (.aload_n 0, 1) := by decide +kernel
theorem dM_setInt_44 : decode cM_setInt 44 = .ok (.sipush 300, 3) := by decide +kernel
theorem dM_setInt_47 : decode cM_setInt 47 = .ok (.iload 5, 2) := by decide +kernel
theorem dM_setInt_49 : decode cM_setInt 49 = .ok (.iastore, 1) := by decide +kernel
theorem dM_setInt_50 : decode cM_setInt 50 = .ok (.aload_n 0, 1) := by decide +kernel
theorem dM_setInt_51 : decode cM_setInt 51 = .ok (.sipush 301, 3) := by decide +kernel
theorem dM_setInt_54 : decode cM_setInt 54 = .ok (.lload_n 1, 1) := by decide +kernel
theorem dM_setInt_55 : decode cM_setInt 55 = .ok (.lconst 0, 1) := by decide +kernel
theorem dM_setInt_56 : decode cM_setInt 56 = .ok (.lcmp, 1) := by decide +kernel
theorem dM_setInt_57 : decode cM_setInt 57 = .ok (.ifCond .ge 7, 3) := by decide +kernel
theorem dM_setInt_60 : decode cM_setInt 60 = .ok (.iconst (-1), 1) := by decide +kernel
theorem dM_setInt_61 : decode cM_setInt 61 = .ok (.goto 14, 3) := by decide +kernel
theorem dM_setInt_64 : decode cM_setInt 64 = .ok (.lload_n 1, 1) := by decide +kernel
theorem dM_setInt_65 : decode cM_setInt 65 = .ok (.lconst 0, 1) := by decide +kernel
theorem dM_setInt_66 : decode cM_setInt 66 = .ok (.lcmp, 1) := by decide +kernel
theorem dM_setInt_67 : decode cM_setInt 67 = .ok (.ifCond .le 7, 3) := by decide +kernel
theorem dM_setInt_70 : decode cM_setInt 70 = .ok (.iconst 1, 1) := by decide +kernel
theorem dM_setInt_71 : decode cM_setInt 71 = .ok (.goto 4, 3) := by decide +kernel
theorem dM_setInt_74 : decode cM_setInt 74 = .ok (.iconst 0, 1) := by decide +kernel
theorem dM_setInt_75 : decode cM_setInt 75 = .ok (.iastore, 1) := by decide +kernel
theorem dM_setInt_76 : decode cM_setInt 76 = .ok (.return_, 1) := by decide +kernel
theorem dM_store_0 : decode cM_store 0 = .ok (.iconst 0, 1) := by decide +kernel
theorem dM_store_1 : decode cM_store 1 = .ok (.istore_n 3, 1) := by decide +kernel
theorem dM_store_2 : decode cM_store 2 = .ok (.iload_n 3, 1) := by decide +kernel
theorem dM_store_3 : decode cM_store 3 = .ok (.aload_n 0, 1) := by decide +kernel
theorem dM_store_4 : decode cM_store 4 = .ok (.sipush 300, 3) := by decide +kernel
theorem dM_store_7 : decode cM_store 7 = .ok (.iaload, 1) := by decide +kernel
theorem dM_store_8 : decode cM_store 8 = .ok (.if_icmp .ge 17, 3) := by decide +kernel
theorem dM_store_11 : decode cM_store 11 = .ok (.aload_n 1, 1) := by decide +kernel
theorem dM_store_12 : decode cM_store 12 = .ok (.iload_n 2, 1) := by decide +kernel
theorem dM_store_13 : decode cM_store 13 = .ok (.iload_n 3, 1) := by decide +kernel
theorem dM_store_14 : decode cM_store 14 = .ok (.iadd, 1) := by decide +kernel
theorem dM_store_15 : decode cM_store 15 = .ok (.aload_n 0, 1) := by decide +kernel
theorem dM_store_16 : decode cM_store 16 = .ok (.iload_n 3, 1) := by decide +kernel
theorem dM_store_17 : decode cM_store 17 = .ok (.iaload, 1) := by decide +kernel
theorem dM_store_18 : decode cM_store 18 = .ok (.iastore, 1) := by decide +kernel
theorem dM_store_19 : decode cM_store 19 = .ok (.iinc 3 1, 3) := by decide +kernel
theorem dM_store_22 : decode cM_store 22 = .ok (.goto (-20), 3) := by decide +kernel
theorem dM_store_25 : decode cM_store 25 = .ok (.aload_n 1, 1) := by decide +kernel
theorem dM_store_26 : decode cM_store 26 = .ok (.iload_n 2, 1) := by decide +kernel
theorem dM_store_27 : decode cM_store 27 = .ok (.sipush 130, 3) := by decide +kernel
theorem dM_store_30 : decode cM_store 30 = .ok (.iadd, 1) := by decide +kernel
theorem dM_store_31 : decode cM_store 31 = .ok (.aload_n 0, 1) := by decide +kernel
theorem dM_store_32 : decode cM_store 32 = .ok (.sipush 300, 3) := by decide +kernel
theorem dM_store_35 : decode cM_store 35 = .ok (.iaload, 1) := by decide +kernel
theorem dM_store_36 : decode cM_store 36 = .ok (.iastore, 1) := by decide +kernel
theorem dM_store_37 : decode cM_store 37 = .ok (.aload_n 1, 1) := by decide +kernel
theorem dM_store_38 : decode cM_store 38 = .ok (.iload_n 2, 1) := by decide +kernel
theorem dM_store_39 : decode cM_store 39 = .ok (.sipush 130, 3) := by decide +kernel
theorem dM_store_42 : decode cM_store 42 = .ok (.iadd, 1) := by decide +kernel
theorem dM_store_43 : decode cM_store 43 = .ok (.iconst 1, 1) := by decide +kernel
theorem dM_store_44 : decode cM_store 44 = .ok (.iadd, 1) := by decide +kernel
theorem dM_store_45 : decode cM_store 45 = .ok (.aload_n 0, 1) := by decide +kernel
theorem dM_store_46 : decode cM_store 46 = .ok (.sipush 301, 3) := by decide +kernel
theorem dM_store_49 : decode cM_store 49 = .ok (.iaload, 1) := by decide +kernel
theorem dM_store_50 : decode cM_store 50 = .ok (.iastore, 1) := by decide +kernel
theorem dM_store_51 : decode cM_store 51 = .ok (.return_, 1) := by decide +kernel
theorem dM_load_0 : decode cM_load 0 = .ok (.iconst 0, 1) := by decide +kernel
theorem dM_load_1 : decode cM_load 1 = .ok (.istore_n 3, 1) := by decide +kernel
theorem dM_load_2 : decode cM_load 2 = .ok (.iload_n 3, 1) := by decide +kernel
theorem dM_load_3 : decode cM_load 3 = .ok (.aload_n 0, 1) := by decide +kernel
theorem dM_load_4 : decode cM_load 4 = .ok (.iload_n 1, 1) := by decide +kernel
theorem dM_load_5 : decode cM_load 5 = .ok (.sipush 130, 3) := by decide +kernel
theorem dM_load_8 : decode cM_load 8 = .ok (.iadd, 1) := by decide +kernel
theorem dM_load_9 : decode cM_load 9 = .ok (.iaload, 1) := by decide +kernel
theorem dM_load_10 : decode cM_load 10 = .ok (.if_icmp .ge 17, 3) := by decide +kernel
theorem dM_load_13 : decode cM_load 13 = .ok (.aload_n 2, 1) := by decide +kernel
theorem dM_load_14 : decode cM_load 14 = .ok (.iload_n 3, 1) := by decide +kernel
theorem dM_load_15 : decode cM_load 15 = .ok (.aload_n 0, 1) := by decide +kernel
theorem dM_load_16 : decode cM_load 16 = .ok (.iload_n 1, 1) := by decide +kernel
theorem dM_load_17 : decode cM_load 17 = .ok (.iload_n 3, 1) := by decide +kernel
theorem dM_load_18 : decode cM_load 18 = .ok (.iadd, 1) := by decide +kernel
theorem dM_load_19 : decode cM_load 19 = .ok (.iaload, 1) := by decide +kernel
theorem dM_load_20 : decode cM_load 20 = .ok (.iastore, 1) := by decide +kernel
theorem dM_load_21 : decode cM_load 21 = .ok (.iinc 3 1, 3) := by decide +kernel
theorem dM_load_24 : decode cM_load 24 = .ok (.goto (-22), 3) := by decide +kernel
theorem dM_load_27 : decode cM_load 27 = .ok (.aload_n 2, 1) := by decide +kernel
theorem dM_load_28 : decode cM_load 28 = .ok (.sipush 300, 3) := by decide +kernel
theorem dM_load_31 : decode cM_load 31 = .ok (.aload_n 0, 1) := by decide +kernel
theorem dM_load_32 : decode cM_load 32 = .ok (.iload_n 1, 1) := by decide +kernel
theorem dM_load_33 : decode cM_load 33 = .ok (.sipush 130, 3) := by decide +kernel
theorem dM_load_36 : decode cM_load 36 = .ok (.iadd, 1) := by decide +kernel
theorem dM_load_37 : decode cM_load 37 = .ok (.iaload, 1) := by decide +kernel
theorem dM_load_38 : decode cM_load 38 = .ok (.iastore, 1) := by decide +kernel
theorem dM_load_39 : decode cM_load 39 = .ok (.aload_n 2, 1) := by decide +kernel
theorem dM_load_40 : decode cM_load 40 = .ok (.sipush 301, 3) := by decide +kernel
theorem dM_load_43 : decode cM_load 43 = .ok (.aload_n 0, 1) := by decide +kernel
theorem dM_load_44 : decode cM_load 44 = .ok (.iload_n 1, 1) := by decide +kernel
theorem dM_load_45 : decode cM_load 45 = .ok (.sipush 130, 3) := by decide +kernel
theorem dM_load_48 : decode cM_load 48 = .ok (.iadd, 1) := by decide +kernel
theorem dM_load_49 : decode cM_load 49 = .ok (.iconst 1, 1) := by decide +kernel
theorem dM_load_50 : decode cM_load 50 = .ok (.iadd, 1) := by decide +kernel
theorem dM_load_51 : decode cM_load 51 = .ok (.iaload, 1) := by decide +kernel
theorem dM_load_52 : decode cM_load 52 = .ok (.iastore, 1) := by decide +kernel
theorem dM_load_53 : decode cM_load 53 = .ok (.return_, 1) := by decide +kernel
theorem dM_storeLows_0 : decode cM_storeLows 0 = .ok (.iconst 0, 1) := by decide +kernel
theorem dM_storeLows_1 : decode cM_storeLows 1 = .ok (.istore_n 3, 1) := by decide +kernel
theorem dM_storeLows_2 : decode cM_storeLows 2 = .ok (.iload_n 3, 1) := by decide +kernel
theorem dM_storeLows_3 : decode cM_storeLows 3 = .ok (.bipush 19, 2) := by decide +kernel
theorem dM_storeLows_5 : decode cM_storeLows 5 = .ok (.if_icmp .ge 17, 3) := by decide +kernel
theorem dM_storeLows_8 : decode cM_storeLows 8 = .ok (.aload_n 1, 1) := by decide +kernel
theorem dM_storeLows_9 : decode cM_storeLows 9 = .ok (.iload_n 2, 1) := by decide +kernel
theorem dM_storeLows_10 : decode cM_storeLows 10 = .ok (.iload_n 3, 1) := by decide +kernel
theorem dM_storeLows_11 : decode cM_storeLows 11 = .ok (.iadd, 1) := by decide +kernel
theorem dM_storeLows_12 : decode cM_storeLows 12 = .ok (.aload_n 0, 1) := by decide +kernel
theorem dM_storeLows_13 : decode cM_storeLows 13 = .ok (.iload_n 3, 1) := by decide +kernel
theorem dM_storeLows_14 : decode cM_storeLows 14 = .ok (.iaload, 1) := by decide +kernel
theorem dM_storeLows_15 : decode cM_storeLows 15 = .ok (.iastore, 1) := by decide +kernel
theorem dM_storeLows_16 : decode cM_storeLows 16 = .ok (.iinc 3 1, 3) := by decide +kernel
theorem dM_storeLows_19 : decode cM_storeLows 19 = .ok (.goto (-17), 3) := by decide +kernel
theorem dM_storeLows_22 : decode cM_storeLows 22 = .ok (.return_, 1) := by decide +kernel
theorem dM_loadLows_0 : decode cM_loadLows 0 = .ok (.iconst 0, 1) := by decide +kernel
theorem dM_loadLows_1 : decode cM_loadLows 1 = .ok (.istore_n 3, 1) := by decide +kernel
theorem dM_loadLows_2 : decode cM_loadLows 2 = .ok (.iload_n 3, 1) := by decide +kernel
theorem dM_loadLows_3 : decode cM_loadLows 3 = .ok (.bipush 19, 2) := by decide +kernel
theorem dM_loadLows_5 : decode cM_loadLows 5 = .ok (.if_icmp .ge 17, 3) := by decide +kernel
theorem dM_loadLows_8 : decode cM_loadLows 8 = .ok (.aload_n 2, 1) := by decide +kernel
theorem dM_loadLows_9 : decode cM_loadLows 9 = .ok (.iload_n 3, 1) := by decide +kernel
theorem dM_loadLows_10 : decode cM_loadLows 10 = .ok (.aload_n 0, 1) := by decide +kernel
theorem dM_loadLows_11 : decode cM_loadLows 11 = .ok (.iload_n 1, 1) := by decide +kernel
theorem dM_loadLows_12 : decode cM_loadLows 12 = .ok (.iload_n 3, 1) := by decide +kernel
theorem dM_loadLows_13 : decode cM_loadLows 13 = .ok (.iadd, 1) := by decide +kernel
theorem dM_loadLows_14 : decode cM_loadLows 14 = .ok (.iaload, 1) := by decide +kernel
theorem dM_loadLows_15 : decode cM_loadLows 15 = .ok (.iastore, 1) := by decide +kernel
theorem dM_loadLows_16 : decode cM_loadLows 16 = .ok (.iinc 3 1, 3) := by decide +kernel
theorem dM_loadLows_19 : decode cM_loadLows 19 = .ok (.goto (-17), 3) := by decide +kernel
theorem dM_loadLows_22 : decode cM_loadLows 22 = .ok (.return_, 1) := by decide +kernel
theorem dM_zero_0 : decode cM_zero 0 = .ok (.iconst 0, 1) := by decide +kernel
theorem dM_zero_1 : decode cM_zero 1 = .ok (.istore_n 1, 1) := by decide +kernel
theorem dM_zero_2 : decode cM_zero 2 = .ok (.iload_n 1, 1) := by decide +kernel
theorem dM_zero_3 : decode cM_zero 3 = .ok (.bipush 19, 2) := by decide +kernel
theorem dM_zero_5 : decode cM_zero 5 = .ok (.if_icmp .ge 13, 3) := by decide +kernel
theorem dM_zero_8 : decode cM_zero 8 = .ok (.aload_n 0, 1) := by decide +kernel
theorem dM_zero_9 : decode cM_zero 9 = .ok (.iload_n 1, 1) := by decide +kernel
theorem dM_zero_10 : decode cM_zero 10 = .ok (.iconst 0, 1) := by decide +kernel
theorem dM_zero_11 : decode cM_zero 11 = .ok (.iastore, 1) := by decide +kernel
theorem dM_zero_12 : decode cM_zero 12 = .ok (.iinc 1 1, 3) := by decide +kernel
theorem dM_zero_15 : decode cM_zero 15 = .ok (.goto (-13), 3) := by decide +kernel
theorem dM_zero_18 : decode cM_zero 18 = .ok (.return_, 1) := by decide +kernel
