theorem dM_copy_0 : decode cM_copy 0 = .ok (.iconst 0, 1) := by decide +kernel
theorem dM_copy_1 : decode cM_copy 1 = .ok (.istore_n 2, 1) := by decide +kernel
theorem dM_copy_2 : decode cM_copy 2 = .ok (.iload_n 2, 1) := by decide +kernel
theorem dM_copy_3 : decode cM_copy 3 = .ok (.aload_n 0, 1) := by decide +kernel
theorem dM_copy_4 : decode cM_copy 4 = .ok (.sipush 300, 3) := by decide +kernel
theorem dM_copy_7 : decode cM_copy 7 = .ok (.iaload, 1) := by decide +kernel
theorem dM_copy_8 : decode cM_copy 8 = .ok (.if_icmp .ge 15, 3) := by decide +kernel
theorem dM_copy_11 : decode cM_copy 11 = .ok (.aload_n 1, 1) := by decide +kernel
theorem dM_copy_12 : decode cM_copy 12 = .ok (.iload_n 2, 1) := by decide +kernel
theorem dM_copy_13 : decode cM_copy 13 = .ok (.aload_n 0, 1) := by decide +kernel
theorem dM_copy_14 : decode cM_copy 14 = .ok (.iload_n 2, 1) := by decide +kernel
theorem dM_copy_15 : decode cM_copy 15 = .ok (.iaload, 1) := by decide +kernel
theorem dM_copy_16 : decode cM_copy 16 = .ok (.iastore, 1) := by decide +kernel
theorem dM_copy_17 : decode cM_copy 17 = .ok (.iinc 2 1, 3) := by decide +kernel
theorem dM_copy_20 : decode cM_copy 20 = .ok (.goto (-18), 3) := by decide +kernel
theorem dM_copy_23 : decode cM_copy 23 = .ok (.aload_n 1, 1) := by decide +kernel
theorem dM_copy_24 : decode cM_copy 24 = .ok (.sipush 300, 3) := by decide +kernel
theorem dM_copy_27 : decode cM_copy 27 = .ok (.aload_n 0, 1) := by decide +kernel
theorem dM_copy_28 : decode cM_copy 28 = .ok (.sipush 300, 3) := by decide +kernel
theorem dM_copy_31 : decode cM_copy 31 = .ok (.iaload, 1) := by decide +kernel
theorem dM_copy_32 : decode cM_copy 32 = .ok (.iastore, 1) := by decide +kernel
theorem dM_copy_33 : decode cM_copy 33 = .ok (.aload_n 1, 1) := by decide +kernel
theorem dM_copy_34 : decode cM_copy 34 = .ok (.sipush 301, 3) := by decide +kernel
theorem dM_copy_37 : decode cM_copy 37 = .ok (.aload_n 0, 1) := by decide +kernel
theorem dM_copy_38 : decode cM_copy 38 = .ok (.sipush 301, 3) := by decide +kernel
theorem dM_copy_41 : decode cM_copy 41 = .ok (.iaload, 1) := by decide +kernel
theorem dM_copy_42 : decode cM_copy 42 = .ok (.iastore, 1) := by decide +kernel
theorem dM_copy_43 : decode cM_copy 43 = .ok (.return_, 1) := by decide +kernel
theorem dM_compareSizes_0 : decode cM_compareSizes 0 = .ok (.aload_n 0, 1) := by decide +kernel
theorem dM_compareSizes_1 : decode cM_compareSizes 1 = .ok (.sipush 300, 3) := by decide +kernel
theorem dM_compareSizes_4 : decode cM_compareSizes 4 = .ok (.iaload, 1) := by decide +kernel
theorem dM_compareSizes_5 : decode cM_compareSizes 5 = .ok (.aload_n 1, 1) := by decide +kernel
theorem dM_compareSizes_6 : decode cM_compareSizes 6 = .ok (.sipush 300, 3) := by decide +kernel
theorem dM_compareSizes_9 : decode cM_compareSizes 9 = .ok (.iaload, 1) := by decide +kernel
theorem dM_compareSizes_10 : decode cM_compareSizes 10 = .ok (.if_icmp .eq 22, 3) := by decide +kernel
theorem dM_compareSizes_13 : decode cM_compareSizes 13 = .ok (.aload_n 0, 1) := by decide +kernel
theorem dM_compareSizes_14 : decode cM_compareSizes 14 = .ok (.sipush 300, 3) := by decide +kernel
theorem dM_compareSizes_17 : decode cM_compareSizes 17 = .ok (.iaload, 1) := by decide +kernel
theorem dM_compareSizes_18 : decode cM_compareSizes 18 = .ok (.aload_n 1, 1) := by decide +kernel
theorem dM_compareSizes_19 : decode cM_compareSizes 19 = .ok (.sipush 300, 3) := by decide +kernel
theorem dM_compareSizes_22 : decode cM_compareSizes 22 = .ok (.iaload, 1) := by decide +kernel
theorem dM_compareSizes_23 : decode cM_compareSizes 23 = .ok (.if_icmp .ge 7, 3) := by decide +kernel
theorem dM_compareSizes_26 : decode cM_compareSizes 26 = .ok (.iconst (-1), 1) := by decide +kernel
theorem dM_compareSizes_27 : decode cM_compareSizes 27 = .ok (.goto 4, 3) := by decide +kernel
theorem dM_compareSizes_30 : decode cM_compareSizes 30 = .ok (.iconst 1, 1) := by decide +kernel
theorem dM_compareSizes_31 : decode cM_compareSizes 31 = .ok (.ireturn, 1) := by decide +kernel
theorem dM_compareSizes_32 : decode cM_compareSizes 32 = .ok (.aload_n 0, 1) := by decide +kernel
theorem dM_compareSizes_33 : decode cM_compareSizes 33 = .ok (.sipush 300, 3) := by decide +kernel
theorem dM_compareSizes_36 : decode cM_compareSizes 36 = .ok (.iaload, 1) := by decide +kernel
theorem dM_compareSizes_37 : decode cM_compareSizes 37 = .ok (.iconst 1, 1) := by decide +kernel
theorem dM_compareSizes_38 : decode cM_compareSizes 38 = .ok (.isub, 1) := by decide +kernel
theorem dM_compareSizes_39 : decode cM_compareSizes 39 = .ok (.istore_n 2, 1) := by decide +kernel
theorem dM_compareSizes_40 : decode cM_compareSizes 40 = .ok (.iload_n 2, 1) := by decide +kernel
theorem dM_compareSizes_41 : decode cM_compareSizes 41 = .ok (.ifCond .lt 18, 3) := by decide +kernel
theorem dM_compareSizes_44 : decode cM_compareSizes 44 = .ok (.aload_n 0, 1) := by decide +kernel
theorem dM_compareSizes_45 : decode cM_compareSizes 45 = .ok (.iload_n 2, 1) := by decide +kernel
theorem dM_compareSizes_46 : decode cM_compareSizes 46 = .ok (.iaload, 1) := by decide +kernel
theorem dM_compareSizes_47 : decode cM_compareSizes 47 = .ok (.aload_n 1, 1) := by decide +kernel
theorem dM_compareSizes_48 : decode cM_compareSizes 48 = .ok (.iload_n 2, 1) := by decide +kernel
theorem dM_compareSizes_49 : decode cM_compareSizes 49 = .ok (.iaload, 1) := by decide +kernel
theorem dM_compareSizes_50 : decode cM_compareSizes 50 = .ok (.if_icmp .ne 9, 3) := by decide +kernel
theorem dM_compareSizes_53 : decode cM_compareSizes 53 = .ok (.iinc 2 (-1), 3) := by decide +kernel
theorem dM_compareSizes_56 : decode cM_compareSizes 56 = .ok (.goto (-16), 3) := by decide +kernel
theorem dM_compareSizes_59 : decode cM_compareSizes 59 = .ok (.iload_n 2, 1) := by decide +kernel
theorem dM_compareSizes_60 : decode cM_compareSizes 60 = .ok (.ifCond .ge 7, 3) := by decide +kernel
theorem dM_compareSizes_63 : decode cM_compareSizes 63 = .ok (.iconst 0, 1) := by decide +kernel
theorem dM_compareSizes_64 : decode cM_compareSizes 64 = .ok (.goto 17, 3) := by decide +kernel
theorem dM_compareSizes_67 : decode cM_compareSizes 67 = .ok (.aload_n 0, 1) := by decide +kernel
theorem dM_compareSizes_68 : decode cM_compareSizes 68 = .ok (.iload_n 2, 1) := by decide +kernel
theorem dM_compareSizes_69 : decode cM_compareSizes 69 = .ok (.iaload, 1) := by decide +kernel
theorem dM_compareSizes_70 : decode cM_compareSizes 70 = .ok (.aload_n 1, 1) := by decide +kernel
theorem dM_compareSizes_71 : decode cM_compareSizes 71 = .ok (.iload_n 2, 1) := by decide +kernel
theorem dM_compareSizes_72 : decode cM_compareSizes 72 = .ok (.iaload, 1) := by decide +kernel
theorem dM_compareSizes_73 : decode cM_compareSizes 73 = .ok (.if_icmp .ge 7, 3) := by decide +kernel
theorem dM_compareSizes_76 : decode cM_compareSizes 76 = .ok (.iconst (-1), 1) := by decide +kernel
theorem dM_compareSizes_77 : decode cM_compareSizes 77 = .ok (.goto 4, 3) := by decide +kernel
theorem dM_compareSizes_80 : decode cM_compareSizes 80 = .ok (.iconst 1, 1) := by decide +kernel
theorem dM_compareSizes_81 : decode cM_compareSizes 81 = .ok (.ireturn, 1) := by decide +kernel
theorem dM_compare_0 : decode cM_compare 0 = .ok (.aload_n 0, 1) := by decide +kernel
theorem dM_compare_1 : decode cM_compare 1 = .ok (.sipush 301, 3) := by decide +kernel
theorem dM_compare_4 : decode cM_compare 4 = .ok (.iaload, 1) := by decide +kernel
theorem dM_compare_5 : decode cM_compare 5 = .ok (.aload_n 1, 1) := by decide +kernel
theorem dM_compare_6 : decode cM_compare 6 = .ok (.sipush 301, 3) := by decide +kernel
theorem dM_compare_9 : decode cM_compare 9 = .ok (.iaload, 1) := by decide +kernel
theorem dM_compare_10 : decode cM_compare 10 = .ok (.if_icmp .eq 22, 3) := by decide +kernel
theorem dM_compare_13 : decode cM_compare 13 = .ok (.aload_n 0, 1) := by decide +kernel
theorem dM_compare_14 : decode cM_compare 14 = .ok (.sipush 301, 3) := by decide +kernel
theorem dM_compare_17 : decode cM_compare 17 = .ok (.iaload, 1) := by decide +kernel
theorem dM_compare_18 : decode cM_compare 18 = .ok (.aload_n 1, 1) := by decide +kernel
theorem dM_compare_19 : decode cM_compare 19 = .ok (.sipush 301, 3) := by decide +kernel
theorem dM_compare_22 : decode cM_compare 22 = .ok (.iaload, 1) := by decide +kernel
theorem dM_compare_23 : decode cM_compare 23 = .ok (.if_icmp .ge 7, 3) := by decide +kernel
theorem dM_compare_26 : decode cM_compare 26 = .ok (.iconst (-1), 1) := by decide +kernel
theorem dM_compare_27 : decode cM_compare 27 = .ok (.goto 4, 3) := by decide +kernel
theorem dM_compare_30 : decode cM_compare 30 = .ok (.iconst 1, 1) := by decide +kernel
theorem dM_compare_31 : decode cM_compare 31 = .ok (.ireturn, 1) := by decide +kernel
theorem dM_compare_32 : decode cM_compare 32 = .ok (.aload_n 0, 1) := by decide +kernel
theorem dM_compare_33 : decode cM_compare 33 = .ok (.sipush 301, 3) := by decide +kernel
theorem dM_compare_36 : decode cM_compare 36 = .ok (.iaload, 1) := by decide +kernel
theorem dM_compare_37 : decode cM_compare 37 = .ok (.aload_n 0, 1) := by decide +kernel
theorem dM_compare_38 : decode cM_compare 38 = .ok (.aload_n 1, 1) := by decide +kernel
theorem dM_compare_39 : decode cM_compare 39 = .ok (.invokestatic 150, 3) := by decide +kernel
theorem dM_compare_42 : decode cM_compare 42 = .ok (.imul, 1) := by decide +kernel
theorem dM_compare_43 : decode cM_compare 43 = .ok (.ireturn, 1) := by decide +kernel
theorem dM_addSizes_0 : decode cM_addSizes 0 = .ok (.aload_n 0, 1) := by decide +kernel
theorem dM_addSizes_1 : decode cM_addSizes 1 = .ok (.sipush 300, 3) := by decide +kernel
theorem dM_addSizes_4 : decode cM_addSizes 4 = .ok (.iaload, 1) := by decide +kernel
theorem dM_addSizes_5 : decode cM_addSizes 5 = .ok (.aload_n 1, 1) := by decide +kernel
theorem dM_addSizes_6 : decode cM_addSizes 6 = .ok (.sipush 300, 3) := by decide +kernel
theorem dM_addSizes_9 : decode cM_addSizes 9 = .ok (.iaload, 1) := by decide +kernel
theorem dM_addSizes_10 : decode cM_addSizes 10 = .ok (.if_icmp .le 11, 3) := by decide +kernel
theorem dM_addSizes_13 : decode cM_addSizes 13 = .ok (.aload_n 0, 1) := by decide +kernel
theorem dM_addSizes_14 : decode cM_addSizes 14 = .ok (.sipush 300, 3) := by decide +kernel
theorem dM_addSizes_17 : decode cM_addSizes 17 = .ok (.iaload, 1) := by decide +kernel
theorem dM_addSizes_18 : decode cM_addSizes 18 = .ok (.goto 8, 3) := by decide +kernel
theorem dM_addSizes_21 : decode cM_addSizes 21 = .ok (.aload_n 1, 1) := by decide +kernel
theorem dM_addSizes_22 : decode cM_addSizes 22 = .ok (.sipush 300, 3) := by decide +kernel
theorem dM_addSizes_25 : decode cM_addSizes 25 = .ok (.iaload, 1) := by decide +kernel
theorem dM_addSizes_26 : decode cM_addSizes 26 = .ok (.istore_n 2, 1) := by decide +kernel
theorem dM_addSizes_27 : decode cM_addSizes 27 = .ok (.iconst 0, 1) := by decide +kernel
theorem dM_addSizes_28 : decode cM_addSizes 28 = .ok (.istore_n 3, 1) := by decide +kernel
theorem dM_addSizes_29 : decode cM_addSizes 29 = .ok (.iconst 0, 1) := by decide +kernel
theorem dM_addSizes_30 : decode cM_addSizes 30 = .ok (.istore 4, 2) := by decide +kernel
theorem dM_addSizes_32 : decode cM_addSizes 32 = .ok (.iload 4, 2) := by decide +kernel
theorem dM_addSizes_34 : decode cM_addSizes 34 = .ok (.iload_n 2, 1) := by decide +kernel
theorem dM_addSizes_35 : decode cM_addSizes 35 = .ok (.if_icmp .ge 65, 3) := by decide +kernel
theorem dM_addSizes_38 : decode cM_addSizes 38 = .ok (.iload 4, 2) := by decide +kernel
theorem dM_addSizes_40 : decode cM_addSizes 40 = .ok (.aload_n 0, 1) := by decide +kernel
theorem dM_addSizes_41 : decode cM_addSizes 41 = .ok (.sipush 300, 3) := by decide +kernel
theorem dM_addSizes_44 : decode cM_addSizes 44 = .ok (.iaload, 1) := by decide +kernel
theorem dM_addSizes_45 : decode cM_addSizes 45 = .ok (.if_icmp .ge 10, 3) := by decide +kernel
theorem dM_addSizes_48 : decode cM_addSizes 48 = .ok (.aload_n 0, 1) := by decide +kernel
theorem dM_addSizes_49 : decode cM_addSizes 49 = .ok (.iload 4, 2) := by decide +kernel
theorem dM_addSizes_51 : decode cM_addSizes 51 = .ok (.iaload, 1) := by decide +kernel
theorem dM_addSizes_52 : decode cM_addSizes 52 = .ok (.goto 4, 3) := by decide +kernel
theorem dM_addSizes_55 : decode cM_addSizes 55 = .ok (.iconst 0, 1) := by decide +kernel
theorem dM_addSizes_56 : decode cM_addSizes 56 = .ok (.iload 4, 2) := by decide +kernel
theorem dM_addSizes_58 : decode cM_addSizes 58 = .ok (.aload_n 1, 1) := by decide +kernel
theorem dM_addSizes_59 : decode cM_addSizes 59 = .ok (.sipush 300, 3) := by decide +kernel
theorem dM_addSizes_62 : decode cM_addSizes 62 = .ok (.iaload, 1) := by decide +kernel
theorem dM_addSizes_63 : decode cM_addSizes 63 = .ok (.if_icmp .ge 10, 3) := by decide +kernel
theorem dM_addSizes_66 : decode cM_addSizes 66 = .ok (.aload_n 1, 1) := by decide +kernel
theorem dM_addSizes_67 : decode cM_addSizes 67 = .ok (.iload 4, 2) := by decide +kernel
theorem dM_addSizes_69 : decode cM_addSizes 69 = .ok (.iaload, 1) := by decide +kernel
theorem dM_addSizes_70 : decode cM_addSizes 70 = .ok (.goto 4, 3) := by decide +kernel
theorem dM_addSizes_73 : decode cM_addSizes 73 = .ok (.iconst 0, 1) := by decide +kernel
theorem dM_addSizes_74 : decode cM_addSizes 74 = .ok (.iadd, 1) := by decide +kernel
theorem dM_addSizes_75 : decode cM_addSizes 75 = .ok (.iload_n 3, 1) := by decide +kernel
theorem dM_addSizes_76 : decode cM_addSizes 76 = .ok (.iadd, 1) := by decide +kernel
theorem dM_addSizes_77 : decode cM_addSizes 77 = .ok (.istore 5, 2) := by decide +kernel
theorem dM_addSizes_79 : decode cM_addSizes 79 = .ok (.aload_n 0, 1) := by decide +kernel
theorem dM_addSizes_80 : decode cM_addSizes 80 = .ok (.iload 4, 2) := by decide +kernel
theorem dM_addSizes_82 : decode cM_addSizes 82 = .ok (.iload 5, 2) := by decide +kernel
theorem dM_addSizes_84 : decode cM_addSizes 84 = .ok (.ldc 165, 2) := by decide +kernel
theorem dM_addSizes_86 : decode cM_addSizes 86 = .ok (.iand, 1) := by decide +kernel
theorem dM_addSizes_87 : decode cM_addSizes 87 = .ok (.iastore, 1) := by decide +kernel
theorem dM_addSizes_88 : decode cM_addSizes 88 = .ok (.iload 5, 2) := by decide +kernel
theorem dM_addSizes_90 : decode cM_addSizes 90 = .ok (.bipush 28, 2) := by decide +kernel
theorem dM_addSizes_92 : decode cM_addSizes 92 = .ok (.ishr, 1) := by decide +kernel
theorem dM_addSizes_93 : decode cM_addSizes 93 = .ok (.istore_n 3, 1) := by decide +kernel
theorem dM_addSizes_94 : decode cM_addSizes 94 = .ok (.iinc 4 1, 3) := by decide +kernel
theorem dM_addSizes_97 : decode cM_addSizes 97 = .ok (.goto (-65), 3) := by decide +kernel
theorem dM_addSizes_100 : decode cM_addSizes 100 = .ok (.aload_n 0, 1) := by decide +kernel
theorem dM_addSizes_101 : decode cM_addSizes 101 = .ok (.iload_n 2, 1) := by decide +kernel
theorem dM_addSizes_102 : decode cM_addSizes 102 = .ok (.iload_n 3, 1) := by decide +kernel
theorem dM_addSizes_103 : decode cM_addSizes 103 = .ok (.iastore, 1) := by decide +kernel
theorem dM_addSizes_104 : decode cM_addSizes 104 = .ok (.aload_n 0, 1) := by decide +kernel
theorem dM_addSizes_105 : decode cM_addSizes 105 = .ok (.iload_n 2, 1) := by decide +kernel
theorem dM_addSizes_106 : decode cM_addSizes 106 = .ok (.iconst 1, 1) := by decide +kernel
theorem dM_addSizes_107 : decode cM_addSizes 107 = .ok (.iadd, 1) := by decide +kernel
theorem dM_addSizes_108 : decode cM_addSizes 108 = .ok (.invokestatic 166, 3) := by decide +kernel
theorem dM_addSizes_111 : decode cM_addSizes 111 = .ok (.return_, 1) := by decide +kernel
