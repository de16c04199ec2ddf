theorem dGr_sumUp_0 : decode cGr_sumUp 0 = .ok (.aload_n 3, 1) := by decide +kernel
theorem dGr_sumUp_1 : decode cGr_sumUp 1 = .ok (.iconst 0, 1) := by decide +kernel
theorem dGr_sumUp_2 : decode cGr_sumUp 2 = .ok (.invokevirtual 137, 3) := by decide +kernel
theorem dGr_sumUp_5 : decode cGr_sumUp 5 = .ok (.iconst 0, 1) := by decide +kernel
theorem dGr_sumUp_6 : decode cGr_sumUp 6 = .ok (.istore 4, 2) := by decide +kernel
theorem dGr_sumUp_8 : decode cGr_sumUp 8 = .ok (.iload 4, 2) := by decide +kernel
theorem dGr_sumUp_10 : decode cGr_sumUp 10 = .ok (.aload_n 0, 1) := by decide +kernel
theorem dGr_sumUp_11 : decode cGr_sumUp 11 = .ok (.getfield 57, 3) := by decide +kernel
theorem dGr_sumUp_14 : decode cGr_sumUp 14 = .ok (.getfield 140, 3) := by decide +kernel
theorem dGr_sumUp_17 : decode cGr_sumUp 17 = .ok (.if_icmp .ge 32, 3) := by decide +kernel
theorem dGr_sumUp_20 : decode cGr_sumUp 20 = .ok (.lload_n 1, 1) := by decide +kernel
theorem dGr_sumUp_21 : decode cGr_sumUp 21 = .ok (.iload 4, 2) := by decide +kernel
theorem dGr_sumUp_23 : decode cGr_sumUp 23 = .ok (.lshr, 1) := by decide +kernel
theorem dGr_sumUp_24 : decode cGr_sumUp 24 = .ok (.lconst 1, 1) := by decide +kernel
theorem dGr_sumUp_25 : decode cGr_sumUp 25 = .ok (.land, 1) := by decide +kernel
theorem dGr_sumUp_26 : decode cGr_sumUp 26 = .ok (.lconst 1, 1) := by decide +kernel
theorem dGr_sumUp_27 : decode cGr_sumUp 27 = .ok (.lcmp, 1) := by decide +kernel
theorem dGr_sumUp_28 : decode cGr_sumUp 28 = .ok (.ifCond .ne 15, 3) := by decide +kernel
theorem dGr_sumUp_31 : decode cGr_sumUp 31 = .ok (.aload_n 3, 1) := by decide +kernel
theorem dGr_sumUp_32 : decode cGr_sumUp 32 = .ok (.aload_n 0, 1) := by decide +kernel
theorem dGr_sumUp_33 : decode cGr_sumUp 33 = .ok (.getfield 65, 3) := by decide +kernel
theorem dGr_sumUp_36 : decode cGr_sumUp 36 = .ok (.iload 4, 2) := by decide +kernel
theorem dGr_sumUp_38 : decode cGr_sumUp 38 = .ok (.aaload, 1) := by decide +kernel
theorem dGr_sumUp_39 : decode cGr_sumUp 39 = .ok (.iconst 0, 1) := by decide +kernel
theorem dGr_sumUp_40 : decode cGr_sumUp 40 = .ok (.invokevirtual 145, 3) := by decide +kernel
theorem dGr_sumUp_43 : decode cGr_sumUp 43 = .ok (.iinc 4 1, 3) := by decide +kernel
theorem dGr_sumUp_46 : decode cGr_sumUp 46 = .ok (.goto (-38), 3) := by decide +kernel
theorem dGr_sumUp_49 : decode cGr_sumUp 49 = .ok (.return_, 1) := by decide +kernel
theorem dGr_orderBins_0 : decode cGr_orderBins 0 = .ok (.iconst 0, 1) := by decide +kernel
theorem dGr_orderBins_1 : decode cGr_orderBins 1 = .ok (.istore_n 2, 1) := by decide +kernel
theorem dGr_orderBins_2 : decode cGr_orderBins 2 = .ok (.iload_n 2, 1) := by decide +kernel
theorem dGr_orderBins_3 : decode cGr_orderBins 3 = .ok (.iload_n 1, 1) := by decide +kernel
theorem dGr_orderBins_4 : decode cGr_orderBins 4 = .ok (.if_icmp .ge 16, 3) := by decide +kernel
theorem dGr_orderBins_7 : decode cGr_orderBins 7 = .ok (.aload_n 0, 1) := by decide +kernel
theorem dGr_orderBins_8 : decode cGr_orderBins 8 = .ok (.getfield 17, 3) := by decide +kernel
theorem dGr_orderBins_11 : decode cGr_orderBins 11 = .ok (.iload_n 2, 1) := by decide +kernel
theorem dGr_orderBins_12 : decode cGr_orderBins 12 = .ok (.iload_n 2, 1) := by decide +kernel
theorem dGr_orderBins_13 : decode cGr_orderBins 13 = .ok (.iastore, 1) := by decide +kernel
theorem dGr_orderBins_14 : decode cGr_orderBins 14 = .ok (.iinc 2 1, 3) := by decide +kernel
theorem dGr_orderBins_17 : decode cGr_orderBins 17 = .ok (.goto (-15), 3) := by decide +kernel
theorem dGr_orderBins_20 : decode cGr_orderBins 20 = .ok (.iload_n 1, 1) := by decide +kernel
theorem dGr_orderBins_21 : decode cGr_orderBins 21 = .ok (.ireturn, 1) := by decide +kernel
theorem dGr_gather_0 : decode cGr_gather 0 = .ok (.aload_n 0, 1) := by decide +kernel
theorem dGr_gather_1 : decode cGr_gather 1 = .ok (.getfield 22, 3) := by decide +kernel
theorem dGr_gather_4 : decode cGr_gather 4 = .ok (.invokevirtual 206, 3) := by decide +kernel
theorem dGr_gather_7 : decode cGr_gather 7 = .ok (.aload_n 0, 1) := by decide +kernel
theorem dGr_gather_8 : decode cGr_gather 8 = .ok (.getfield 11, 3) := by decide +kernel
theorem dGr_gather_11 : decode cGr_gather 11 = .ok (.astore 4, 2) := by decide +kernel
theorem dGr_gather_13 : decode cGr_gather 13 = .ok (.aload 4, 2) := by decide +kernel
theorem dGr_gather_15 : decode cGr_gather 15 = .ok (.arraylength, 1) := by decide +kernel
theorem dGr_gather_16 : decode cGr_gather 16 = .ok (.istore 5, 2) := by decide +kernel
theorem dGr_gather_18 : decode cGr_gather 18 = .ok (.iconst 0, 1) := by decide +kernel
theorem dGr_gather_19 : decode cGr_gather 19 = .ok (.istore 6, 2) := by decide +kernel
theorem dGr_gather_21 : decode cGr_gather 21 = .ok (.iload 6, 2) := by decide +kernel
theorem dGr_gather_23 : decode cGr_gather 23 = .ok (.iload 5, 2) := by decide +kernel
theorem dGr_gather_25 : decode cGr_gather 25 = .ok (.if_icmp .ge 21, 3) := by decide +kernel
theorem dGr_gather_28 : decode cGr_gather 28 = .ok (.aload 4, 2) := by decide +kernel
theorem dGr_gather_30 : decode cGr_gather 30 = .ok (.iload 6, 2) := by decide +kernel
theorem dGr_gather_32 : decode cGr_gather 32 = .ok (.aaload, 1) := by decide +kernel
theorem dGr_gather_33 : decode cGr_gather 33 = .ok (.astore 7, 2) := by decide +kernel
theorem dGr_gather_35 : decode cGr_gather 35 = .ok (.aload 7, 2) := by decide +kernel
theorem dGr_gather_37 : decode cGr_gather 37 = .ok (.invokevirtual 206, 3) := by decide +kernel
theorem dGr_gather_40 : decode cGr_gather 40 = .ok (.iinc 6 1, 3) := by decide +kernel
theorem dGr_gather_43 : decode cGr_gather 43 = .ok (.goto (-22), 3) := by decide +kernel
theorem dGr_gather_46 : decode cGr_gather 46 = .ok (.iconst 0, 1) := by decide +kernel
theorem dGr_gather_47 : decode cGr_gather 47 = .ok (.istore 4, 2) := by decide +kernel
theorem dGr_gather_49 : decode cGr_gather 49 = .ok (.iload 4, 2) := by decide +kernel
theorem dGr_gather_51 : decode cGr_gather 51 = .ok (.aload_n 0, 1) := by decide +kernel
theorem dGr_gather_52 : decode cGr_gather 52 = .ok (.getfield 57, 3) := by decide +kernel
theorem dGr_gather_55 : decode cGr_gather 55 = .ok (.getfield 140, 3) := by decide +kernel
theorem dGr_gather_58 : decode cGr_gather 58 = .ok (.if_icmp .ge 72, 3) := by decide +kernel
theorem dGr_gather_61 : decode cGr_gather 61 = .ok (.lload_n 2, 1) := by decide +kernel
theorem dGr_gather_62 : decode cGr_gather 62 = .ok (.iload 4, 2) := by decide +kernel
theorem dGr_gather_64 : decode cGr_gather 64 = .ok (.lshr, 1) := by decide +kernel
theorem dGr_gather_65 : decode cGr_gather 65 = .ok (.lconst 1, 1) := by decide +kernel
theorem dGr_gather_66 : decode cGr_gather 66 = .ok (.land, 1) := by decide +kernel
theorem dGr_gather_67 : decode cGr_gather 67 = .ok (.lconst 1, 1) := by decide +kernel
theorem dGr_gather_68 : decode cGr_gather 68 = .ok (.lcmp, 1) := by decide +kernel
theorem dGr_gather_69 : decode cGr_gather 69 = .ok (.ifCond .ne 55, 3) := by decide +kernel
theorem dGr_gather_72 : decode cGr_gather 72 = .ok (.aload_n 1, 1) := by decide +kernel
theorem dGr_gather_73 : decode cGr_gather 73 = .ok (.getfield 226, 3) := by decide +kernel
theorem dGr_gather_76 : decode cGr_gather 76 = .ok (.iload 4, 2) := by decide +kernel
theorem dGr_gather_78 : decode cGr_gather 78 = .ok (.iaload, 1) := by decide +kernel
theorem dGr_gather_79 : decode cGr_gather 79 = .ok (.istore 5, 2) := by decide +kernel
theorem dGr_gather_81 : decode cGr_gather 81 = .ok (.iload 5, 2) := by decide +kernel
theorem dGr_gather_83 : decode cGr_gather 83 = .ok (.ldc 229, 2) := by decide +kernel
theorem dGr_gather_85 : decode cGr_gather 85 = .ok (.if_icmp .ne 10, 3) := by decide +kernel
theorem dGr_gather_88 : decode cGr_gather 88 = .ok (.aload_n 0, 1) := by decide +kernel
theorem dGr_gather_89 : decode cGr_gather 89 = .ok (.getfield 22, 3) := by decide +kernel
theorem dGr_gather_92 : decode cGr_gather 92 = .ok (.goto 14, 3) := by decide +kernel
theorem dGr_gather_95 : decode cGr_gather 95 = .ok (.aload_n 0, 1) := by decide +kernel
theorem dGr_gather_96 : decode cGr_gather 96 = .ok (.getfield 11, 3) := by decide +kernel
theorem dGr_gather_99 : decode cGr_gather 99 = .ok (.aload_n 1, 1) := by decide +kernel
theorem dGr_gather_100 : decode cGr_gather 100 = .ok (.iload 5, 2) := by decide +kernel
theorem dGr_gather_102 : decode cGr_gather 102 = .ok (.invokevirtual 230, 3) := by decide +kernel
theorem dGr_gather_105 : decode cGr_gather 105 = .ok (.aaload, 1) := by decide +kernel
theorem dGr_gather_106 : decode cGr_gather 106 = .ok (.astore 6, 2) := by decide +kernel
theorem dGr_gather_108 : decode cGr_gather 108 = .ok (.aload 6, 2) := by decide +kernel
theorem dGr_gather_110 : decode cGr_gather 110 = .ok (.lconst 1, 1) := by decide +kernel
theorem dGr_gather_111 : decode cGr_gather 111 = .ok (.iload 4, 2) := by decide +kernel
theorem dGr_gather_113 : decode cGr_gather 113 = .ok (.lshl, 1) := by decide +kernel
theorem dGr_gather_114 : decode cGr_gather 114 = .ok (.aload_n 0, 1) := by decide +kernel
theorem dGr_gather_115 : decode cGr_gather 115 = .ok (.getfield 65, 3) := by decide +kernel
theorem dGr_gather_118 : decode cGr_gather 118 = .ok (.iload 4, 2) := by decide +kernel
theorem dGr_gather_120 : decode cGr_gather 120 = .ok (.aaload, 1) := by decide +kernel
theorem dGr_gather_121 : decode cGr_gather 121 = .ok (.invokevirtual 212, 3) := by decide +kernel
theorem dGr_gather_124 : decode cGr_gather 124 = .ok (.iinc 4 1, 3) := by decide +kernel
theorem dGr_gather_127 : decode cGr_gather 127 = .ok (.goto (-78), 3) := by decide +kernel
theorem dGr_gather_130 : decode cGr_gather 130 = .ok (.return_, 1) := by decide +kernel
