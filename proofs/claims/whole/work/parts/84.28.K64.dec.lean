theorem dTr_settle_0 : decode cTr_settle 0 = .ok (.aload_n 0, 1) := by decide +kernel
theorem dTr_settle_1 : decode cTr_settle 1 = .ok (.aload_n 1, 1) := by decide +kernel
theorem dTr_settle_2 : decode cTr_settle 2 = .ok (.getfield 46, 3) := by decide +kernel
theorem dTr_settle_5 : decode cTr_settle 5 = .ok (.putfield 51, 3) := by decide +kernel
theorem dTr_settle_8 : decode cTr_settle 8 = .ok (.aload_n 0, 1) := by decide +kernel
theorem dTr_settle_9 : decode cTr_settle 9 = .ok (.aload_n 1, 1) := by decide +kernel
theorem dTr_settle_10 : decode cTr_settle 10 = .ok (.getfield 52, 3) := by decide +kernel
theorem dTr_settle_13 : decode cTr_settle 13 = .ok (.putfield 55, 3) := by decide +kernel
theorem dTr_settle_16 : decode cTr_settle 16 = .ok (.aload_n 0, 1) := by decide +kernel
theorem dTr_settle_17 : decode cTr_settle 17 = .ok (.aload_n 1, 1) := by decide +kernel
theorem dTr_settle_18 : decode cTr_settle 18 = .ok (.getfield 56, 3) := by decide +kernel
theorem dTr_settle_21 : decode cTr_settle 21 = .ok (.putfield 59, 3) := by decide +kernel
theorem dTr_settle_24 : decode cTr_settle 24 = .ok (.aload_n 0, 1) := by decide +kernel
theorem dTr_settle_25 : decode cTr_settle 25 = .ok (.lconst 1, 1) := by decide +kernel
theorem dTr_settle_26 : decode cTr_settle 26 = .ok (.putfield 60, 3) := by decide +kernel
theorem dTr_settle_29 : decode cTr_settle 29 = .ok (.iconst 0, 1) := by decide +kernel
theorem dTr_settle_30 : decode cTr_settle 30 = .ok (.istore_n 2, 1) := by decide +kernel
theorem dTr_settle_31 : decode cTr_settle 31 = .ok (.iload_n 2, 1) := by decide +kernel
theorem dTr_settle_32 : decode cTr_settle 32 = .ok (.aload_n 0, 1) := by decide +kernel
theorem dTr_settle_33 : decode cTr_settle 33 = .ok (.getfield 24, 3) := by decide +kernel
theorem dTr_settle_36 : decode cTr_settle 36 = .ok (.if_icmp .ge 94, 3) := by decide +kernel
theorem dTr_settle_39 : decode cTr_settle 39 = .ok (.aload_n 0, 1) := by decide +kernel
theorem dTr_settle_40 : decode cTr_settle 40 = .ok (.getfield 12, 3) := by decide +kernel
theorem dTr_settle_43 : decode cTr_settle 43 = .ok (.iload_n 2, 1) := by decide +kernel
theorem dTr_settle_44 : decode cTr_settle 44 = .ok (.invokevirtual 18, 3) := by decide +kernel
theorem dTr_settle_47 : decode cTr_settle 47 = .ok (.checkcast 22, 3) := by decide +kernel
theorem dTr_settle_50 : decode cTr_settle 50 = .ok (.astore_n 3, 1) := by decide +kernel
theorem dTr_settle_51 : decode cTr_settle 51 = .ok (.aload_n 3, 1) := by decide +kernel
theorem dTr_settle_52 : decode cTr_settle 52 = .ok (.getfield 64, 3) := by decide +kernel
theorem dTr_settle_55 : decode cTr_settle 55 = .ok (.iconst (-1), 1) := by decide +kernel
theorem dTr_settle_56 : decode cTr_settle 56 = .ok (.if_icmp .ne 68, 3) := by decide +kernel
theorem dTr_settle_59 : decode cTr_settle 59 = .ok (.aload_n 0, 1) := by decide +kernel
theorem dTr_settle_60 : decode cTr_settle 60 = .ok (.getfield 59, 3) := by decide +kernel
theorem dTr_settle_63 : decode cTr_settle 63 = .ok (.aload_n 3, 1) := by decide +kernel
theorem dTr_settle_64 : decode cTr_settle 64 = .ok (.getfield 40, 3) := by decide +kernel
theorem dTr_settle_67 : decode cTr_settle 67 = .ok (.aload_n 0, 1) := by decide +kernel
theorem dTr_settle_68 : decode cTr_settle 68 = .ok (.getfield 51, 3) := by decide +kernel
theorem dTr_settle_71 : decode cTr_settle 71 = .ok (.iadd, 1) := by decide +kernel
theorem dTr_settle_72 : decode cTr_settle 72 = .ok (.imul, 1) := by decide +kernel
theorem dTr_settle_73 : decode cTr_settle 73 = .ok (.istore 4, 2) := by decide +kernel
theorem dTr_settle_75 : decode cTr_settle 75 = .ok (.iload 4, 2) := by decide +kernel
theorem dTr_settle_77 : decode cTr_settle 77 = .ok (.i2l, 1) := by decide +kernel
theorem dTr_settle_78 : decode cTr_settle 78 = .ok (.iload 4, 2) := by decide +kernel
theorem dTr_settle_80 : decode cTr_settle 80 = .ok (.i2l, 1) := by decide +kernel
theorem dTr_settle_81 : decode cTr_settle 81 = .ok (.aload_n 0, 1) := by decide +kernel
theorem dTr_settle_82 : decode cTr_settle 82 = .ok (.getfield 55, 3) := by decide +kernel
theorem dTr_settle_85 : decode cTr_settle 85 = .ok (.i2l, 1) := by decide +kernel
theorem dTr_settle_86 : decode cTr_settle 86 = .ok (.aload_n 3, 1) := by decide +kernel
theorem dTr_settle_87 : decode cTr_settle 87 = .ok (.getfield 67, 3) := by decide +kernel
theorem dTr_settle_90 : decode cTr_settle 90 = .ok (.iload 4, 2) := by decide +kernel
theorem dTr_settle_92 : decode cTr_settle 92 = .ok (.invokevirtual 71, 3) := by decide +kernel
theorem dTr_settle_95 : decode cTr_settle 95 = .ok (.i2l, 1) := by decide +kernel
theorem dTr_settle_96 : decode cTr_settle 96 = .ok (.lmul, 1) := by decide +kernel
theorem dTr_settle_97 : decode cTr_settle 97 = .ok (.invokestatic 77, 3) := by decide +kernel
theorem dTr_settle_100 : decode cTr_settle 100 = .ok (.ldiv, 1) := by decide +kernel
theorem dTr_settle_101 : decode cTr_settle 101 = .ok (.lstore 5, 2) := by decide +kernel
theorem dTr_settle_103 : decode cTr_settle 103 = .ok (.aload_n 0, 1) := by decide +kernel
theorem dTr_settle_104 : decode cTr_settle 104 = .ok (.aload_n 0, 1) := by decide +kernel
theorem dTr_settle_105 : decode cTr_settle 105 = .ok (.getfield 60, 3) := by decide +kernel
theorem dTr_settle_108 : decode cTr_settle 108 = .ok (.aload_n 0, 1) := by decide +kernel
theorem dTr_settle_109 : decode cTr_settle 109 = .ok (.getfield 60, 3) := by decide +kernel
theorem dTr_settle_112 : decode cTr_settle 112 = .ok (.lload 5, 2) := by decide +kernel
theorem dTr_settle_114 : decode cTr_settle 114 = .ok (.invokestatic 77, 3) := by decide +kernel
theorem dTr_settle_117 : decode cTr_settle 117 = .ok (.ldiv, 1) := by decide +kernel
theorem dTr_settle_118 : decode cTr_settle 118 = .ok (.lload 5, 2) := by decide +kernel
theorem dTr_settle_120 : decode cTr_settle 120 = .ok (.lmul, 1) := by decide +kernel
theorem dTr_settle_121 : decode cTr_settle 121 = .ok (.putfield 60, 3) := by decide +kernel
theorem dTr_settle_124 : decode cTr_settle 124 = .ok (.iinc 2 1, 3) := by decide +kernel
theorem dTr_settle_127 : decode cTr_settle 127 = .ok (.goto (-96), 3) := by decide +kernel
theorem dTr_settle_130 : decode cTr_settle 130 = .ok (.return_, 1) := by decide +kernel
