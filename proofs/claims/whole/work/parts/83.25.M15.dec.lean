theorem dM_lookAtSide_0 : decode cM_lookAtSide 0 = .ok (.aload_n 0, 1) := by decide +kernel
theorem dM_lookAtSide_1 : decode cM_lookAtSide 1 = .ok (.lload_n 1, 1) := by decide +kernel
theorem dM_lookAtSide_2 : decode cM_lookAtSide 2 = .ok (.lload 5, 2) := by decide +kernel
theorem dM_lookAtSide_4 : decode cM_lookAtSide 4 = .ok (.lload_n 3, 1) := by decide +kernel
theorem dM_lookAtSide_5 : decode cM_lookAtSide 5 = .ok (.lor, 1) := by decide +kernel
theorem dM_lookAtSide_6 : decode cM_lookAtSide 6 = .ok (.iload 7, 2) := by decide +kernel
theorem dM_lookAtSide_8 : decode cM_lookAtSide 8 = .ok (.iload 8, 2) := by decide +kernel
theorem dM_lookAtSide_10 : decode cM_lookAtSide 10 = .ok (.iconst 1, 1) := by decide +kernel
theorem dM_lookAtSide_11 : decode cM_lookAtSide 11 = .ok (.invokevirtual 382, 3) := by decide +kernel
theorem dM_lookAtSide_14 : decode cM_lookAtSide 14 = .ok (.lload_n 3, 1) := by decide +kernel
theorem dM_lookAtSide_15 : decode cM_lookAtSide 15 = .ok (.lconst 0, 1) := by decide +kernel
theorem dM_lookAtSide_16 : decode cM_lookAtSide 16 = .ok (.lcmp, 1) := by decide +kernel
theorem dM_lookAtSide_17 : decode cM_lookAtSide 17 = .ok (.ifCond .eq 15, 3) := by decide +kernel
theorem dM_lookAtSide_20 : decode cM_lookAtSide 20 = .ok (.aload_n 0, 1) := by decide +kernel
theorem dM_lookAtSide_21 : decode cM_lookAtSide 21 = .ok (.lload_n 1, 1) := by decide +kernel
theorem dM_lookAtSide_22 : decode cM_lookAtSide 22 = .ok (.lload 5, 2) := by decide +kernel
theorem dM_lookAtSide_24 : decode cM_lookAtSide 24 = .ok (.iload 7, 2) := by decide +kernel
theorem dM_lookAtSide_26 : decode cM_lookAtSide 26 = .ok (.iload 8, 2) := by decide +kernel
theorem dM_lookAtSide_28 : decode cM_lookAtSide 28 = .ok (.iconst 0, 1) := by decide +kernel
theorem dM_lookAtSide_29 : decode cM_lookAtSide 29 = .ok (.invokevirtual 382, 3) := by decide +kernel
theorem dM_lookAtSide_32 : decode cM_lookAtSide 32 = .ok (.return_, 1) := by decide +kernel
theorem dM_rowsOf_0 : decode cM_rowsOf 0 = .ok (.lconst 0, 1) := by decide +kernel
theorem dM_rowsOf_1 : decode cM_rowsOf 1 = .ok (.lstore 5, 2) := by decide +kernel
theorem dM_rowsOf_3 : decode cM_rowsOf 3 = .ok (.iconst 0, 1) := by decide +kernel
theorem dM_rowsOf_4 : decode cM_rowsOf 4 = .ok (.istore 7, 2) := by decide +kernel
theorem dM_rowsOf_6 : decode cM_rowsOf 6 = .ok (.iload 7, 2) := by decide +kernel
theorem dM_rowsOf_8 : decode cM_rowsOf 8 = .ok (.aload_n 0, 1) := by decide +kernel
theorem dM_rowsOf_9 : decode cM_rowsOf 9 = .ok (.getfield 193, 3) := by decide +kernel
theorem dM_rowsOf_12 : decode cM_rowsOf 12 = .ok (.if_icmp .ge 40, 3) := by decide +kernel
theorem dM_rowsOf_15 : decode cM_rowsOf 15 = .ok (.aload_n 0, 1) := by decide +kernel
theorem dM_rowsOf_16 : decode cM_rowsOf 16 = .ok (.getfield 16, 3) := by decide +kernel
theorem dM_rowsOf_19 : decode cM_rowsOf 19 = .ok (.bipush 6, 2) := by decide +kernel
theorem dM_rowsOf_21 : decode cM_rowsOf 21 = .ok (.iload 7, 2) := by decide +kernel
theorem dM_rowsOf_23 : decode cM_rowsOf 23 = .ok (.imul, 1) := by decide +kernel
theorem dM_rowsOf_24 : decode cM_rowsOf 24 = .ok (.iload_n 3, 1) := by decide +kernel
theorem dM_rowsOf_25 : decode cM_rowsOf 25 = .ok (.iadd, 1) := by decide +kernel
theorem dM_rowsOf_26 : decode cM_rowsOf 26 = .ok (.iaload, 1) := by decide +kernel
theorem dM_rowsOf_27 : decode cM_rowsOf 27 = .ok (.iload 4, 2) := by decide +kernel
theorem dM_rowsOf_29 : decode cM_rowsOf 29 = .ok (.if_icmp .ne 13, 3) := by decide +kernel
theorem dM_rowsOf_32 : decode cM_rowsOf 32 = .ok (.lload 5, 2) := by decide +kernel
theorem dM_rowsOf_34 : decode cM_rowsOf 34 = .ok (.lconst 1, 1) := by decide +kernel
theorem dM_rowsOf_35 : decode cM_rowsOf 35 = .ok (.iload 7, 2) := by decide +kernel
theorem dM_rowsOf_37 : decode cM_rowsOf 37 = .ok (.lshl, 1) := by decide +kernel
theorem dM_rowsOf_38 : decode cM_rowsOf 38 = .ok (.lor, 1) := by decide +kernel
theorem dM_rowsOf_39 : decode cM_rowsOf 39 = .ok (.goto 5, 3) := by decide +kernel
theorem dM_rowsOf_42 : decode cM_rowsOf 42 = .ok (.lload 5, 2) := by decide +kernel
theorem dM_rowsOf_44 : decode cM_rowsOf 44 = .ok (.lstore 5, 2) := by decide +kernel
theorem dM_rowsOf_46 : decode cM_rowsOf 46 = .ok (.iinc 7 1, 3) := by decide +kernel
theorem dM_rowsOf_49 : decode cM_rowsOf 49 = .ok (.goto (-43), 3) := by decide +kernel
theorem dM_rowsOf_52 : decode cM_rowsOf 52 = .ok (.lload 5, 2) := by decide +kernel
theorem dM_rowsOf_54 : decode cM_rowsOf 54 = .ok (.lload_n 1, 1) := by decide +kernel
theorem dM_rowsOf_55 : decode cM_rowsOf 55 = .ok (.land, 1) := by decide +kernel
theorem dM_rowsOf_56 : decode cM_rowsOf 56 = .ok (.lreturn, 1) := by decide +kernel
theorem dM_isBefore_0 : decode cM_isBefore 0 = .ok (.aload_n 0, 1) := by decide +kernel
theorem dM_isBefore_1 : decode cM_isBefore 1 = .ok (.lload_n 1, 1) := by decide +kernel
theorem dM_isBefore_2 : decode cM_isBefore 2 = .ok (.aload_n 0, 1) := by decide +kernel
theorem dM_isBefore_3 : decode cM_isBefore 3 = .ok (.getfield 78, 3) := by decide +kernel
theorem dM_isBefore_6 : decode cM_isBefore 6 = .ok (.invokevirtual 335, 3) := by decide +kernel
theorem dM_isBefore_9 : decode cM_isBefore 9 = .ok (.aload_n 0, 1) := by decide +kernel
theorem dM_isBefore_10 : decode cM_isBefore 10 = .ok (.lload 4, 2) := by decide +kernel
theorem dM_isBefore_12 : decode cM_isBefore 12 = .ok (.aload_n 0, 1) := by decide +kernel
theorem dM_isBefore_13 : decode cM_isBefore 13 = .ok (.getfield 81, 3) := by decide +kernel
theorem dM_isBefore_16 : decode cM_isBefore 16 = .ok (.invokevirtual 335, 3) := by decide +kernel
theorem dM_isBefore_19 : decode cM_isBefore 19 = .ok (.aload_n 0, 1) := by decide +kernel
theorem dM_isBefore_20 : decode cM_isBefore 20 = .ok (.getfield 78, 3) := by decide +kernel
theorem dM_isBefore_23 : decode cM_isBefore 23 = .ok (.lload 4, 2) := by decide +kernel
theorem dM_isBefore_25 : decode cM_isBefore 25 = .ok (.invokestatic 258, 3) := by decide +kernel
theorem dM_isBefore_28 : decode cM_isBefore 28 = .ok (.aload_n 0, 1) := by decide +kernel
theorem dM_isBefore_29 : decode cM_isBefore 29 = .ok (.getfield 208, 3) := by decide +kernel
theorem dM_isBefore_32 : decode cM_isBefore 32 = .ok (.iadd, 1) := by decide +kernel
theorem dM_isBefore_33 : decode cM_isBefore 33 = .ok (.invokestatic 177, 3) := by decide +kernel
theorem dM_isBefore_36 : decode cM_isBefore 36 = .ok (.aload_n 0, 1) := by decide +kernel
theorem dM_isBefore_37 : decode cM_isBefore 37 = .ok (.getfield 81, 3) := by decide +kernel
theorem dM_isBefore_40 : decode cM_isBefore 40 = .ok (.lload_n 1, 1) := by decide +kernel
theorem dM_isBefore_41 : decode cM_isBefore 41 = .ok (.invokestatic 258, 3) := by decide +kernel
theorem dM_isBefore_44 : decode cM_isBefore 44 = .ok (.aload_n 0, 1) := by decide +kernel
theorem dM_isBefore_45 : decode cM_isBefore 45 = .ok (.getfield 208, 3) := by decide +kernel
theorem dM_isBefore_48 : decode cM_isBefore 48 = .ok (.iadd, 1) := by decide +kernel
theorem dM_isBefore_49 : decode cM_isBefore 49 = .ok (.invokestatic 177, 3) := by decide +kernel
theorem dM_isBefore_52 : decode cM_isBefore 52 = .ok (.aload_n 0, 1) := by decide +kernel
theorem dM_isBefore_53 : decode cM_isBefore 53 = .ok (.getfield 78, 3) := by decide +kernel
theorem dM_isBefore_56 : decode cM_isBefore 56 = .ok (.aload_n 0, 1) := by decide +kernel
theorem dM_isBefore_57 : decode cM_isBefore 57 = .ok (.getfield 81, 3) := by decide +kernel
theorem dM_isBefore_60 : decode cM_isBefore 60 = .ok (.invokestatic 367, 3) := by decide +kernel
theorem dM_isBefore_63 : decode cM_isBefore 63 = .ok (.istore 7, 2) := by decide +kernel
theorem dM_isBefore_65 : decode cM_isBefore 65 = .ok (.iload 7, 2) := by decide +kernel
theorem dM_isBefore_67 : decode cM_isBefore 67 = .ok (.ifCond .lt 14, 3) := by decide +kernel
theorem dM_isBefore_70 : decode cM_isBefore 70 = .ok (.iload 7, 2) := by decide +kernel
theorem dM_isBefore_72 : decode cM_isBefore 72 = .ok (.ifCond .ne 13, 3) := by decide +kernel
theorem dM_isBefore_75 : decode cM_isBefore 75 = .ok (.iload_n 3, 1) := by decide +kernel
theorem dM_isBefore_76 : decode cM_isBefore 76 = .ok (.iload 6, 2) := by decide +kernel
theorem dM_isBefore_78 : decode cM_isBefore 78 = .ok (.if_icmp .ge 7, 3) := by decide +kernel
theorem dM_isBefore_81 : decode cM_isBefore 81 = .ok (.iconst 1, 1) := by decide +kernel
theorem dM_isBefore_82 : decode cM_isBefore 82 = .ok (.goto 4, 3) := by decide +kernel
theorem dM_isBefore_85 : decode cM_isBefore 85 = .ok (.iconst 0, 1) := by decide +kernel
theorem dM_isBefore_86 : decode cM_isBefore 86 = .ok (.ireturn, 1) := by decide +kernel
