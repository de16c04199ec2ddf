theorem dO_append_0 : decode cO_append 0 = .ok (.aload_n 0, 1) := by decide +kernel
theorem dO_append_1 : decode cO_append 1 = .ok (.getfield 32, 3) := by decide +kernel
theorem dO_append_4 : decode cO_append 4 = .ok (.aload_n 0, 1) := by decide +kernel
theorem dO_append_5 : decode cO_append 5 = .ok (.getfield 9, 3) := by decide +kernel
theorem dO_append_8 : decode cO_append 8 = .ok (.arraylength, 1) := by decide +kernel
theorem dO_append_9 : decode cO_append 9 = .ok (.if_icmp .ge 21, 3) := by decide +kernel
theorem dO_append_12 : decode cO_append 12 = .ok (.aload_n 0, 1) := by decide +kernel
theorem dO_append_13 : decode cO_append 13 = .ok (.getfield 9, 3) := by decide +kernel
theorem dO_append_16 : decode cO_append 16 = .ok (.aload_n 0, 1) := by decide +kernel
theorem dO_append_17 : decode cO_append 17 = .ok (.dup, 1) := by decide +kernel
theorem dO_append_18 : decode cO_append 18 = .ok (.getfield 32, 3) := by decide +kernel
theorem dO_append_21 : decode cO_append 21 = .ok (.dup_x1, 1) := by decide +kernel
theorem dO_append_22 : decode cO_append 22 = .ok (.iconst 1, 1) := by decide +kernel
theorem dO_append_23 : decode cO_append 23 = .ok (.iadd, 1) := by decide +kernel
theorem dO_append_24 : decode cO_append 24 = .ok (.putfield 32, 3) := by decide +kernel
theorem dO_append_27 : decode cO_append 27 = .ok (.iload_n 1, 1) := by decide +kernel
theorem dO_append_28 : decode cO_append 28 = .ok (.i2b, 1) := by decide +kernel
theorem dO_append_29 : decode cO_append 29 = .ok (.bastore, 1) := by decide +kernel
theorem dO_append_30 : decode cO_append 30 = .ok (.return_, 1) := by decide +kernel
theorem dO_appendDigits_0 : decode cO_appendDigits 0 = .ok (.aload_n 0, 1) := by decide +kernel
theorem dO_appendDigits_1 : decode cO_appendDigits 1 = .ok (.getfield 32, 3) := by decide +kernel
theorem dO_appendDigits_4 : decode cO_appendDigits 4 = .ok (.istore_n 2, 1) := by decide +kernel
theorem dO_appendDigits_5 : decode cO_appendDigits 5 = .ok (.aload_n 1, 1) := by decide +kernel
theorem dO_appendDigits_6 : decode cO_appendDigits 6 = .ok (.getfield 47, 3) := by decide +kernel
theorem dO_appendDigits_9 : decode cO_appendDigits 9 = .ok (.iconst 1, 1) := by decide +kernel
theorem dO_appendDigits_10 : decode cO_appendDigits 10 = .ok (.isub, 1) := by decide +kernel
theorem dO_appendDigits_11 : decode cO_appendDigits 11 = .ok (.istore_n 3, 1) := by decide +kernel
theorem dO_appendDigits_12 : decode cO_appendDigits 12 = .ok (.iload_n 3, 1) := by decide +kernel
theorem dO_appendDigits_13 : decode cO_appendDigits 13 = .ok (.ifCond .lt 64, 3) := by decide +kernel
theorem dO_appendDigits_16 : decode cO_appendDigits 16 = .ok (.ldc 52, 2) := by decide +kernel
theorem dO_appendDigits_18 : decode cO_appendDigits 18 = .ok (.istore 4, 2) := by decide +kernel
theorem dO_appendDigits_20 : decode cO_appendDigits 20 = .ok (.iload 4, 2) := by decide +kernel
theorem dO_appendDigits_22 : decode cO_appendDigits 22 = .ok (.ifCond .le 49, 3) := by decide +kernel
theorem dO_appendDigits_25 : decode cO_appendDigits 25 = .ok (.aload_n 1, 1) := by decide +kernel
theorem dO_appendDigits_26 : decode cO_appendDigits 26 = .ok (.getfield 48, 3) := by decide +kernel
theorem dO_appendDigits_29 : decode cO_appendDigits 29 = .ok (.iload_n 3, 1) := by decide +kernel
theorem dO_appendDigits_30 : decode cO_appendDigits 30 = .ok (.iaload, 1) := by decide +kernel
theorem dO_appendDigits_31 : decode cO_appendDigits 31 = .ok (.iload 4, 2) := by decide +kernel
theorem dO_appendDigits_33 : decode cO_appendDigits 33 = .ok (.idiv, 1) := by decide +kernel
theorem dO_appendDigits_34 : decode cO_appendDigits 34 = .ok (.bipush 10, 2) := by decide +kernel
theorem dO_appendDigits_36 : decode cO_appendDigits 36 = .ok (.irem, 1) := by decide +kernel
theorem dO_appendDigits_37 : decode cO_appendDigits 37 = .ok (.istore 5, 2) := by decide +kernel
theorem dO_appendDigits_39 : decode cO_appendDigits 39 = .ok (.iload 5, 2) := by decide +kernel
theorem dO_appendDigits_41 : decode cO_appendDigits 41 = .ok (.ifCond .ne 11, 3) := by decide +kernel
theorem dO_appendDigits_44 : decode cO_appendDigits 44 = .ok (.aload_n 0, 1) := by decide +kernel
theorem dO_appendDigits_45 : decode cO_appendDigits 45 = .ok (.getfield 32, 3) := by decide +kernel
theorem dO_appendDigits_48 : decode cO_appendDigits 48 = .ok (.iload_n 2, 1) := by decide +kernel
theorem dO_appendDigits_49 : decode cO_appendDigits 49 = .ok (.if_icmp .le 12, 3) := by decide +kernel
theorem dO_appendDigits_52 : decode cO_appendDigits 52 = .ok (.aload_n 0, 1) := by decide +kernel
theorem dO_appendDigits_53 : decode cO_appendDigits 53 = .ok (.bipush 48, 2) := by decide +kernel
theorem dO_appendDigits_55 : decode cO_appendDigits 55 = .ok (.iload 5, 2) := by decide +kernel
theorem dO_appendDigits_57 : decode cO_appendDigits 57 = .ok (.iadd, 1) := by decide +kernel
theorem dO_appendDigits_58 : decode cO_appendDigits 58 = .ok (.invokevirtual 40, 3) := by decide +kernel
theorem dO_appendDigits_61 : decode cO_appendDigits 61 = .ok (.iload 4, 2) := by decide +kernel
theorem dO_appendDigits_63 : decode cO_appendDigits 63 = .ok (.bipush 10, 2) := by decide +kernel
theorem dO_appendDigits_65 : decode cO_appendDigits 65 = .ok (.idiv, 1) := by decide +kernel
theorem dO_appendDigits_66 : decode cO_appendDigits 66 = .ok (.istore 4, 2) := by decide +kernel
theorem dO_appendDigits_68 : decode cO_appendDigits 68 = .ok (.goto (-48), 3) := by decide +kernel
theorem dO_appendDigits_71 : decode cO_appendDigits 71 = .ok (.iinc 3 (-1), 3) := by decide +kernel
theorem dO_appendDigits_74 : decode cO_appendDigits 74 = .ok (.goto (-62), 3) := by decide +kernel
theorem dO_appendDigits_77 : decode cO_appendDigits 77 = .ok (.aload_n 0, 1) := by decide +kernel
theorem dO_appendDigits_78 : decode cO_appendDigits 78 = .ok (.getfield 32, 3) := by decide +kernel
theorem dO_appendDigits_81 : decode cO_appendDigits 81 = .ok (.iload_n 2, 1) := by decide +kernel
theorem dO_appendDigits_82 : decode cO_appendDigits 82 = .ok (.if_icmp .ne 9, 3) := by decide +kernel
theorem dO_appendDigits_85 : decode cO_appendDigits 85 = .ok (.aload_n 0, 1) := by decide +kernel
theorem dO_appendDigits_86 : decode cO_appendDigits 86 = .ok (.bipush 48, 2) := by decide +kernel
theorem dO_appendDigits_88 : decode cO_appendDigits 88 = .ok (.invokevirtual 40, 3) := by decide +kernel
theorem dO_appendDigits_91 : decode cO_appendDigits 91 = .ok (.return_, 1) := by decide +kernel
theorem dO_write_0 : decode cO_write 0 = .ok (.aload_n 0, 1) := by decide +kernel
theorem dO_write_1 : decode cO_write 1 = .ok (.getfield 20, 3) := by decide +kernel
theorem dO_write_4 : decode cO_write 4 = .ok (.iconst 1, 1) := by decide +kernel
theorem dO_write_5 : decode cO_write 5 = .ok (.aload_n 0, 1) := by decide +kernel
theorem dO_write_6 : decode cO_write 6 = .ok (.getfield 24, 3) := by decide +kernel
theorem dO_write_9 : decode cO_write 9 = .ok (.invokestatic 28, 3) := by decide +kernel
theorem dO_write_12 : decode cO_write 12 = .ok (.aload_n 0, 1) := by decide +kernel
theorem dO_write_13 : decode cO_write 13 = .ok (.iconst 0, 1) := by decide +kernel
theorem dO_write_14 : decode cO_write 14 = .ok (.putfield 32, 3) := by decide +kernel
theorem dO_write_17 : decode cO_write 17 = .ok (.aload_n 0, 1) := by decide +kernel
theorem dO_write_18 : decode cO_write 18 = .ok (.getfield 20, 3) := by decide +kernel
theorem dO_write_21 : decode cO_write 21 = .ok (.iconst 0, 1) := by decide +kernel
theorem dO_write_22 : decode cO_write 22 = .ok (.aaload, 1) := by decide +kernel
theorem dO_write_23 : decode cO_write 23 = .ok (.invokevirtual 36, 3) := by decide +kernel
theorem dO_write_26 : decode cO_write 26 = .ok (.ifCond .ge 9, 3) := by decide +kernel
theorem dO_write_29 : decode cO_write 29 = .ok (.aload_n 0, 1) := by decide +kernel
theorem dO_write_30 : decode cO_write 30 = .ok (.bipush 45, 2) := by decide +kernel
theorem dO_write_32 : decode cO_write 32 = .ok (.invokevirtual 40, 3) := by decide +kernel
theorem dO_write_35 : decode cO_write 35 = .ok (.aload_n 0, 1) := by decide +kernel
theorem dO_write_36 : decode cO_write 36 = .ok (.aload_n 0, 1) := by decide +kernel
theorem dO_write_37 : decode cO_write 37 = .ok (.getfield 20, 3) := by decide +kernel
theorem dO_write_40 : decode cO_write 40 = .ok (.iconst 0, 1) := by decide +kernel
theorem dO_write_41 : decode cO_write 41 = .ok (.aaload, 1) := by decide +kernel
theorem dO_write_42 : decode cO_write 42 = .ok (.invokevirtual 43, 3) := by decide +kernel
theorem dO_write_45 : decode cO_write 45 = .ok (.aload_n 0, 1) := by decide +kernel
theorem dO_write_46 : decode cO_write 46 = .ok (.getfield 24, 3) := by decide +kernel
theorem dO_write_49 : decode cO_write 49 = .ok (.getfield 47, 3) := by decide +kernel
theorem dO_write_52 : decode cO_write 52 = .ok (.iconst 1, 1) := by decide +kernel
theorem dO_write_53 : decode cO_write 53 = .ok (.if_icmp .gt 16, 3) := by decide +kernel
theorem dO_write_56 : decode cO_write 56 = .ok (.aload_n 0, 1) := by decide +kernel
theorem dO_write_57 : decode cO_write 57 = .ok (.getfield 24, 3) := by decide +kernel
theorem dO_write_60 : decode cO_write 60 = .ok (.getfield 48, 3) := by decide +kernel
theorem dO_write_63 : decode cO_write 63 = .ok (.iconst 0, 1) := by decide +kernel
theorem dO_write_64 : decode cO_write 64 = .ok (.iaload, 1) := by decide +kernel
theorem dO_write_65 : decode cO_write 65 = .ok (.iconst 1, 1) := by decide +kernel
theorem dO_write_66 : decode cO_write 66 = .ok (.if_icmp .eq 17, 3) := by decide +kernel
theorem dO_write_69 : decode cO_write 69 = .ok (.aload_n 0, 1) := by decide +kernel
theorem dO_write_70 : decode cO_write 70 = .ok (.bipush 47, 2) := by decide +kernel
theorem dO_write_72 : decode cO_write 72 = .ok (.invokevirtual 40, 3) := by decide +kernel
theorem dO_write_75 : decode cO_write 75 = .ok (.aload_n 0, 1) := by decide +kernel
theorem dO_write_76 : decode cO_write 76 = .ok (.aload_n 0, 1) := by decide +kernel
theorem dO_write_77 : decode cO_write 77 = .ok (.getfield 24, 3) := by decide +kernel
theorem dO_write_80 : decode cO_write 80 = .ok (.invokevirtual 43, 3) := by decide +kernel
theorem dO_write_83 : decode cO_write 83 = .ok (.aload_n 0, 1) := by decide +kernel
theorem dO_write_84 : decode cO_write 84 = .ok (.getfield 32, 3) := by decide +kernel
theorem dO_write_87 : decode cO_write 87 = .ok (.ireturn, 1) := by decide +kernel
theorem dR_setToScales_0 : decode cR_setToScales 0 = .ok (.aload_n 1, 1) := by decide +kernel
theorem dR_setToScales_1 : decode cR_setToScales 1 = .ok (.iconst 1, 1) := by decide +kernel
theorem dR_setToScales_2 : decode cR_setToScales 2 = .ok (.invokevirtual 343, 3) := by decide +kernel
theorem dR_setToScales_5 : decode cR_setToScales 5 = .ok (.iconst 0, 1) := by decide +kernel
theorem dR_setToScales_6 : decode cR_setToScales 6 = .ok (.istore_n 3, 1) := by decide +kernel
theorem dR_setToScales_7 : decode cR_setToScales 7 = .ok (.iload_n 3, 1) := by decide +kernel
theorem dR_setToScales_8 : decode cR_setToScales 8 = .ok (.iload_n 2, 1) := by decide +kernel
theorem dR_setToScales_9 : decode cR_setToScales 9 = .ok (.if_icmp .ge 27, 3) := by decide +kernel
theorem dR_setToScales_12 : decode cR_setToScales 12 = .ok (.aload_n 1, 1) := by decide +kernel
theorem dR_setToScales_13 : decode cR_setToScales 13 = .ok (.aload_n 0, 1) := by decide +kernel
theorem dR_setToScales_14 : decode cR_setToScales 14 = .ok (.getfield 43, 3) := by decide +kernel
theorem dR_setToScales_17 : decode cR_setToScales 17 = .ok (.iload_n 3, 1) := by decide +kernel
theorem dR_setToScales_18 : decode cR_setToScales 18 = .ok (.invokevirtual 219, 3) := by decide +kernel
theorem dR_setToScales_21 : decode cR_setToScales 21 = .ok (.checkcast 207, 3) := by decide +kernel
theorem dR_setToScales_24 : decode cR_setToScales 24 = .ok (.getfield 314, 3) := by decide +kernel
theorem dR_setToScales_27 : decode cR_setToScales 27 = .ok (.invokevirtual 280, 3) := by decide +kernel
theorem dR_setToScales_30 : decode cR_setToScales 30 = .ok (.iinc 3 1, 3) := by decide +kernel
theorem dR_setToScales_33 : decode cR_setToScales 33 = .ok (.goto (-26), 3) := by decide +kernel
theorem dR_setToScales_36 : decode cR_setToScales 36 = .ok (.return_, 1) := by decide +kernel
theorem dR_leave_0 : decode cR_leave 0 = .ok (.aload_n 3, 1) := by decide +kernel
theorem dR_leave_1 : decode cR_leave 1 = .ok (.aload_n 0, 1) := by decide +kernel
theorem dR_leave_2 : decode cR_leave 2 = .ok (.getfield 12, 3) := by decide +kernel
theorem dR_leave_5 : decode cR_leave 5 = .ok (.getfield 124, 3) := by decide +kernel
theorem dR_leave_8 : decode cR_leave 8 = .ok (.iload_n 1, 1) := by decide +kernel
theorem dR_leave_9 : decode cR_leave 9 = .ok (.iaload, 1) := by decide +kernel
theorem dR_leave_10 : decode cR_leave 10 = .ok (.invokevirtual 343, 3) := by decide +kernel
theorem dR_leave_13 : decode cR_leave 13 = .ok (.iconst 0, 1) := by decide +kernel
theorem dR_leave_14 : decode cR_leave 14 = .ok (.istore 4, 2) := by decide +kernel
theorem dR_leave_16 : decode cR_leave 16 = .ok (.iload 4, 2) := by decide +kernel
theorem dR_leave_18 : decode cR_leave 18 = .ok (.iload_n 2, 1) := by decide +kernel
theorem dR_leave_19 : decode cR_leave 19 = .ok (.if_icmp .ge 27, 3) := by decide +kernel
theorem dR_leave_22 : decode cR_leave 22 = .ok (.aload_n 0, 1) := by decide +kernel
theorem dR_leave_23 : decode cR_leave 23 = .ok (.aload_n 0, 1) := by decide +kernel
theorem dR_leave_24 : decode cR_leave 24 = .ok (.getfield 43, 3) := by decide +kernel
theorem dR_leave_27 : decode cR_leave 27 = .ok (.iload 4, 2) := by decide +kernel
theorem dR_leave_29 : decode cR_leave 29 = .ok (.invokevirtual 219, 3) := by decide +kernel
theorem dR_leave_32 : decode cR_leave 32 = .ok (.checkcast 207, 3) := by decide +kernel
theorem dR_leave_35 : decode cR_leave 35 = .ok (.iload_n 1, 1) := by decide +kernel
theorem dR_leave_36 : decode cR_leave 36 = .ok (.aload_n 3, 1) := by decide +kernel
theorem dR_leave_37 : decode cR_leave 37 = .ok (.invokevirtual 310, 3) := by decide +kernel
theorem dR_leave_40 : decode cR_leave 40 = .ok (.iinc 4 1, 3) := by decide +kernel
theorem dR_leave_43 : decode cR_leave 43 = .ok (.goto (-27), 3) := by decide +kernel
theorem dR_leave_46 : decode cR_leave 46 = .ok (.return_, 1) := by decide +kernel
theorem dR_leaveAll_0 : decode cR_leaveAll 0 = .ok (.iconst 0, 1) := by decide +kernel
theorem dR_leaveAll_1 : decode cR_leaveAll 1 = .ok (.istore_n 2, 1) := by decide +kernel
theorem dR_leaveAll_2 : decode cR_leaveAll 2 = .ok (.iload_n 2, 1) := by decide +kernel
theorem dR_leaveAll_3 : decode cR_leaveAll 3 = .ok (.aload_n 0, 1) := by decide +kernel
theorem dR_leaveAll_4 : decode cR_leaveAll 4 = .ok (.getfield 12, 3) := by decide +kernel
theorem dR_leaveAll_7 : decode cR_leaveAll 7 = .ok (.getfield 94, 3) := by decide +kernel
theorem dR_leaveAll_10 : decode cR_leaveAll 10 = .ok (.if_icmp .ge 21, 3) := by decide +kernel
theorem dR_leaveAll_13 : decode cR_leaveAll 13 = .ok (.aload_n 0, 1) := by decide +kernel
theorem dR_leaveAll_14 : decode cR_leaveAll 14 = .ok (.iload_n 2, 1) := by decide +kernel
theorem dR_leaveAll_15 : decode cR_leaveAll 15 = .ok (.iload_n 1, 1) := by decide +kernel
theorem dR_leaveAll_16 : decode cR_leaveAll 16 = .ok (.aload_n 0, 1) := by decide +kernel
theorem dR_leaveAll_17 : decode cR_leaveAll 17 = .ok (.getfield 27, 3) := by decide +kernel
theorem dR_leaveAll_20 : decode cR_leaveAll 20 = .ok (.iload_n 2, 1) := by decide +kernel
theorem dR_leaveAll_21 : decode cR_leaveAll 21 = .ok (.aaload, 1) := by decide +kernel
theorem dR_leaveAll_22 : decode cR_leaveAll 22 = .ok (.invokevirtual 293, 3) := by decide +kernel
theorem dR_leaveAll_25 : decode cR_leaveAll 25 = .ok (.iinc 2 1, 3) := by decide +kernel
theorem dR_leaveAll_28 : decode cR_leaveAll 28 = .ok (.goto (-26), 3) := by decide +kernel
theorem dR_leaveAll_31 : decode cR_leaveAll 31 = .ok (.return_, 1) := by decide +kernel
theorem dR_sumSquares_0 : decode cR_sumSquares 0 = .ok (.aload_n 0, 1) := by decide +kernel
theorem dR_sumSquares_1 : decode cR_sumSquares 1 = .ok (.getfield 73, 3) := by decide +kernel
theorem dR_sumSquares_4 : decode cR_sumSquares 4 = .ok (.iconst 0, 1) := by decide +kernel
theorem dR_sumSquares_5 : decode cR_sumSquares 5 = .ok (.invokevirtual 343, 3) := by decide +kernel
theorem dR_sumSquares_8 : decode cR_sumSquares 8 = .ok (.iconst 0, 1) := by decide +kernel
theorem dR_sumSquares_9 : decode cR_sumSquares 9 = .ok (.istore_n 3, 1) := by decide +kernel
theorem dR_sumSquares_10 : decode cR_sumSquares 10 = .ok (.iload_n 3, 1) := by decide +kernel
theorem dR_sumSquares_11 : decode cR_sumSquares 11 = .ok (.aload_n 0, 1) := by decide +kernel
theorem dR_sumSquares_12 : decode cR_sumSquares 12 = .ok (.getfield 12, 3) := by decide +kernel
theorem dR_sumSquares_15 : decode cR_sumSquares 15 = .ok (.getfield 94, 3) := by decide +kernel
theorem dR_sumSquares_18 : decode cR_sumSquares 18 = .ok (.if_icmp .ge 50, 3) := by decide +kernel
theorem dR_sumSquares_21 : decode cR_sumSquares 21 = .ok (.lload_n 1, 1) := by decide +kernel
theorem dR_sumSquares_22 : decode cR_sumSquares 22 = .ok (.iload_n 3, 1) := by decide +kernel
theorem dR_sumSquares_23 : decode cR_sumSquares 23 = .ok (.lshr, 1) := by decide +kernel
theorem dR_sumSquares_24 : decode cR_sumSquares 24 = .ok (.lconst 1, 1) := by decide +kernel
theorem dR_sumSquares_25 : decode cR_sumSquares 25 = .ok (.land, 1) := by decide +kernel
theorem dR_sumSquares_26 : decode cR_sumSquares 26 = .ok (.lconst 1, 1) := by decide +kernel
theorem dR_sumSquares_27 : decode cR_sumSquares 27 = .ok (.lcmp, 1) := by decide +kernel
theorem dR_sumSquares_28 : decode cR_sumSquares 28 = .ok (.ifCond .ne 34, 3) := by decide +kernel
theorem dR_sumSquares_31 : decode cR_sumSquares 31 = .ok (.aload_n 0, 1) := by decide +kernel
theorem dR_sumSquares_32 : decode cR_sumSquares 32 = .ok (.getfield 70, 3) := by decide +kernel
theorem dR_sumSquares_35 : decode cR_sumSquares 35 = .ok (.aload_n 0, 1) := by decide +kernel
theorem dR_sumSquares_36 : decode cR_sumSquares 36 = .ok (.getfield 27, 3) := by decide +kernel
theorem dR_sumSquares_39 : decode cR_sumSquares 39 = .ok (.iload_n 3, 1) := by decide +kernel
theorem dR_sumSquares_40 : decode cR_sumSquares 40 = .ok (.aaload, 1) := by decide +kernel
theorem dR_sumSquares_41 : decode cR_sumSquares 41 = .ok (.aload_n 0, 1) := by decide +kernel
theorem dR_sumSquares_42 : decode cR_sumSquares 42 = .ok (.getfield 27, 3) := by decide +kernel
theorem dR_sumSquares_45 : decode cR_sumSquares 45 = .ok (.iload_n 3, 1) := by decide +kernel
theorem dR_sumSquares_46 : decode cR_sumSquares 46 = .ok (.aaload, 1) := by decide +kernel
theorem dR_sumSquares_47 : decode cR_sumSquares 47 = .ok (.invokevirtual 306, 3) := by decide +kernel
theorem dR_sumSquares_50 : decode cR_sumSquares 50 = .ok (.aload_n 0, 1) := by decide +kernel
theorem dR_sumSquares_51 : decode cR_sumSquares 51 = .ok (.getfield 73, 3) := by decide +kernel
theorem dR_sumSquares_54 : decode cR_sumSquares 54 = .ok (.aload_n 0, 1) := by decide +kernel
theorem dR_sumSquares_55 : decode cR_sumSquares 55 = .ok (.getfield 70, 3) := by decide +kernel
theorem dR_sumSquares_58 : decode cR_sumSquares 58 = .ok (.iconst 0, 1) := by decide +kernel
theorem dR_sumSquares_59 : decode cR_sumSquares 59 = .ok (.invokevirtual 353, 3) := by decide +kernel
theorem dR_sumSquares_62 : decode cR_sumSquares 62 = .ok (.iinc 3 1, 3) := by decide +kernel
theorem dR_sumSquares_65 : decode cR_sumSquares 65 = .ok (.goto (-55), 3) := by decide +kernel
theorem dR_sumSquares_68 : decode cR_sumSquares 68 = .ok (.return_, 1) := by decide +kernel
theorem dR_commonBits_0 : decode cR_commonBits 0 = .ok (.aload_n 0, 1) := by decide +kernel
theorem dR_commonBits_1 : decode cR_commonBits 1 = .ok (.aload_n 0, 1) := by decide +kernel
theorem dR_commonBits_2 : decode cR_commonBits 2 = .ok (.getfield 192, 3) := by decide +kernel
theorem dR_commonBits_5 : decode cR_commonBits 5 = .ok (.invokevirtual 195, 3) := by decide +kernel
theorem dR_commonBits_8 : decode cR_commonBits 8 = .ok (.aload_n 0, 1) := by decide +kernel
theorem dR_commonBits_9 : decode cR_commonBits 9 = .ok (.aload_n 0, 1) := by decide +kernel
theorem dR_commonBits_10 : decode cR_commonBits 10 = .ok (.getfield 67, 3) := by decide +kernel
theorem dR_commonBits_13 : decode cR_commonBits 13 = .ok (.aload_n 0, 1) := by decide +kernel
theorem dR_commonBits_14 : decode cR_commonBits 14 = .ok (.getfield 192, 3) := by decide +kernel
theorem dR_commonBits_17 : decode cR_commonBits 17 = .ok (.invokevirtual 265, 3) := by decide +kernel
theorem dR_commonBits_20 : decode cR_commonBits 20 = .ok (.aload_n 0, 1) := by decide +kernel
theorem dR_commonBits_21 : decode cR_commonBits 21 = .ok (.getfield 27, 3) := by decide +kernel
theorem dR_commonBits_24 : decode cR_commonBits 24 = .ok (.aload_n 0, 1) := by decide +kernel
theorem dR_commonBits_25 : decode cR_commonBits 25 = .ok (.getfield 12, 3) := by decide +kernel
theorem dR_commonBits_28 : decode cR_commonBits 28 = .ok (.getfield 94, 3) := by decide +kernel
theorem dR_commonBits_31 : decode cR_commonBits 31 = .ok (.aload_n 0, 1) := by decide +kernel
theorem dR_commonBits_32 : decode cR_commonBits 32 = .ok (.getfield 67, 3) := by decide +kernel
theorem dR_commonBits_35 : decode cR_commonBits 35 = .ok (.invokestatic 361, 3) := by decide +kernel
theorem dR_commonBits_38 : decode cR_commonBits 38 = .ok (.aload_n 0, 1) := by decide +kernel
theorem dR_commonBits_39 : decode cR_commonBits 39 = .ok (.getfield 67, 3) := by decide +kernel
theorem dR_commonBits_42 : decode cR_commonBits 42 = .ok (.invokevirtual 365, 3) := by decide +kernel
theorem dR_commonBits_45 : decode cR_commonBits 45 = .ok (.ireturn, 1) := by decide +kernel
