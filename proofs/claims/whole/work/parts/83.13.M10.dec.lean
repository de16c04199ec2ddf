theorem dM_in_0 : decode cM_in 0 = .ok (.iload_n 0, 1) := by decide +kernel
theorem dM_in_1 : decode cM_in 1 = .ok (.iload_n 1, 1) := by decide +kernel
theorem dM_in_2 : decode cM_in 2 = .ok (.if_icmp .lt 12, 3) := by decide +kernel
theorem dM_in_5 : decode cM_in 5 = .ok (.iload_n 0, 1) := by decide +kernel
theorem dM_in_6 : decode cM_in 6 = .ok (.iload_n 2, 1) := by decide +kernel
theorem dM_in_7 : decode cM_in 7 = .ok (.if_icmp .gt 7, 3) := by decide +kernel
theorem dM_in_10 : decode cM_in 10 = .ok (.iconst 1, 1) := by decide +kernel
theorem dM_in_11 : decode cM_in 11 = .ok (.goto 4, 3) := by decide +kernel
theorem dM_in_14 : decode cM_in 14 = .ok (.iconst 0, 1) := by decide +kernel
theorem dM_in_15 : decode cM_in 15 = .ok (.ireturn, 1) := by decide +kernel
theorem dM_goesLeft_0 : decode cM_goesLeft 0 = .ok (.iload_n 2, 1) := by decide +kernel
theorem dM_goesLeft_1 : decode cM_goesLeft 1 = .ok (.ldc 226, 2) := by decide +kernel
theorem dM_goesLeft_3 : decode cM_goesLeft 3 = .ok (.if_icmp .ne 10, 3) := by decide +kernel
theorem dM_goesLeft_6 : decode cM_goesLeft 6 = .ok (.aload_n 0, 1) := by decide +kernel
theorem dM_goesLeft_7 : decode cM_goesLeft 7 = .ok (.getfield 41, 3) := by decide +kernel
theorem dM_goesLeft_10 : decode cM_goesLeft 10 = .ok (.iload_n 1, 1) := by decide +kernel
theorem dM_goesLeft_11 : decode cM_goesLeft 11 = .ok (.baload, 1) := by decide +kernel
theorem dM_goesLeft_12 : decode cM_goesLeft 12 = .ok (.ireturn, 1) := by decide +kernel
theorem dM_goesLeft_13 : decode cM_goesLeft 13 = .ok (.aload_n 0, 1) := by decide +kernel
theorem dM_goesLeft_14 : decode cM_goesLeft 14 = .ok (.getfield 56, 3) := by decide +kernel
theorem dM_goesLeft_17 : decode cM_goesLeft 17 = .ok (.iload_n 1, 1) := by decide +kernel
theorem dM_goesLeft_18 : decode cM_goesLeft 18 = .ok (.baload, 1) := by decide +kernel
theorem dM_goesLeft_19 : decode cM_goesLeft 19 = .ok (.ifCond .eq 35, 3) := by decide +kernel
theorem dM_goesLeft_22 : decode cM_goesLeft 22 = .ok (.iload_n 2, 1) := by decide +kernel
theorem dM_goesLeft_23 : decode cM_goesLeft 23 = .ok (.iconst 0, 1) := by decide +kernel
theorem dM_goesLeft_24 : decode cM_goesLeft 24 = .ok (.bipush 11, 2) := by decide +kernel
theorem dM_goesLeft_26 : decode cM_goesLeft 26 = .ok (.invokestatic 227, 3) := by decide +kernel
theorem dM_goesLeft_29 : decode cM_goesLeft 29 = .ok (.ifCond .eq 21, 3) := by decide +kernel
theorem dM_goesLeft_32 : decode cM_goesLeft 32 = .ok (.aload_n 0, 1) := by decide +kernel
theorem dM_goesLeft_33 : decode cM_goesLeft 33 = .ok (.getfield 38, 3) := by decide +kernel
theorem dM_goesLeft_36 : decode cM_goesLeft 36 = .ok (.iload_n 1, 1) := by decide +kernel
theorem dM_goesLeft_37 : decode cM_goesLeft 37 = .ok (.iaload, 1) := by decide +kernel
theorem dM_goesLeft_38 : decode cM_goesLeft 38 = .ok (.iload_n 2, 1) := by decide +kernel
theorem dM_goesLeft_39 : decode cM_goesLeft 39 = .ok (.ishr, 1) := by decide +kernel
theorem dM_goesLeft_40 : decode cM_goesLeft 40 = .ok (.iconst 1, 1) := by decide +kernel
theorem dM_goesLeft_41 : decode cM_goesLeft 41 = .ok (.iand, 1) := by decide +kernel
theorem dM_goesLeft_42 : decode cM_goesLeft 42 = .ok (.iconst 1, 1) := by decide +kernel
theorem dM_goesLeft_43 : decode cM_goesLeft 43 = .ok (.if_icmp .ne 7, 3) := by decide +kernel
theorem dM_goesLeft_46 : decode cM_goesLeft 46 = .ok (.iconst 1, 1) := by decide +kernel
theorem dM_goesLeft_47 : decode cM_goesLeft 47 = .ok (.goto 22, 3) := by decide +kernel
theorem dM_goesLeft_50 : decode cM_goesLeft 50 = .ok (.iconst 0, 1) := by decide +kernel
theorem dM_goesLeft_51 : decode cM_goesLeft 51 = .ok (.goto 18, 3) := by decide +kernel
theorem dM_goesLeft_54 : decode cM_goesLeft 54 = .ok (.iload_n 2, 1) := by decide +kernel
theorem dM_goesLeft_55 : decode cM_goesLeft 55 = .ok (.aload_n 0, 1) := by decide +kernel
theorem dM_goesLeft_56 : decode cM_goesLeft 56 = .ok (.getfield 38, 3) := by decide +kernel
theorem dM_goesLeft_59 : decode cM_goesLeft 59 = .ok (.iload_n 1, 1) := by decide +kernel
theorem dM_goesLeft_60 : decode cM_goesLeft 60 = .ok (.iaload, 1) := by decide +kernel
theorem dM_goesLeft_61 : decode cM_goesLeft 61 = .ok (.if_icmp .ge 7, 3) := by decide +kernel
theorem dM_goesLeft_64 : decode cM_goesLeft 64 = .ok (.iconst 1, 1) := by decide +kernel
theorem dM_goesLeft_65 : decode cM_goesLeft 65 = .ok (.goto 4, 3) := by decide +kernel
theorem dM_goesLeft_68 : decode cM_goesLeft 68 = .ok (.iconst 0, 1) := by decide +kernel
theorem dM_goesLeft_69 : decode cM_goesLeft 69 = .ok (.ireturn, 1) := by decide +kernel
theorem dM_leafOf_0 : decode cM_leafOf 0 = .ok (.bipush 31, 2) := by decide +kernel
theorem dM_leafOf_2 : decode cM_leafOf 2 = .ok (.iload_n 1, 1) := by decide +kernel
theorem dM_leafOf_3 : decode cM_leafOf 3 = .ok (.imul, 1) := by decide +kernel
theorem dM_leafOf_4 : decode cM_leafOf 4 = .ok (.istore_n 3, 1) := by decide +kernel
theorem dM_leafOf_5 : decode cM_leafOf 5 = .ok (.aload_n 0, 1) := by decide +kernel
theorem dM_leafOf_6 : decode cM_leafOf 6 = .ok (.getfield 35, 3) := by decide +kernel
theorem dM_leafOf_9 : decode cM_leafOf 9 = .ok (.iload_n 3, 1) := by decide +kernel
theorem dM_leafOf_10 : decode cM_leafOf 10 = .ok (.iaload, 1) := by decide +kernel
theorem dM_leafOf_11 : decode cM_leafOf 11 = .ok (.ifCond .lt 73, 3) := by decide +kernel
theorem dM_leafOf_14 : decode cM_leafOf 14 = .ok (.iload_n 2, 1) := by decide +kernel
theorem dM_leafOf_15 : decode cM_leafOf 15 = .ok (.ifCond .ge 17, 3) := by decide +kernel
theorem dM_leafOf_18 : decode cM_leafOf 18 = .ok (.aload_n 0, 1) := by decide +kernel
theorem dM_leafOf_19 : decode cM_leafOf 19 = .ok (.getfield 29, 3) := by decide +kernel
theorem dM_leafOf_22 : decode cM_leafOf 22 = .ok (.aload_n 0, 1) := by decide +kernel
theorem dM_leafOf_23 : decode cM_leafOf 23 = .ok (.getfield 35, 3) := by decide +kernel
theorem dM_leafOf_26 : decode cM_leafOf 26 = .ok (.iload_n 3, 1) := by decide +kernel
theorem dM_leafOf_27 : decode cM_leafOf 27 = .ok (.iaload, 1) := by decide +kernel
theorem dM_leafOf_28 : decode cM_leafOf 28 = .ok (.iaload, 1) := by decide +kernel
theorem dM_leafOf_29 : decode cM_leafOf 29 = .ok (.goto 19, 3) := by decide +kernel
theorem dM_leafOf_32 : decode cM_leafOf 32 = .ok (.aload_n 0, 1) := by decide +kernel
theorem dM_leafOf_33 : decode cM_leafOf 33 = .ok (.getfield 16, 3) := by decide +kernel
theorem dM_leafOf_36 : decode cM_leafOf 36 = .ok (.bipush 6, 2) := by decide +kernel
theorem dM_leafOf_38 : decode cM_leafOf 38 = .ok (.iload_n 2, 1) := by decide +kernel
theorem dM_leafOf_39 : decode cM_leafOf 39 = .ok (.imul, 1) := by decide +kernel
theorem dM_leafOf_40 : decode cM_leafOf 40 = .ok (.aload_n 0, 1) := by decide +kernel
theorem dM_leafOf_41 : decode cM_leafOf 41 = .ok (.getfield 35, 3) := by decide +kernel
theorem dM_leafOf_44 : decode cM_leafOf 44 = .ok (.iload_n 3, 1) := by decide +kernel
theorem dM_leafOf_45 : decode cM_leafOf 45 = .ok (.iaload, 1) := by decide +kernel
theorem dM_leafOf_46 : decode cM_leafOf 46 = .ok (.iadd, 1) := by decide +kernel
theorem dM_leafOf_47 : decode cM_leafOf 47 = .ok (.iaload, 1) := by decide +kernel
theorem dM_leafOf_48 : decode cM_leafOf 48 = .ok (.istore 4, 2) := by decide +kernel
theorem dM_leafOf_50 : decode cM_leafOf 50 = .ok (.bipush 31, 2) := by decide +kernel
theorem dM_leafOf_52 : decode cM_leafOf 52 = .ok (.iload_n 1, 1) := by decide +kernel
theorem dM_leafOf_53 : decode cM_leafOf 53 = .ok (.imul, 1) := by decide +kernel
theorem dM_leafOf_54 : decode cM_leafOf 54 = .ok (.aload_n 0, 1) := by decide +kernel
theorem dM_leafOf_55 : decode cM_leafOf 55 = .ok (.iload_n 3, 1) := by decide +kernel
theorem dM_leafOf_56 : decode cM_leafOf 56 = .ok (.iload 4, 2) := by decide +kernel
theorem dM_leafOf_58 : decode cM_leafOf 58 = .ok (.invokevirtual 262, 3) := by decide +kernel
theorem dM_leafOf_61 : decode cM_leafOf 61 = .ok (.ifCond .eq 12, 3) := by decide +kernel
theorem dM_leafOf_64 : decode cM_leafOf 64 = .ok (.aload_n 0, 1) := by decide +kernel
theorem dM_leafOf_65 : decode cM_leafOf 65 = .ok (.getfield 44, 3) := by decide +kernel
theorem dM_leafOf_68 : decode cM_leafOf 68 = .ok (.iload_n 3, 1) := by decide +kernel
theorem dM_leafOf_69 : decode cM_leafOf 69 = .ok (.iaload, 1) := by decide +kernel
theorem dM_leafOf_70 : decode cM_leafOf 70 = .ok (.goto 9, 3) := by decide +kernel
theorem dM_leafOf_73 : decode cM_leafOf 73 = .ok (.aload_n 0, 1) := by decide +kernel
theorem dM_leafOf_74 : decode cM_leafOf 74 = .ok (.getfield 47, 3) := by decide +kernel
theorem dM_leafOf_77 : decode cM_leafOf 77 = .ok (.iload_n 3, 1) := by decide +kernel
theorem dM_leafOf_78 : decode cM_leafOf 78 = .ok (.iaload, 1) := by decide +kernel
theorem dM_leafOf_79 : decode cM_leafOf 79 = .ok (.iadd, 1) := by decide +kernel
theorem dM_leafOf_80 : decode cM_leafOf 80 = .ok (.istore_n 3, 1) := by decide +kernel
theorem dM_leafOf_81 : decode cM_leafOf 81 = .ok (.goto (-76), 3) := by decide +kernel
theorem dM_leafOf_84 : decode cM_leafOf 84 = .ok (.iload_n 3, 1) := by decide +kernel
theorem dM_leafOf_85 : decode cM_leafOf 85 = .ok (.ireturn, 1) := by decide +kernel
theorem dM_take_0 : decode cM_take 0 = .ok (.aload_n 0, 1) := by decide +kernel
theorem dM_take_1 : decode cM_take 1 = .ok (.getfield 60, 3) := by decide +kernel
theorem dM_take_4 : decode cM_take 4 = .ok (.sipush 132, 3) := by decide +kernel
theorem dM_take_7 : decode cM_take 7 = .ok (.iload_n 1, 1) := by decide +kernel
theorem dM_take_8 : decode cM_take 8 = .ok (.imul, 1) := by decide +kernel
theorem dM_take_9 : decode cM_take 9 = .ok (.aload_n 0, 1) := by decide +kernel
theorem dM_take_10 : decode cM_take 10 = .ok (.getfield 69, 3) := by decide +kernel
theorem dM_take_13 : decode cM_take 13 = .ok (.invokestatic 265, 3) := by decide +kernel
theorem dM_take_16 : decode cM_take 16 = .ok (.aload_n 0, 1) := by decide +kernel
theorem dM_take_17 : decode cM_take 17 = .ok (.getfield 63, 3) := by decide +kernel
theorem dM_take_20 : decode cM_take 20 = .ok (.bipush 19, 2) := by decide +kernel
theorem dM_take_22 : decode cM_take 22 = .ok (.iload_n 1, 1) := by decide +kernel
theorem dM_take_23 : decode cM_take 23 = .ok (.imul, 1) := by decide +kernel
theorem dM_take_24 : decode cM_take 24 = .ok (.aload_n 0, 1) := by decide +kernel
theorem dM_take_25 : decode cM_take 25 = .ok (.getfield 102, 3) := by decide +kernel
theorem dM_take_28 : decode cM_take 28 = .ok (.invokestatic 269, 3) := by decide +kernel
theorem dM_take_31 : decode cM_take 31 = .ok (.return_, 1) := by decide +kernel
