theorem dTr_leafOf_0 : decode cTr_leafOf 0 = .ok (.aload_n 0, 1) := by decide +kernel
theorem dTr_leafOf_1 : decode cTr_leafOf 1 = .ok (.getfield 12, 3) := by decide +kernel
theorem dTr_leafOf_4 : decode cTr_leafOf 4 = .ok (.iconst 0, 1) := by decide +kernel
theorem dTr_leafOf_5 : decode cTr_leafOf 5 = .ok (.invokevirtual 18, 3) := by decide +kernel
theorem dTr_leafOf_8 : decode cTr_leafOf 8 = .ok (.checkcast 22, 3) := by decide +kernel
theorem dTr_leafOf_11 : decode cTr_leafOf 11 = .ok (.astore_n 3, 1) := by decide +kernel
theorem dTr_leafOf_12 : decode cTr_leafOf 12 = .ok (.iconst 0, 1) := by decide +kernel
theorem dTr_leafOf_13 : decode cTr_leafOf 13 = .ok (.istore 4, 2) := by decide +kernel
theorem dTr_leafOf_15 : decode cTr_leafOf 15 = .ok (.iload 4, 2) := by decide +kernel
theorem dTr_leafOf_17 : decode cTr_leafOf 17 = .ok (.iconst 4, 1) := by decide +kernel
theorem dTr_leafOf_18 : decode cTr_leafOf 18 = .ok (.if_icmp .ge 61, 3) := by decide +kernel
theorem dTr_leafOf_21 : decode cTr_leafOf 21 = .ok (.aload_n 3, 1) := by decide +kernel
theorem dTr_leafOf_22 : decode cTr_leafOf 22 = .ok (.getfield 64, 3) := by decide +kernel
theorem dTr_leafOf_25 : decode cTr_leafOf 25 = .ok (.iconst (-1), 1) := by decide +kernel
theorem dTr_leafOf_26 : decode cTr_leafOf 26 = .ok (.if_icmp .eq 53, 3) := by decide +kernel
theorem dTr_leafOf_29 : decode cTr_leafOf 29 = .ok (.aload_n 3, 1) := by decide +kernel
theorem dTr_leafOf_30 : decode cTr_leafOf 30 = .ok (.aload_n 1, 1) := by decide +kernel
theorem dTr_leafOf_31 : decode cTr_leafOf 31 = .ok (.aload_n 3, 1) := by decide +kernel
theorem dTr_leafOf_32 : decode cTr_leafOf 32 = .ok (.getfield 64, 3) := by decide +kernel
theorem dTr_leafOf_35 : decode cTr_leafOf 35 = .ok (.aaload, 1) := by decide +kernel
theorem dTr_leafOf_36 : decode cTr_leafOf 36 = .ok (.getfield 93, 3) := by decide +kernel
theorem dTr_leafOf_39 : decode cTr_leafOf 39 = .ok (.iload_n 2, 1) := by decide +kernel
theorem dTr_leafOf_40 : decode cTr_leafOf 40 = .ok (.iaload, 1) := by decide +kernel
theorem dTr_leafOf_41 : decode cTr_leafOf 41 = .ok (.invokevirtual 99, 3) := by decide +kernel
theorem dTr_leafOf_44 : decode cTr_leafOf 44 = .ok (.istore 5, 2) := by decide +kernel
theorem dTr_leafOf_46 : decode cTr_leafOf 46 = .ok (.aload_n 0, 1) := by decide +kernel
theorem dTr_leafOf_47 : decode cTr_leafOf 47 = .ok (.getfield 12, 3) := by decide +kernel
theorem dTr_leafOf_50 : decode cTr_leafOf 50 = .ok (.iload 5, 2) := by decide +kernel
theorem dTr_leafOf_52 : decode cTr_leafOf 52 = .ok (.ifCond .eq 10, 3) := by decide +kernel
theorem dTr_leafOf_55 : decode cTr_leafOf 55 = .ok (.aload_n 3, 1) := by decide +kernel
theorem dTr_leafOf_56 : decode cTr_leafOf 56 = .ok (.getfield 103, 3) := by decide +kernel
theorem dTr_leafOf_59 : decode cTr_leafOf 59 = .ok (.goto 7, 3) := by decide +kernel
theorem dTr_leafOf_62 : decode cTr_leafOf 62 = .ok (.aload_n 3, 1) := by decide +kernel
theorem dTr_leafOf_63 : decode cTr_leafOf 63 = .ok (.getfield 106, 3) := by decide +kernel
theorem dTr_leafOf_66 : decode cTr_leafOf 66 = .ok (.invokevirtual 18, 3) := by decide +kernel
theorem dTr_leafOf_69 : decode cTr_leafOf 69 = .ok (.checkcast 22, 3) := by decide +kernel
theorem dTr_leafOf_72 : decode cTr_leafOf 72 = .ok (.astore_n 3, 1) := by decide +kernel
theorem dTr_leafOf_73 : decode cTr_leafOf 73 = .ok (.iinc 4 1, 3) := by decide +kernel
theorem dTr_leafOf_76 : decode cTr_leafOf 76 = .ok (.goto (-61), 3) := by decide +kernel
theorem dTr_leafOf_79 : decode cTr_leafOf 79 = .ok (.aload_n 3, 1) := by decide +kernel
theorem dTr_leafOf_80 : decode cTr_leafOf 80 = .ok (.areturn, 1) := by decide +kernel
theorem dTr_splitsOf_0 : decode cTr_splitsOf 0 = .ok (.iconst 0, 1) := by decide +kernel
theorem dTr_splitsOf_1 : decode cTr_splitsOf 1 = .ok (.istore_n 2, 1) := by decide +kernel
theorem dTr_splitsOf_2 : decode cTr_splitsOf 2 = .ok (.iconst 0, 1) := by decide +kernel
theorem dTr_splitsOf_3 : decode cTr_splitsOf 3 = .ok (.istore_n 3, 1) := by decide +kernel
theorem dTr_splitsOf_4 : decode cTr_splitsOf 4 = .ok (.iload_n 3, 1) := by decide +kernel
theorem dTr_splitsOf_5 : decode cTr_splitsOf 5 = .ok (.aload_n 0, 1) := by decide +kernel
theorem dTr_splitsOf_6 : decode cTr_splitsOf 6 = .ok (.getfield 24, 3) := by decide +kernel
theorem dTr_splitsOf_9 : decode cTr_splitsOf 9 = .ok (.if_icmp .ge 30, 3) := by decide +kernel
theorem dTr_splitsOf_12 : decode cTr_splitsOf 12 = .ok (.aload_n 0, 1) := by decide +kernel
theorem dTr_splitsOf_13 : decode cTr_splitsOf 13 = .ok (.getfield 12, 3) := by decide +kernel
theorem dTr_splitsOf_16 : decode cTr_splitsOf 16 = .ok (.iload_n 3, 1) := by decide +kernel
theorem dTr_splitsOf_17 : decode cTr_splitsOf 17 = .ok (.invokevirtual 18, 3) := by decide +kernel
theorem dTr_splitsOf_20 : decode cTr_splitsOf 20 = .ok (.checkcast 22, 3) := by decide +kernel
theorem dTr_splitsOf_23 : decode cTr_splitsOf 23 = .ok (.getfield 64, 3) := by decide +kernel
theorem dTr_splitsOf_26 : decode cTr_splitsOf 26 = .ok (.iload_n 1, 1) := by decide +kernel
theorem dTr_splitsOf_27 : decode cTr_splitsOf 27 = .ok (.if_icmp .ne 6, 3) := by decide +kernel
theorem dTr_splitsOf_30 : decode cTr_splitsOf 30 = .ok (.iinc 2 1, 3) := by decide +kernel
theorem dTr_splitsOf_33 : decode cTr_splitsOf 33 = .ok (.iinc 3 1, 3) := by decide +kernel
theorem dTr_splitsOf_36 : decode cTr_splitsOf 36 = .ok (.goto (-32), 3) := by decide +kernel
theorem dTr_splitsOf_39 : decode cTr_splitsOf 39 = .ok (.iload_n 2, 1) := by decide +kernel
theorem dTr_splitsOf_40 : decode cTr_splitsOf 40 = .ok (.ireturn, 1) := by decide +kernel
