theorem dT_clear_0 : decode cT_clear 0 = .ok (.aload_n 0, 1) := by decide +kernel
theorem dT_clear_1 : decode cT_clear 1 = .ok (.iload_n 1, 1) := by decide +kernel
theorem dT_clear_2 : decode cT_clear 2 = .ok (.putfield 22, 3) := by decide +kernel
theorem dT_clear_5 : decode cT_clear 5 = .ok (.aload_n 0, 1) := by decide +kernel
theorem dT_clear_6 : decode cT_clear 6 = .ok (.iconst 0, 1) := by decide +kernel
theorem dT_clear_7 : decode cT_clear 7 = .ok (.putfield 26, 3) := by decide +kernel
theorem dT_clear_10 : decode cT_clear 10 = .ok (.aload_n 0, 1) := by decide +kernel
theorem dT_clear_11 : decode cT_clear 11 = .ok (.getfield 11, 3) := by decide +kernel
theorem dT_clear_14 : decode cT_clear 14 = .ok (.astore_n 2, 1) := by decide +kernel
theorem dT_clear_15 : decode cT_clear 15 = .ok (.aload_n 2, 1) := by decide +kernel
theorem dT_clear_16 : decode cT_clear 16 = .ok (.arraylength, 1) := by decide +kernel
theorem dT_clear_17 : decode cT_clear 17 = .ok (.istore_n 3, 1) := by decide +kernel
theorem dT_clear_18 : decode cT_clear 18 = .ok (.iconst 0, 1) := by decide +kernel
theorem dT_clear_19 : decode cT_clear 19 = .ok (.istore 4, 2) := by decide +kernel
theorem dT_clear_21 : decode cT_clear 21 = .ok (.iload 4, 2) := by decide +kernel
theorem dT_clear_23 : decode cT_clear 23 = .ok (.iload_n 3, 1) := by decide +kernel
theorem dT_clear_24 : decode cT_clear 24 = .ok (.if_icmp .ge 32, 3) := by decide +kernel
theorem dT_clear_27 : decode cT_clear 27 = .ok (.aload_n 2, 1) := by decide +kernel
theorem dT_clear_28 : decode cT_clear 28 = .ok (.iload 4, 2) := by decide +kernel
theorem dT_clear_30 : decode cT_clear 30 = .ok (.aaload, 1) := by decide +kernel
theorem dT_clear_31 : decode cT_clear 31 = .ok (.astore 5, 2) := by decide +kernel
theorem dT_clear_33 : decode cT_clear 33 = .ok (.aload 5, 2) := by decide +kernel
theorem dT_clear_35 : decode cT_clear 35 = .ok (.iconst 0, 1) := by decide +kernel
theorem dT_clear_36 : decode cT_clear 36 = .ok (.invokevirtual 29, 3) := by decide +kernel
theorem dT_clear_39 : decode cT_clear 39 = .ok (.pop, 1) := by decide +kernel
theorem dT_clear_40 : decode cT_clear 40 = .ok (.aload 5, 2) := by decide +kernel
theorem dT_clear_42 : decode cT_clear 42 = .ok (.getfield 33, 3) := by decide +kernel
theorem dT_clear_45 : decode cT_clear 45 = .ok (.bipush 48, 2) := by decide +kernel
theorem dT_clear_47 : decode cT_clear 47 = .ok (.ldc 36, 2) := by decide +kernel
theorem dT_clear_49 : decode cT_clear 49 = .ok (.iastore, 1) := by decide +kernel
theorem dT_clear_50 : decode cT_clear 50 = .ok (.iinc 4 1, 3) := by decide +kernel
theorem dT_clear_53 : decode cT_clear 53 = .ok (.goto (-32), 3) := by decide +kernel
theorem dT_clear_56 : decode cT_clear 56 = .ok (.return_, 1) := by decide +kernel
theorem dR_startOver_0 : decode cR_startOver 0 = .ok (.aload_n 0, 1) := by decide +kernel
theorem dR_startOver_1 : decode cR_startOver 1 = .ok (.getfield 12, 3) := by decide +kernel
theorem dR_startOver_4 : decode cR_startOver 4 = .ok (.iload_n 1, 1) := by decide +kernel
theorem dR_startOver_5 : decode cR_startOver 5 = .ok (.invokevirtual 325, 3) := by decide +kernel
theorem dR_startOver_8 : decode cR_startOver 8 = .ok (.aload_n 0, 1) := by decide +kernel
theorem dR_startOver_9 : decode cR_startOver 9 = .ok (.getfield 19, 3) := by decide +kernel
theorem dR_startOver_12 : decode cR_startOver 12 = .ok (.invokevirtual 328, 3) := by decide +kernel
theorem dR_startOver_15 : decode cR_startOver 15 = .ok (.aload_n 0, 1) := by decide +kernel
theorem dR_startOver_16 : decode cR_startOver 16 = .ok (.iconst 0, 1) := by decide +kernel
theorem dR_startOver_17 : decode cR_startOver 17 = .ok (.putfield 192, 3) := by decide +kernel
theorem dR_startOver_20 : decode cR_startOver 20 = .ok (.aload_n 0, 1) := by decide +kernel
theorem dR_startOver_21 : decode cR_startOver 21 = .ok (.getfield 50, 3) := by decide +kernel
theorem dR_startOver_24 : decode cR_startOver 24 = .ok (.iconst 0, 1) := by decide +kernel
theorem dR_startOver_25 : decode cR_startOver 25 = .ok (.putfield 253, 3) := by decide +kernel
theorem dR_startOver_28 : decode cR_startOver 28 = .ok (.return_, 1) := by decide +kernel
