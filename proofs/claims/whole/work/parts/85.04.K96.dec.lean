theorem dR_wholes_0 : decode cR_wholes 0 = .ok (.iload_n 0, 1) := by decide +kernel
theorem dR_wholes_1 : decode cR_wholes 1 = .ok (.anewarray 58, 3) := by decide +kernel
theorem dR_wholes_4 : decode cR_wholes 4 = .ok (.astore_n 1, 1) := by decide +kernel
theorem dR_wholes_5 : decode cR_wholes 5 = .ok (.iconst 0, 1) := by decide +kernel
theorem dR_wholes_6 : decode cR_wholes 6 = .ok (.istore_n 2, 1) := by decide +kernel
theorem dR_wholes_7 : decode cR_wholes 7 = .ok (.iload_n 2, 1) := by decide +kernel
theorem dR_wholes_8 : decode cR_wholes 8 = .ok (.iload_n 0, 1) := by decide +kernel
theorem dR_wholes_9 : decode cR_wholes 9 = .ok (.if_icmp .ge 21, 3) := by decide +kernel
theorem dR_wholes_12 : decode cR_wholes 12 = .ok (.aload_n 1, 1) := by decide +kernel
theorem dR_wholes_13 : decode cR_wholes 13 = .ok (.iload_n 2, 1) := by decide +kernel
theorem dR_wholes_14 : decode cR_wholes 14 = .ok (.new 58, 3) := by decide +kernel
theorem dR_wholes_17 : decode cR_wholes 17 = .ok (.dup, 1) := by decide +kernel
theorem dR_wholes_18 : decode cR_wholes 18 = .ok (.bipush 24, 2) := by decide +kernel
theorem dR_wholes_20 : decode cR_wholes 20 = .ok (.invokespecial 60, 3) := by decide +kernel
theorem dR_wholes_23 : decode cR_wholes 23 = .ok (.aastore, 1) := by decide +kernel
theorem dR_wholes_24 : decode cR_wholes 24 = .ok (.iinc 2 1, 3) := by decide +kernel
theorem dR_wholes_27 : decode cR_wholes 27 = .ok (.goto (-20), 3) := by decide +kernel
theorem dR_wholes_30 : decode cR_wholes 30 = .ok (.aload_n 1, 1) := by decide +kernel
theorem dR_wholes_31 : decode cR_wholes 31 = .ok (.areturn, 1) := by decide +kernel
theorem dT_init_0 : decode cT_init 0 = .ok (.aload_n 0, 1) := by decide +kernel
theorem dT_init_1 : decode cT_init 1 = .ok (.invokespecial 3, 3) := by decide +kernel
theorem dT_init_4 : decode cT_init 4 = .ok (.aload_n 0, 1) := by decide +kernel
theorem dT_init_5 : decode cT_init 5 = .ok (.bipush 6, 2) := by decide +kernel
theorem dT_init_7 : decode cT_init 7 = .ok (.anewarray 9, 3) := by decide +kernel
theorem dT_init_10 : decode cT_init 10 = .ok (.putfield 11, 3) := by decide +kernel
theorem dT_init_13 : decode cT_init 13 = .ok (.aload_n 0, 1) := by decide +kernel
theorem dT_init_14 : decode cT_init 14 = .ok (.bipush 49, 2) := by decide +kernel
theorem dT_init_16 : decode cT_init 16 = .ok (.newarray .int, 2) := by decide +kernel
theorem dT_init_18 : decode cT_init 18 = .ok (.putfield 17, 3) := by decide +kernel
theorem dT_init_21 : decode cT_init 21 = .ok (.iconst 0, 1) := by decide +kernel
theorem dT_init_22 : decode cT_init 22 = .ok (.istore_n 1, 1) := by decide +kernel
theorem dT_init_23 : decode cT_init 23 = .ok (.iload_n 1, 1) := by decide +kernel
theorem dT_init_24 : decode cT_init 24 = .ok (.bipush 6, 2) := by decide +kernel
theorem dT_init_26 : decode cT_init 26 = .ok (.if_icmp .ge 22, 3) := by decide +kernel
theorem dT_init_29 : decode cT_init 29 = .ok (.aload_n 0, 1) := by decide +kernel
theorem dT_init_30 : decode cT_init 30 = .ok (.getfield 11, 3) := by decide +kernel
theorem dT_init_33 : decode cT_init 33 = .ok (.iload_n 1, 1) := by decide +kernel
theorem dT_init_34 : decode cT_init 34 = .ok (.new 9, 3) := by decide +kernel
theorem dT_init_37 : decode cT_init 37 = .ok (.dup, 1) := by decide +kernel
theorem dT_init_38 : decode cT_init 38 = .ok (.invokespecial 21, 3) := by decide +kernel
theorem dT_init_41 : decode cT_init 41 = .ok (.aastore, 1) := by decide +kernel
theorem dT_init_42 : decode cT_init 42 = .ok (.iinc 1 1, 3) := by decide +kernel
theorem dT_init_45 : decode cT_init 45 = .ok (.goto (-22), 3) := by decide +kernel
theorem dT_init_48 : decode cT_init 48 = .ok (.return_, 1) := by decide +kernel
