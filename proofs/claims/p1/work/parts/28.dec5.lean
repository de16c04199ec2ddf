theorem dR_wholes_0 : decode cR_wholes 0 = .ok (.iload_n 0, 1) := by decide +kernel
theorem dR_wholes_1 : decode cR_wholes 1 = .ok (.anewarray 58, 3) := by decide +kernel
theorem dR_wholes_4 : decode cR_wholes 4 = .ok (.astore_n 1, 1) := by decide +kernel
theorem dR_wholes_5 : decode cR_wholes 5 = .ok (.iconst 0, 1) := by decide +kernel
theorem dR_wholes_6 : decode cR_wholes 6 = .ok (.istore_n 2, 1) := by decide +kernel
theorem dR_wholes_7 : decode cR_wholes 7 = .ok (.iload_n 2, 1) := by decide +kernel
theorem dR_wholes_8 : decode cR_wholes 8 = .ok (.iload_n 0, 1) := by decide +kernel
theorem dR_wholes_9 : decode cR_wholes 9 = .ok (.if_icmp .ge 21, 3) := by decide +kernel
theorem dR_wholes_12 : decode cR_wholes 12 = .ok (.aload_n 1, 1) := by decide +kernel
theorem dR_wholes_13 : decode cR_wholes 13 = .ok (.iload_n 2, 1) := by decide +kernel
theorem dR_wholes_14 : decode cR_wholes 14 = .ok (.new 58, 3) := by decide +kernel
theorem dR_wholes_17 : decode cR_wholes 17 = .ok (.dup, 1) := by decide +kernel
theorem dR_wholes_18 : decode cR_wholes 18 = .ok (.bipush 24, 2) := by decide +kernel
theorem dR_wholes_20 : decode cR_wholes 20 = .ok (.invokespecial 60, 3) := by decide +kernel
theorem dR_wholes_23 : decode cR_wholes 23 = .ok (.aastore, 1) := by decide +kernel
theorem dR_wholes_24 : decode cR_wholes 24 = .ok (.iinc 2 1, 3) := by decide +kernel
theorem dR_wholes_27 : decode cR_wholes 27 = .ok (.goto (-20), 3) := by decide +kernel
theorem dR_wholes_30 : decode cR_wholes 30 = .ok (.aload_n 1, 1) := by decide +kernel
theorem dR_wholes_31 : decode cR_wholes 31 = .ok (.areturn, 1) := by decide +kernel
