theorem dAL_add3_0 : decode cAL_add3 0 = .ok (.iload_n 3, 1) := by decide +kernel
theorem dAL_add3_1 : decode cAL_add3 1 = .ok (.aload_n 2, 1) := by decide +kernel
theorem dAL_add3_2 : decode cAL_add3 2 = .ok (.arraylength, 1) := by decide +kernel
theorem dAL_add3_3 : decode cAL_add3 3 = .ok (.if_icmp .ne 8, 3) := by decide +kernel
theorem dAL_add3_6 : decode cAL_add3 6 = .ok (.aload_n 0, 1) := by decide +kernel
theorem dAL_add3_7 : decode cAL_add3 7 = .ok (.invokevirtual 129, 3) := by decide +kernel
theorem dAL_add3_10 : decode cAL_add3 10 = .ok (.astore_n 2, 1) := by decide +kernel
theorem dAL_add3_11 : decode cAL_add3 11 = .ok (.aload_n 2, 1) := by decide +kernel
theorem dAL_add3_12 : decode cAL_add3 12 = .ok (.iload_n 3, 1) := by decide +kernel
theorem dAL_add3_13 : decode cAL_add3 13 = .ok (.aload_n 1, 1) := by decide +kernel
theorem dAL_add3_14 : decode cAL_add3 14 = .ok (.aastore, 1) := by decide +kernel
theorem dAL_add3_15 : decode cAL_add3 15 = .ok (.aload_n 0, 1) := by decide +kernel
theorem dAL_add3_16 : decode cAL_add3 16 = .ok (.iload_n 3, 1) := by decide +kernel
theorem dAL_add3_17 : decode cAL_add3 17 = .ok (.iconst 1, 1) := by decide +kernel
theorem dAL_add3_18 : decode cAL_add3 18 = .ok (.iadd, 1) := by decide +kernel
theorem dAL_add3_19 : decode cAL_add3 19 = .ok (.putfield 48, 3) := by decide +kernel
theorem dAL_add3_22 : decode cAL_add3 22 = .ok (.return_, 1) := by decide +kernel
theorem dAL_add_0 : decode cAL_add 0 = .ok (.aload_n 0, 1) := by decide +kernel
theorem dAL_add_1 : decode cAL_add 1 = .ok (.dup, 1) := by decide +kernel
theorem dAL_add_2 : decode cAL_add 2 = .ok (.getfield 63, 3) := by decide +kernel
theorem dAL_add_5 : decode cAL_add 5 = .ok (.iconst 1, 1) := by decide +kernel
theorem dAL_add_6 : decode cAL_add 6 = .ok (.iadd, 1) := by decide +kernel
theorem dAL_add_7 : decode cAL_add 7 = .ok (.putfield 63, 3) := by decide +kernel
theorem dAL_add_10 : decode cAL_add 10 = .ok (.aload_n 0, 1) := by decide +kernel
theorem dAL_add_11 : decode cAL_add 11 = .ok (.aload_n 1, 1) := by decide +kernel
theorem dAL_add_12 : decode cAL_add 12 = .ok (.aload_n 0, 1) := by decide +kernel
theorem dAL_add_13 : decode cAL_add 13 = .ok (.getfield 9, 3) := by decide +kernel
theorem dAL_add_16 : decode cAL_add 16 = .ok (.aload_n 0, 1) := by decide +kernel
theorem dAL_add_17 : decode cAL_add 17 = .ok (.getfield 48, 3) := by decide +kernel
theorem dAL_add_20 : decode cAL_add 20 = .ok (.invokevirtual 131, 3) := by decide +kernel
theorem dAL_add_23 : decode cAL_add 23 = .ok (.iconst 1, 1) := by decide +kernel
theorem dAL_add_24 : decode cAL_add 24 = .ok (.ireturn, 1) := by decide +kernel
