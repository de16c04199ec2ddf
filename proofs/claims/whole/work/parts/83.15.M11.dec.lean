theorem dM_walk_0 : decode cM_walk 0 = .ok (.aload_n 0, 1) := by decide +kernel
theorem dM_walk_1 : decode cM_walk 1 = .ok (.getfield 66, 3) := by decide +kernel
theorem dM_walk_4 : decode cM_walk 4 = .ok (.iload 4, 2) := by decide +kernel
theorem dM_walk_6 : decode cM_walk 6 = .ok (.i2l, 1) := by decide +kernel
theorem dM_walk_7 : decode cM_walk 7 = .ok (.invokestatic 272, 3) := by decide +kernel
theorem dM_walk_10 : decode cM_walk 10 = .ok (.aload_n 0, 1) := by decide +kernel
theorem dM_walk_11 : decode cM_walk 11 = .ok (.getfield 99, 3) := by decide +kernel
theorem dM_walk_14 : decode cM_walk 14 = .ok (.invokestatic 276, 3) := by decide +kernel
theorem dM_walk_17 : decode cM_walk 17 = .ok (.iconst 0, 1) := by decide +kernel
theorem dM_walk_18 : decode cM_walk 18 = .ok (.istore 5, 2) := by decide +kernel
theorem dM_walk_20 : decode cM_walk 20 = .ok (.iload 5, 2) := by decide +kernel
theorem dM_walk_22 : decode cM_walk 22 = .ok (.iload_n 2, 1) := by decide +kernel
theorem dM_walk_23 : decode cM_walk 23 = .ok (.if_icmp .ge 41, 3) := by decide +kernel
theorem dM_walk_26 : decode cM_walk 26 = .ok (.aload_n 0, 1) := by decide +kernel
theorem dM_walk_27 : decode cM_walk 27 = .ok (.aload_n 0, 1) := by decide +kernel
theorem dM_walk_28 : decode cM_walk 28 = .ok (.iload 5, 2) := by decide +kernel
theorem dM_walk_30 : decode cM_walk 30 = .ok (.iload_n 1, 1) := by decide +kernel
theorem dM_walk_31 : decode cM_walk 31 = .ok (.invokevirtual 280, 3) := by decide +kernel
theorem dM_walk_34 : decode cM_walk 34 = .ok (.invokevirtual 283, 3) := by decide +kernel
theorem dM_walk_37 : decode cM_walk 37 = .ok (.aload_n 0, 1) := by decide +kernel
theorem dM_walk_38 : decode cM_walk 38 = .ok (.aload_n 0, 1) := by decide +kernel
theorem dM_walk_39 : decode cM_walk 39 = .ok (.getfield 66, 3) := by decide +kernel
theorem dM_walk_42 : decode cM_walk 42 = .ok (.aload_n 0, 1) := by decide +kernel
theorem dM_walk_43 : decode cM_walk 43 = .ok (.getfield 99, 3) := by decide +kernel
theorem dM_walk_46 : decode cM_walk 46 = .ok (.aload_n 0, 1) := by decide +kernel
theorem dM_walk_47 : decode cM_walk 47 = .ok (.getfield 69, 3) := by decide +kernel
theorem dM_walk_50 : decode cM_walk 50 = .ok (.aload_n 0, 1) := by decide +kernel
theorem dM_walk_51 : decode cM_walk 51 = .ok (.getfield 102, 3) := by decide +kernel
theorem dM_walk_54 : decode cM_walk 54 = .ok (.iload_n 3, 1) := by decide +kernel
theorem dM_walk_55 : decode cM_walk 55 = .ok (.invokevirtual 286, 3) := by decide +kernel
theorem dM_walk_58 : decode cM_walk 58 = .ok (.iinc 5 1, 3) := by decide +kernel
theorem dM_walk_61 : decode cM_walk 61 = .ok (.goto (-41), 3) := by decide +kernel
theorem dM_walk_64 : decode cM_walk 64 = .ok (.return_, 1) := by decide +kernel
