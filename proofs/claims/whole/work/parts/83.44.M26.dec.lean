theorem dM_noNode_0 : decode cM_noNode 0 = .ok (.aload_n 0, 1) := by decide +kernel
theorem dM_noNode_1 : decode cM_noNode 1 = .ok (.iload_n 1, 1) := by decide +kernel
theorem dM_noNode_2 : decode cM_noNode 2 = .ok (.invokevirtual 389, 3) := by decide +kernel
theorem dM_noNode_5 : decode cM_noNode 5 = .ok (.ifCond .ne 19, 3) := by decide +kernel
theorem dM_noNode_8 : decode cM_noNode 8 = .ok (.iload_n 2, 1) := by decide +kernel
theorem dM_noNode_9 : decode cM_noNode 9 = .ok (.iconst 0, 1) := by decide +kernel
theorem dM_noNode_10 : decode cM_noNode 10 = .ok (.aload_n 0, 1) := by decide +kernel
theorem dM_noNode_11 : decode cM_noNode 11 = .ok (.getfield 32, 3) := by decide +kernel
theorem dM_noNode_14 : decode cM_noNode 14 = .ok (.iload_n 1, 1) := by decide +kernel
theorem dM_noNode_15 : decode cM_noNode 15 = .ok (.iaload, 1) := by decide +kernel
theorem dM_noNode_16 : decode cM_noNode 16 = .ok (.iconst 1, 1) := by decide +kernel
theorem dM_noNode_17 : decode cM_noNode 17 = .ok (.isub, 1) := by decide +kernel
theorem dM_noNode_18 : decode cM_noNode 18 = .ok (.invokestatic 227, 3) := by decide +kernel
theorem dM_noNode_21 : decode cM_noNode 21 = .ok (.ifCond .ne 7, 3) := by decide +kernel
theorem dM_noNode_24 : decode cM_noNode 24 = .ok (.iconst 1, 1) := by decide +kernel
theorem dM_noNode_25 : decode cM_noNode 25 = .ok (.goto 4, 3) := by decide +kernel
theorem dM_noNode_28 : decode cM_noNode 28 = .ok (.iconst 0, 1) := by decide +kernel
theorem dM_noNode_29 : decode cM_noNode 29 = .ok (.ireturn, 1) := by decide +kernel
