theorem dR_sumSquares_0 : decode cR_sumSquares 0 = .ok (.aload_n 0, 1) := by decide +kernel
theorem dR_sumSquares_1 : decode cR_sumSquares 1 = .ok (.getfield 73, 3) := by decide +kernel
theorem dR_sumSquares_4 : decode cR_sumSquares 4 = .ok (.iconst 0, 1) := by decide +kernel
theorem dR_sumSquares_5 : decode cR_sumSquares 5 = .ok (.invokevirtual 343, 3) := by decide +kernel
theorem dR_sumSquares_8 : decode cR_sumSquares 8 = .ok (.iconst 0, 1) := by decide +kernel
theorem dR_sumSquares_9 : decode cR_sumSquares 9 = .ok (.istore_n 3, 1) := by decide +kernel
theorem dR_sumSquares_10 : decode cR_sumSquares 10 = .ok (.iload_n 3, 1) := by decide +kernel
theorem dR_sumSquares_11 : decode cR_sumSquares 11 = .ok (.aload_n 0, 1) := by decide +kernel
theorem dR_sumSquares_12 : decode cR_sumSquares 12 = .ok (.getfield 12, 3) := by decide +kernel
theorem dR_sumSquares_15 : decode cR_sumSquares 15 = .ok (.getfield 94, 3) := by decide +kernel
theorem dR_sumSquares_18 : decode cR_sumSquares 18 = .ok (.if_icmp .ge 50, 3) := by decide +kernel
theorem dR_sumSquares_21 : decode cR_sumSquares 21 = .ok (.lload_n 1, 1) := by decide +kernel
theorem dR_sumSquares_22 : decode cR_sumSquares 22 = .ok (.iload_n 3, 1) := by decide +kernel
theorem dR_sumSquares_23 : decode cR_sumSquares 23 = .ok (.lshr, 1) := by decide +kernel
theorem dR_sumSquares_24 : decode cR_sumSquares 24 = .ok (.lconst 1, 1) := by decide +kernel
theorem dR_sumSquares_25 : decode cR_sumSquares 25 = .ok (.land, 1) := by decide +kernel
theorem dR_sumSquares_26 : decode cR_sumSquares 26 = .ok (.lconst 1, 1) := by decide +kernel
theorem dR_sumSquares_27 : decode cR_sumSquares 27 = .ok (.lcmp, 1) := by decide +kernel
theorem dR_sumSquares_28 : decode cR_sumSquares 28 = .ok (.ifCond .ne 34, 3) := by decide +kernel
theorem dR_sumSquares_31 : decode cR_sumSquares 31 = .ok (.aload_n 0, 1) := by decide +kernel
theorem dR_sumSquares_32 : decode cR_sumSquares 32 = .ok (.getfield 70, 3) := by decide +kernel
theorem dR_sumSquares_35 : decode cR_sumSquares 35 = .ok (.aload_n 0, 1) := by decide +kernel
theorem dR_sumSquares_36 : decode cR_sumSquares 36 = .ok (.getfield 27, 3) := by decide +kernel
theorem dR_sumSquares_39 : decode cR_sumSquares 39 = .ok (.iload_n 3, 1) := by decide +kernel
theorem dR_sumSquares_40 : decode cR_sumSquares 40 = .ok (.aaload, 1) := by decide +kernel
theorem dR_sumSquares_41 : decode cR_sumSquares 41 = .ok (.aload_n 0, 1) := by decide +kernel
theorem dR_sumSquares_42 : decode cR_sumSquares 42 = .ok (.getfield 27, 3) := by decide +kernel
theorem dR_sumSquares_45 : decode cR_sumSquares 45 = .ok (.iload_n 3, 1) := by decide +kernel
theorem dR_sumSquares_46 : decode cR_sumSquares 46 = .ok (.aaload, 1) := by decide +kernel
theorem dR_sumSquares_47 : decode cR_sumSquares 47 = .ok (.invokevirtual 306, 3) := by decide +kernel
theorem dR_sumSquares_50 : decode cR_sumSquares 50 = .ok (.aload_n 0, 1) := by decide +kernel
theorem dR_sumSquares_51 : decode cR_sumSquares 51 = .ok (.getfield 73, 3) := by decide +kernel
theorem dR_sumSquares_54 : decode cR_sumSquares 54 = .ok (.aload_n 0, 1) := by decide +kernel
theorem dR_sumSquares_55 : decode cR_sumSquares 55 = .ok (.getfield 70, 3) := by decide +kernel
theorem dR_sumSquares_58 : decode cR_sumSquares 58 = .ok (.iconst 0, 1) := by decide +kernel
theorem dR_sumSquares_59 : decode cR_sumSquares 59 = .ok (.invokevirtual 353, 3) := by decide +kernel
theorem dR_sumSquares_62 : decode cR_sumSquares 62 = .ok (.iinc 3 1, 3) := by decide +kernel
theorem dR_sumSquares_65 : decode cR_sumSquares 65 = .ok (.goto (-55), 3) := by decide +kernel
theorem dR_sumSquares_68 : decode cR_sumSquares 68 = .ok (.return_, 1) := by decide +kernel
