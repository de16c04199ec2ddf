theorem dO_write_0 : decode cO_write 0 = .ok (.aload_n 0, 1) := by decide +kernel
theorem dO_write_1 : decode cO_write 1 = .ok (.getfield 20, 3) := by decide +kernel
theorem dO_write_4 : decode cO_write 4 = .ok (.iconst 1, 1) := by decide +kernel
theorem dO_write_5 : decode cO_write 5 = .ok (.aload_n 0, 1) := by decide +kernel
theorem dO_write_6 : decode cO_write 6 = .ok (.getfield 24, 3) := by decide +kernel
theorem dO_write_9 : decode cO_write 9 = .ok (.invokestatic 28, 3) := by decide +kernel
theorem dO_write_12 : decode cO_write 12 = .ok (.aload_n 0, 1) := by decide +kernel
theorem dO_write_13 : decode cO_write 13 = .ok (.iconst 0, 1) := by decide +kernel
theorem dO_write_14 : decode cO_write 14 = .ok (.putfield 32, 3) := by decide +kernel
theorem dO_write_17 : decode cO_write 17 = .ok (.aload_n 0, 1) := by decide +kernel
theorem dO_write_18 : decode cO_write 18 = .ok (.getfield 20, 3) := by decide +kernel
theorem dO_write_21 : decode cO_write 21 = .ok (.iconst 0, 1) := by decide +kernel
theorem dO_write_22 : decode cO_write 22 = .ok (.aaload, 1) := by decide +kernel
theorem dO_write_23 : decode cO_write 23 = .ok (.invokevirtual 36, 3) := by decide +kernel
theorem dO_write_26 : decode cO_write 26 = .ok (.ifCond .ge 9, 3) := by decide +kernel
theorem dO_write_29 : decode cO_write 29 = .ok (.aload_n 0, 1) := by decide +kernel
theorem dO_write_30 : decode cO_write 30 = .ok (.bipush 45, 2) := by decide +kernel
theorem dO_write_32 : decode cO_write 32 = .ok (.invokevirtual 40, 3) := by decide +kernel
theorem dO_write_35 : decode cO_write 35 = .ok (.aload_n 0, 1) := by decide +kernel
theorem dO_write_36 : decode cO_write 36 = .ok (.aload_n 0, 1) := by decide +kernel
theorem dO_write_37 : decode cO_write 37 = .ok (.getfield 20, 3) := by decide +kernel
theorem dO_write_40 : decode cO_write 40 = .ok (.iconst 0, 1) := by decide +kernel
theorem dO_write_41 : decode cO_write 41 = .ok (.aaload, 1) := by decide +kernel
theorem dO_write_42 : decode cO_write 42 = .ok (.invokevirtual 43, 3) := by decide +kernel
theorem dO_write_45 : decode cO_write 45 = .ok (.aload_n 0, 1) := by decide +kernel
theorem dO_write_46 : decode cO_write 46 = .ok (.getfield 24, 3) := by decide +kernel
theorem dO_write_49 : decode cO_write 49 = .ok (.getfield 47, 3) := by decide +kernel
theorem dO_write_52 : decode cO_write 52 = .ok (.iconst 1, 1) := by decide +kernel
theorem dO_write_53 : decode cO_write 53 = .ok (.if_icmp .gt 16, 3) := by decide +kernel
theorem dO_write_56 : decode cO_write 56 = .ok (.aload_n 0, 1) := by decide +kernel
theorem dO_write_57 : decode cO_write 57 = .ok (.getfield 24, 3) := by decide +kernel
theorem dO_write_60 : decode cO_write 60 = .ok (.getfield 48, 3) := by decide +kernel
theorem dO_write_63 : decode cO_write 63 = .ok (.iconst 0, 1) := by decide +kernel
theorem dO_write_64 : decode cO_write 64 = .ok (.iaload, 1) := by decide +kernel
theorem dO_write_65 : decode cO_write 65 = .ok (.iconst 1, 1) := by decide +kernel
theorem dO_write_66 : decode cO_write 66 = .ok (.if_icmp .eq 17, 3) := by decide +kernel
theorem dO_write_69 : decode cO_write 69 = .ok (.aload_n 0, 1) := by decide +kernel
theorem dO_write_70 : decode cO_write 70 = .ok (.bipush 47, 2) := by decide +kernel
theorem dO_write_72 : decode cO_write 72 = .ok (.invokevirtual 40, 3) := by decide +kernel
theorem dO_write_75 : decode cO_write 75 = .ok (.aload_n 0, 1) := by decide +kernel
theorem dO_write_76 : decode cO_write 76 = .ok (.aload_n 0, 1) := by decide +kernel
theorem dO_write_77 : decode cO_write 77 = .ok (.getfield 24, 3) := by decide +kernel
theorem dO_write_80 : decode cO_write 80 = .ok (.invokevirtual 43, 3) := by decide +kernel
theorem dO_write_83 : decode cO_write 83 = .ok (.aload_n 0, 1) := by decide +kernel
theorem dO_write_84 : decode cO_write 84 = .ok (.getfield 32, 3) := by decide +kernel
theorem dO_write_87 : decode cO_write 87 = .ok (.ireturn, 1) := by decide +kernel
