theorem dM_split_0 : decode cM_split 0 = .ok (.aload_n 0, 1) := by decide +kernel
theorem dM_split_1 : decode cM_split 1 = .ok (.getfield 35, 3) := by decide +kernel
theorem dM_split_4 : decode cM_split 4 = .ok (.iload_n 1, 1) := by decide +kernel
theorem dM_split_5 : decode cM_split 5 = .ok (.aload_n 0, 1) := by decide +kernel
theorem dM_split_6 : decode cM_split 6 = .ok (.getfield 346, 3) := by decide +kernel
theorem dM_split_9 : decode cM_split 9 = .ok (.iastore, 1) := by decide +kernel
theorem dM_split_10 : decode cM_split 10 = .ok (.aload_n 0, 1) := by decide +kernel
theorem dM_split_11 : decode cM_split 11 = .ok (.getfield 38, 3) := by decide +kernel
theorem dM_split_14 : decode cM_split 14 = .ok (.iload_n 1, 1) := by decide +kernel
theorem dM_split_15 : decode cM_split 15 = .ok (.aload_n 0, 1) := by decide +kernel
theorem dM_split_16 : decode cM_split 16 = .ok (.getfield 349, 3) := by decide +kernel
theorem dM_split_19 : decode cM_split 19 = .ok (.iastore, 1) := by decide +kernel
theorem dM_split_20 : decode cM_split 20 = .ok (.aload_n 0, 1) := by decide +kernel
theorem dM_split_21 : decode cM_split 21 = .ok (.getfield 41, 3) := by decide +kernel
theorem dM_split_24 : decode cM_split 24 = .ok (.iload_n 1, 1) := by decide +kernel
theorem dM_split_25 : decode cM_split 25 = .ok (.aload_n 0, 1) := by decide +kernel
theorem dM_split_26 : decode cM_split 26 = .ok (.getfield 352, 3) := by decide +kernel
theorem dM_split_29 : decode cM_split 29 = .ok (.bastore, 1) := by decide +kernel
theorem dM_split_30 : decode cM_split 30 = .ok (.aload_n 0, 1) := by decide +kernel
theorem dM_split_31 : decode cM_split 31 = .ok (.getfield 56, 3) := by decide +kernel
theorem dM_split_34 : decode cM_split 34 = .ok (.iload_n 1, 1) := by decide +kernel
theorem dM_split_35 : decode cM_split 35 = .ok (.aload_n 0, 1) := by decide +kernel
theorem dM_split_36 : decode cM_split 36 = .ok (.getfield 19, 3) := by decide +kernel
theorem dM_split_39 : decode cM_split 39 = .ok (.aload_n 0, 1) := by decide +kernel
theorem dM_split_40 : decode cM_split 40 = .ok (.getfield 346, 3) := by decide +kernel
theorem dM_split_43 : decode cM_split 43 = .ok (.baload, 1) := by decide +kernel
theorem dM_split_44 : decode cM_split 44 = .ok (.bastore, 1) := by decide +kernel
theorem dM_split_45 : decode cM_split 45 = .ok (.iconst 0, 1) := by decide +kernel
theorem dM_split_46 : decode cM_split 46 = .ok (.istore_n 2, 1) := by decide +kernel
theorem dM_split_47 : decode cM_split 47 = .ok (.iload_n 2, 1) := by decide +kernel
theorem dM_split_48 : decode cM_split 48 = .ok (.bipush 19, 2) := by decide +kernel
theorem dM_split_50 : decode cM_split 50 = .ok (.if_icmp .ge 23, 3) := by decide +kernel
theorem dM_split_53 : decode cM_split 53 = .ok (.aload_n 0, 1) := by decide +kernel
theorem dM_split_54 : decode cM_split 54 = .ok (.getfield 99, 3) := by decide +kernel
theorem dM_split_57 : decode cM_split 57 = .ok (.iload_n 2, 1) := by decide +kernel
theorem dM_split_58 : decode cM_split 58 = .ok (.iconst 2, 1) := by decide +kernel
theorem dM_split_59 : decode cM_split 59 = .ok (.aload_n 0, 1) := by decide +kernel
theorem dM_split_60 : decode cM_split 60 = .ok (.getfield 111, 3) := by decide +kernel
theorem dM_split_63 : decode cM_split 63 = .ok (.iload_n 2, 1) := by decide +kernel
theorem dM_split_64 : decode cM_split 64 = .ok (.iaload, 1) := by decide +kernel
theorem dM_split_65 : decode cM_split 65 = .ok (.imul, 1) := by decide +kernel
theorem dM_split_66 : decode cM_split 66 = .ok (.iastore, 1) := by decide +kernel
theorem dM_split_67 : decode cM_split 67 = .ok (.iinc 2 1, 3) := by decide +kernel
theorem dM_split_70 : decode cM_split 70 = .ok (.goto (-23), 3) := by decide +kernel
theorem dM_split_73 : decode cM_split 73 = .ok (.aload_n 0, 1) := by decide +kernel
theorem dM_split_74 : decode cM_split 74 = .ok (.aload_n 0, 1) := by decide +kernel
theorem dM_split_75 : decode cM_split 75 = .ok (.getfield 99, 3) := by decide +kernel
theorem dM_split_78 : decode cM_split 78 = .ok (.aload_n 0, 1) := by decide +kernel
theorem dM_split_79 : decode cM_split 79 = .ok (.getfield 356, 3) := by decide +kernel
theorem dM_split_82 : decode cM_split 82 = .ok (.invokevirtual 339, 3) := by decide +kernel
theorem dM_split_85 : decode cM_split 85 = .ok (.aload_n 0, 1) := by decide +kernel
theorem dM_split_86 : decode cM_split 86 = .ok (.iload_n 1, 1) := by decide +kernel
theorem dM_split_87 : decode cM_split 87 = .ok (.aload_n 0, 1) := by decide +kernel
theorem dM_split_88 : decode cM_split 88 = .ok (.getfield 87, 3) := by decide +kernel
theorem dM_split_91 : decode cM_split 91 = .ok (.invokevirtual 342, 3) := by decide +kernel
theorem dM_split_94 : decode cM_split 94 = .ok (.return_, 1) := by decide +kernel
