theorem dM_commonBits_0 : decode cM_commonBits 0 = .ok (.aload_n 0, 1) := by decide +kernel
theorem dM_commonBits_1 : decode cM_commonBits 1 = .ok (.invokevirtual 300, 3) := by decide +kernel
theorem dM_commonBits_4 : decode cM_commonBits 4 = .ok (.aload_n 0, 1) := by decide +kernel
theorem dM_commonBits_5 : decode cM_commonBits 5 = .ok (.getfield 66, 3) := by decide +kernel
theorem dM_commonBits_8 : decode cM_commonBits 8 = .ok (.lconst 1, 1) := by decide +kernel
theorem dM_commonBits_9 : decode cM_commonBits 9 = .ok (.invokestatic 272, 3) := by decide +kernel
theorem dM_commonBits_12 : decode cM_commonBits 12 = .ok (.aload_n 0, 1) := by decide +kernel
theorem dM_commonBits_13 : decode cM_commonBits 13 = .ok (.getfield 99, 3) := by decide +kernel
theorem dM_commonBits_16 : decode cM_commonBits 16 = .ok (.invokestatic 276, 3) := by decide +kernel
theorem dM_commonBits_19 : decode cM_commonBits 19 = .ok (.aload_n 0, 1) := by decide +kernel
theorem dM_commonBits_20 : decode cM_commonBits 20 = .ok (.aload_n 0, 1) := by decide +kernel
theorem dM_commonBits_21 : decode cM_commonBits 21 = .ok (.getfield 66, 3) := by decide +kernel
theorem dM_commonBits_24 : decode cM_commonBits 24 = .ok (.aload_n 0, 1) := by decide +kernel
theorem dM_commonBits_25 : decode cM_commonBits 25 = .ok (.getfield 99, 3) := by decide +kernel
theorem dM_commonBits_28 : decode cM_commonBits 28 = .ok (.aload_n 0, 1) := by decide +kernel
theorem dM_commonBits_29 : decode cM_commonBits 29 = .ok (.getfield 111, 3) := by decide +kernel
theorem dM_commonBits_32 : decode cM_commonBits 32 = .ok (.invokevirtual 180, 3) := by decide +kernel
theorem dM_commonBits_35 : decode cM_commonBits 35 = .ok (.aload_n 0, 1) := by decide +kernel
theorem dM_commonBits_36 : decode cM_commonBits 36 = .ok (.getfield 66, 3) := by decide +kernel
theorem dM_commonBits_39 : decode cM_commonBits 39 = .ok (.aload_n 0, 1) := by decide +kernel
theorem dM_commonBits_40 : decode cM_commonBits 40 = .ok (.getfield 66, 3) := by decide +kernel
theorem dM_commonBits_43 : decode cM_commonBits 43 = .ok (.sipush 300, 3) := by decide +kernel
theorem dM_commonBits_46 : decode cM_commonBits 46 = .ok (.iaload, 1) := by decide +kernel
theorem dM_commonBits_47 : decode cM_commonBits 47 = .ok (.iconst 1, 1) := by decide +kernel
theorem dM_commonBits_48 : decode cM_commonBits 48 = .ok (.isub, 1) := by decide +kernel
theorem dM_commonBits_49 : decode cM_commonBits 49 = .ok (.iaload, 1) := by decide +kernel
theorem dM_commonBits_50 : decode cM_commonBits 50 = .ok (.istore_n 1, 1) := by decide +kernel
theorem dM_commonBits_51 : decode cM_commonBits 51 = .ok (.bipush 28, 2) := by decide +kernel
theorem dM_commonBits_53 : decode cM_commonBits 53 = .ok (.aload_n 0, 1) := by decide +kernel
theorem dM_commonBits_54 : decode cM_commonBits 54 = .ok (.getfield 66, 3) := by decide +kernel
theorem dM_commonBits_57 : decode cM_commonBits 57 = .ok (.sipush 300, 3) := by decide +kernel
theorem dM_commonBits_60 : decode cM_commonBits 60 = .ok (.iaload, 1) := by decide +kernel
theorem dM_commonBits_61 : decode cM_commonBits 61 = .ok (.iconst 1, 1) := by decide +kernel
theorem dM_commonBits_62 : decode cM_commonBits 62 = .ok (.isub, 1) := by decide +kernel
theorem dM_commonBits_63 : decode cM_commonBits 63 = .ok (.imul, 1) := by decide +kernel
theorem dM_commonBits_64 : decode cM_commonBits 64 = .ok (.istore_n 2, 1) := by decide +kernel
theorem dM_commonBits_65 : decode cM_commonBits 65 = .ok (.iload_n 1, 1) := by decide +kernel
theorem dM_commonBits_66 : decode cM_commonBits 66 = .ok (.ifCond .le 13, 3) := by decide +kernel
theorem dM_commonBits_69 : decode cM_commonBits 69 = .ok (.iload_n 1, 1) := by decide +kernel
theorem dM_commonBits_70 : decode cM_commonBits 70 = .ok (.iconst 1, 1) := by decide +kernel
theorem dM_commonBits_71 : decode cM_commonBits 71 = .ok (.ishr, 1) := by decide +kernel
theorem dM_commonBits_72 : decode cM_commonBits 72 = .ok (.istore_n 1, 1) := by decide +kernel
theorem dM_commonBits_73 : decode cM_commonBits 73 = .ok (.iinc 2 1, 3) := by decide +kernel
theorem dM_commonBits_76 : decode cM_commonBits 76 = .ok (.goto (-11), 3) := by decide +kernel
theorem dM_commonBits_79 : decode cM_commonBits 79 = .ok (.iload_n 2, 1) := by decide +kernel
theorem dM_commonBits_80 : decode cM_commonBits 80 = .ok (.ireturn, 1) := by decide +kernel
theorem dM_keep_0 : decode cM_keep 0 = .ok (.aload_n 0, 1) := by decide +kernel
theorem dM_keep_1 : decode cM_keep 1 = .ok (.aload_n 2, 1) := by decide +kernel
theorem dM_keep_2 : decode cM_keep 2 = .ok (.aload_n 0, 1) := by decide +kernel
theorem dM_keep_3 : decode cM_keep 3 = .ok (.getfield 99, 3) := by decide +kernel
theorem dM_keep_6 : decode cM_keep 6 = .ok (.invokevirtual 187, 3) := by decide +kernel
theorem dM_keep_9 : decode cM_keep 9 = .ok (.aload_n 2, 1) := by decide +kernel
theorem dM_keep_10 : decode cM_keep 10 = .ok (.aload_n 0, 1) := by decide +kernel
theorem dM_keep_11 : decode cM_keep 11 = .ok (.getfield 60, 3) := by decide +kernel
theorem dM_keep_14 : decode cM_keep 14 = .ok (.sipush 132, 3) := by decide +kernel
theorem dM_keep_17 : decode cM_keep 17 = .ok (.iload_n 1, 1) := by decide +kernel
theorem dM_keep_18 : decode cM_keep 18 = .ok (.imul, 1) := by decide +kernel
theorem dM_keep_19 : decode cM_keep 19 = .ok (.invokestatic 294, 3) := by decide +kernel
theorem dM_keep_22 : decode cM_keep 22 = .ok (.aload_n 0, 1) := by decide +kernel
theorem dM_keep_23 : decode cM_keep 23 = .ok (.getfield 99, 3) := by decide +kernel
theorem dM_keep_26 : decode cM_keep 26 = .ok (.aload_n 0, 1) := by decide +kernel
theorem dM_keep_27 : decode cM_keep 27 = .ok (.getfield 63, 3) := by decide +kernel
theorem dM_keep_30 : decode cM_keep 30 = .ok (.bipush 19, 2) := by decide +kernel
theorem dM_keep_32 : decode cM_keep 32 = .ok (.iload_n 1, 1) := by decide +kernel
theorem dM_keep_33 : decode cM_keep 33 = .ok (.imul, 1) := by decide +kernel
theorem dM_keep_34 : decode cM_keep 34 = .ok (.invokestatic 297, 3) := by decide +kernel
theorem dM_keep_37 : decode cM_keep 37 = .ok (.return_, 1) := by decide +kernel
