theorem dTr_newLeaf_0 : decode cTr_newLeaf 0 = .ok (.aload_n 0, 1) := by decide +kernel
theorem dTr_newLeaf_1 : decode cTr_newLeaf 1 = .ok (.getfield 24, 3) := by decide +kernel
theorem dTr_newLeaf_4 : decode cTr_newLeaf 4 = .ok (.aload_n 0, 1) := by decide +kernel
theorem dTr_newLeaf_5 : decode cTr_newLeaf 5 = .ok (.getfield 12, 3) := by decide +kernel
theorem dTr_newLeaf_8 : decode cTr_newLeaf 8 = .ok (.invokevirtual 28, 3) := by decide +kernel
theorem dTr_newLeaf_11 : decode cTr_newLeaf 11 = .ok (.if_icmp .ne 18, 3) := by decide +kernel
theorem dTr_newLeaf_14 : decode cTr_newLeaf 14 = .ok (.aload_n 0, 1) := by decide +kernel
theorem dTr_newLeaf_15 : decode cTr_newLeaf 15 = .ok (.getfield 12, 3) := by decide +kernel
theorem dTr_newLeaf_18 : decode cTr_newLeaf 18 = .ok (.new 22, 3) := by decide +kernel
theorem dTr_newLeaf_21 : decode cTr_newLeaf 21 = .ok (.dup, 1) := by decide +kernel
theorem dTr_newLeaf_22 : decode cTr_newLeaf 22 = .ok (.invokespecial 32, 3) := by decide +kernel
theorem dTr_newLeaf_25 : decode cTr_newLeaf 25 = .ok (.invokevirtual 33, 3) := by decide +kernel
theorem dTr_newLeaf_28 : decode cTr_newLeaf 28 = .ok (.pop, 1) := by decide +kernel
theorem dTr_newLeaf_29 : decode cTr_newLeaf 29 = .ok (.aload_n 0, 1) := by decide +kernel
theorem dTr_newLeaf_30 : decode cTr_newLeaf 30 = .ok (.getfield 12, 3) := by decide +kernel
theorem dTr_newLeaf_33 : decode cTr_newLeaf 33 = .ok (.aload_n 0, 1) := by decide +kernel
theorem dTr_newLeaf_34 : decode cTr_newLeaf 34 = .ok (.getfield 24, 3) := by decide +kernel
theorem dTr_newLeaf_37 : decode cTr_newLeaf 37 = .ok (.invokevirtual 18, 3) := by decide +kernel
theorem dTr_newLeaf_40 : decode cTr_newLeaf 40 = .ok (.checkcast 22, 3) := by decide +kernel
theorem dTr_newLeaf_43 : decode cTr_newLeaf 43 = .ok (.astore_n 3, 1) := by decide +kernel
theorem dTr_newLeaf_44 : decode cTr_newLeaf 44 = .ok (.aload_n 3, 1) := by decide +kernel
theorem dTr_newLeaf_45 : decode cTr_newLeaf 45 = .ok (.invokevirtual 37, 3) := by decide +kernel
theorem dTr_newLeaf_48 : decode cTr_newLeaf 48 = .ok (.aload_n 3, 1) := by decide +kernel
theorem dTr_newLeaf_49 : decode cTr_newLeaf 49 = .ok (.iload_n 1, 1) := by decide +kernel
theorem dTr_newLeaf_50 : decode cTr_newLeaf 50 = .ok (.putfield 40, 3) := by decide +kernel
theorem dTr_newLeaf_53 : decode cTr_newLeaf 53 = .ok (.aload_n 3, 1) := by decide +kernel
theorem dTr_newLeaf_54 : decode cTr_newLeaf 54 = .ok (.iload_n 2, 1) := by decide +kernel
theorem dTr_newLeaf_55 : decode cTr_newLeaf 55 = .ok (.putfield 43, 3) := by decide +kernel
theorem dTr_newLeaf_58 : decode cTr_newLeaf 58 = .ok (.aload_n 0, 1) := by decide +kernel
theorem dTr_newLeaf_59 : decode cTr_newLeaf 59 = .ok (.dup, 1) := by decide +kernel
theorem dTr_newLeaf_60 : decode cTr_newLeaf 60 = .ok (.getfield 24, 3) := by decide +kernel
theorem dTr_newLeaf_63 : decode cTr_newLeaf 63 = .ok (.dup_x1, 1) := by decide +kernel
theorem dTr_newLeaf_64 : decode cTr_newLeaf 64 = .ok (.iconst 1, 1) := by decide +kernel
theorem dTr_newLeaf_65 : decode cTr_newLeaf 65 = .ok (.iadd, 1) := by decide +kernel
theorem dTr_newLeaf_66 : decode cTr_newLeaf 66 = .ok (.putfield 24, 3) := by decide +kernel
theorem dTr_newLeaf_69 : decode cTr_newLeaf 69 = .ok (.ireturn, 1) := by decide +kernel
