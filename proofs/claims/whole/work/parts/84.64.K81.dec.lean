theorem dAC_init_0 : decode cAC_init 0 = .ok (.aload_n 0, 1) := by decide +kernel
theorem dAC_init_1 : decode cAC_init 1 = .ok (.invokespecial 1, 3) := by decide +kernel
theorem dAC_init_4 : decode cAC_init 4 = .ok (.return_, 1) := by decide +kernel
theorem dAA_init_0 : decode cAA_init 0 = .ok (.aload_n 0, 1) := by decide +kernel
theorem dAA_init_1 : decode cAA_init 1 = .ok (.invokespecial 1, 3) := by decide +kernel
theorem dAA_init_4 : decode cAA_init 4 = .ok (.aload_n 0, 1) := by decide +kernel
theorem dAA_init_5 : decode cAA_init 5 = .ok (.iconst 0, 1) := by decide +kernel
theorem dAA_init_6 : decode cAA_init 6 = .ok (.putfield 7, 3) := by decide +kernel
theorem dAA_init_9 : decode cAA_init 9 = .ok (.return_, 1) := by decide +kernel
theorem dAL_init_0 : decode cAL_init 0 = .ok (.aload_n 0, 1) := by decide +kernel
theorem dAL_init_1 : decode cAL_init 1 = .ok (.invokespecial 1, 3) := by decide +kernel
theorem dAL_init_4 : decode cAL_init 4 = .ok (.aload_n 0, 1) := by decide +kernel
theorem dAL_init_5 : decode cAL_init 5 = .ok (.getstatic 39, 3) := by decide +kernel
theorem dAL_init_8 : decode cAL_init 8 = .ok (.putfield 9, 3) := by decide +kernel
theorem dAL_init_11 : decode cAL_init 11 = .ok (.return_, 1) := by decide +kernel
theorem dTr_init_0 : decode cTr_init 0 = .ok (.aload_n 0, 1) := by decide +kernel
theorem dTr_init_1 : decode cTr_init 1 = .ok (.invokespecial 3, 3) := by decide +kernel
theorem dTr_init_4 : decode cTr_init 4 = .ok (.aload_n 0, 1) := by decide +kernel
theorem dTr_init_5 : decode cTr_init 5 = .ok (.new 9, 3) := by decide +kernel
theorem dTr_init_8 : decode cTr_init 8 = .ok (.dup, 1) := by decide +kernel
theorem dTr_init_9 : decode cTr_init 9 = .ok (.invokespecial 11, 3) := by decide +kernel
theorem dTr_init_12 : decode cTr_init 12 = .ok (.putfield 12, 3) := by decide +kernel
theorem dTr_init_15 : decode cTr_init 15 = .ok (.return_, 1) := by decide +kernel
theorem dR_freshTree_0 : decode cR_freshTree 0 = .ok (.aload_n 0, 1) := by decide +kernel
theorem dR_freshTree_1 : decode cR_freshTree 1 = .ok (.getfield 192, 3) := by decide +kernel
theorem dR_freshTree_4 : decode cR_freshTree 4 = .ok (.aload_n 0, 1) := by decide +kernel
theorem dR_freshTree_5 : decode cR_freshTree 5 = .ok (.getfield 43, 3) := by decide +kernel
theorem dR_freshTree_8 : decode cR_freshTree 8 = .ok (.invokevirtual 335, 3) := by decide +kernel
theorem dR_freshTree_11 : decode cR_freshTree 11 = .ok (.if_icmp .ne 18, 3) := by decide +kernel
theorem dR_freshTree_14 : decode cR_freshTree 14 = .ok (.aload_n 0, 1) := by decide +kernel
theorem dR_freshTree_15 : decode cR_freshTree 15 = .ok (.getfield 43, 3) := by decide +kernel
theorem dR_freshTree_18 : decode cR_freshTree 18 = .ok (.new 207, 3) := by decide +kernel
theorem dR_freshTree_21 : decode cR_freshTree 21 = .ok (.dup, 1) := by decide +kernel
theorem dR_freshTree_22 : decode cR_freshTree 22 = .ok (.invokespecial 338, 3) := by decide +kernel
theorem dR_freshTree_25 : decode cR_freshTree 25 = .ok (.invokevirtual 339, 3) := by decide +kernel
theorem dR_freshTree_28 : decode cR_freshTree 28 = .ok (.pop, 1) := by decide +kernel
theorem dR_freshTree_29 : decode cR_freshTree 29 = .ok (.aload_n 0, 1) := by decide +kernel
theorem dR_freshTree_30 : decode cR_freshTree 30 = .ok (.getfield 43, 3) := by decide +kernel
theorem dR_freshTree_33 : decode cR_freshTree 33 = .ok (.aload_n 0, 1) := by decide +kernel
theorem dR_freshTree_34 : decode cR_freshTree 34 = .ok (.getfield 192, 3) := by decide +kernel
theorem dR_freshTree_37 : decode cR_freshTree 37 = .ok (.invokevirtual 219, 3) := by decide +kernel
theorem dR_freshTree_40 : decode cR_freshTree 40 = .ok (.checkcast 207, 3) := by decide +kernel
theorem dR_freshTree_43 : decode cR_freshTree 43 = .ok (.astore_n 1, 1) := by decide +kernel
theorem dR_freshTree_44 : decode cR_freshTree 44 = .ok (.aload_n 1, 1) := by decide +kernel
theorem dR_freshTree_45 : decode cR_freshTree 45 = .ok (.iconst 0, 1) := by decide +kernel
theorem dR_freshTree_46 : decode cR_freshTree 46 = .ok (.putfield 256, 3) := by decide +kernel
theorem dR_freshTree_49 : decode cR_freshTree 49 = .ok (.aload_n 1, 1) := by decide +kernel
theorem dR_freshTree_50 : decode cR_freshTree 50 = .ok (.areturn, 1) := by decide +kernel
