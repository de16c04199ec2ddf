theorem dC_init_0 : decode cC_init 0 = .ok (.aload_n 0, 1) := by decide +kernel
theorem dC_init_1 : decode cC_init 1 = .ok (.invokespecial 3, 3) := by decide +kernel
theorem dC_init_4 : decode cC_init 4 = .ok (.aload_n 0, 1) := by decide +kernel
theorem dC_init_5 : decode cC_init 5 = .ok (.bipush 49, 2) := by decide +kernel
theorem dC_init_7 : decode cC_init 7 = .ok (.newarray .int, 2) := by decide +kernel
theorem dC_init_9 : decode cC_init 9 = .ok (.putfield 9, 3) := by decide +kernel
theorem dC_init_12 : decode cC_init 12 = .ok (.aload_n 0, 1) := by decide +kernel
theorem dC_init_13 : decode cC_init 13 = .ok (.bipush 11, 2) := by decide +kernel
theorem dC_init_15 : decode cC_init 15 = .ok (.newarray .int, 2) := by decide +kernel
theorem dC_init_17 : decode cC_init 17 = .ok (.putfield 15, 3) := by decide +kernel
theorem dC_init_20 : decode cC_init 20 = .ok (.return_, 1) := by decide +kernel
theorem dP_init_0 : decode cP_init 0 = .ok (.aload_n 0, 1) := by decide +kernel
theorem dP_init_1 : decode cP_init 1 = .ok (.invokespecial 1, 3) := by decide +kernel
theorem dP_init_4 : decode cP_init 4 = .ok (.return_, 1) := by decide +kernel
theorem dG_init_0 : decode cG_init 0 = .ok (.aload_n 0, 1) := by decide +kernel
theorem dG_init_1 : decode cG_init 1 = .ok (.invokespecial 3, 3) := by decide +kernel
theorem dG_init_4 : decode cG_init 4 = .ok (.aload_n 0, 1) := by decide +kernel
theorem dG_init_5 : decode cG_init 5 = .ok (.new 9, 3) := by decide +kernel
theorem dG_init_8 : decode cG_init 8 = .ok (.dup, 1) := by decide +kernel
theorem dG_init_9 : decode cG_init 9 = .ok (.bipush 24, 2) := by decide +kernel
theorem dG_init_11 : decode cG_init 11 = .ok (.invokespecial 11, 3) := by decide +kernel
theorem dG_init_14 : decode cG_init 14 = .ok (.putfield 14, 3) := by decide +kernel
theorem dG_init_17 : decode cG_init 17 = .ok (.return_, 1) := by decide +kernel
theorem dS_init_0 : decode cS_init 0 = .ok (.aload_n 0, 1) := by decide +kernel
theorem dS_init_1 : decode cS_init 1 = .ok (.invokespecial 3, 3) := by decide +kernel
theorem dS_init_4 : decode cS_init 4 = .ok (.aload_n 0, 1) := by decide +kernel
theorem dS_init_5 : decode cS_init 5 = .ok (.new 9, 3) := by decide +kernel
theorem dS_init_8 : decode cS_init 8 = .ok (.dup, 1) := by decide +kernel
theorem dS_init_9 : decode cS_init 9 = .ok (.bipush 48, 2) := by decide +kernel
theorem dS_init_11 : decode cS_init 11 = .ok (.invokespecial 11, 3) := by decide +kernel
theorem dS_init_14 : decode cS_init 14 = .ok (.putfield 14, 3) := by decide +kernel
theorem dS_init_17 : decode cS_init 17 = .ok (.return_, 1) := by decide +kernel
theorem dO_init_0 : decode cO_init 0 = .ok (.aload_n 0, 1) := by decide +kernel
theorem dO_init_1 : decode cO_init 1 = .ok (.invokespecial 3, 3) := by decide +kernel
theorem dO_init_4 : decode cO_init 4 = .ok (.aload_n 0, 1) := by decide +kernel
theorem dO_init_5 : decode cO_init 5 = .ok (.sipush 866, 3) := by decide +kernel
theorem dO_init_8 : decode cO_init 8 = .ok (.newarray .byte, 2) := by decide +kernel
theorem dO_init_10 : decode cO_init 10 = .ok (.putfield 9, 3) := by decide +kernel
theorem dO_init_13 : decode cO_init 13 = .ok (.aload_n 0, 1) := by decide +kernel
theorem dO_init_14 : decode cO_init 14 = .ok (.iconst 1, 1) := by decide +kernel
theorem dO_init_15 : decode cO_init 15 = .ok (.anewarray 15, 3) := by decide +kernel
theorem dO_init_18 : decode cO_init 18 = .ok (.dup, 1) := by decide +kernel
theorem dO_init_19 : decode cO_init 19 = .ok (.iconst 0, 1) := by decide +kernel
theorem dO_init_20 : decode cO_init 20 = .ok (.new 15, 3) := by decide +kernel
theorem dO_init_23 : decode cO_init 23 = .ok (.dup, 1) := by decide +kernel
theorem dO_init_24 : decode cO_init 24 = .ok (.bipush 48, 2) := by decide +kernel
theorem dO_init_26 : decode cO_init 26 = .ok (.invokespecial 17, 3) := by decide +kernel
theorem dO_init_29 : decode cO_init 29 = .ok (.aastore, 1) := by decide +kernel
theorem dO_init_30 : decode cO_init 30 = .ok (.putfield 20, 3) := by decide +kernel
theorem dO_init_33 : decode cO_init 33 = .ok (.aload_n 0, 1) := by decide +kernel
theorem dO_init_34 : decode cO_init 34 = .ok (.new 15, 3) := by decide +kernel
theorem dO_init_37 : decode cO_init 37 = .ok (.dup, 1) := by decide +kernel
theorem dO_init_38 : decode cO_init 38 = .ok (.bipush 48, 2) := by decide +kernel
theorem dO_init_40 : decode cO_init 40 = .ok (.invokespecial 17, 3) := by decide +kernel
theorem dO_init_43 : decode cO_init 43 = .ok (.putfield 24, 3) := by decide +kernel
theorem dO_init_46 : decode cO_init 46 = .ok (.return_, 1) := by decide +kernel
