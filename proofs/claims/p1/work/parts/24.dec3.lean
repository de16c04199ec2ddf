theorem dW_init_0 : decode cW_init 0 = .ok (.aload_n 0, 1) := by decide +kernel
theorem dW_init_1 : decode cW_init 1 = .ok (.invokespecial 1, 3) := by decide +kernel
theorem dW_init_4 : decode cW_init 4 = .ok (.aload_n 0, 1) := by decide +kernel
theorem dW_init_5 : decode cW_init 5 = .ok (.iload_n 1, 1) := by decide +kernel
theorem dW_init_6 : decode cW_init 6 = .ok (.newarray .int, 2) := by decide +kernel
theorem dW_init_8 : decode cW_init 8 = .ok (.putfield 7, 3) := by decide +kernel
theorem dW_init_11 : decode cW_init 11 = .ok (.return_, 1) := by decide +kernel
theorem dC_init_0 : decode cC_init 0 = .ok (.aload_n 0, 1) := by decide +kernel
theorem dC_init_1 : decode cC_init 1 = .ok (.invokespecial 3, 3) := by decide +kernel
theorem dC_init_4 : decode cC_init 4 = .ok (.aload_n 0, 1) := by decide +kernel
theorem dC_init_5 : decode cC_init 5 = .ok (.bipush 49, 2) := by decide +kernel
theorem dC_init_7 : decode cC_init 7 = .ok (.newarray .int, 2) := by decide +kernel
theorem dC_init_9 : decode cC_init 9 = .ok (.putfield 9, 3) := by decide +kernel
theorem dC_init_12 : decode cC_init 12 = .ok (.aload_n 0, 1) := by decide +kernel
theorem dC_init_13 : decode cC_init 13 = .ok (.bipush 11, 2) := by decide +kernel
theorem dC_init_15 : decode cC_init 15 = .ok (.newarray .int, 2) := by decide +kernel
theorem dC_init_17 : decode cC_init 17 = .ok (.putfield 15, 3) := by decide +kernel
theorem dC_init_20 : decode cC_init 20 = .ok (.return_, 1) := by decide +kernel
theorem dP_init_0 : decode cP_init 0 = .ok (.aload_n 0, 1) := by decide +kernel
theorem dP_init_1 : decode cP_init 1 = .ok (.invokespecial 1, 3) := by decide +kernel
theorem dP_init_4 : decode cP_init 4 = .ok (.return_, 1) := by decide +kernel
theorem dP_clear_0 : decode cP_clear 0 = .ok (.aload_n 0, 1) := by decide +kernel
theorem dP_clear_1 : decode cP_clear 1 = .ok (.iconst 2, 1) := by decide +kernel
theorem dP_clear_2 : decode cP_clear 2 = .ok (.putfield 7, 3) := by decide +kernel
theorem dP_clear_5 : decode cP_clear 5 = .ok (.aload_n 0, 1) := by decide +kernel
theorem dP_clear_6 : decode cP_clear 6 = .ok (.iconst 1, 1) := by decide +kernel
theorem dP_clear_7 : decode cP_clear 7 = .ok (.putfield 13, 3) := by decide +kernel
theorem dP_clear_10 : decode cP_clear 10 = .ok (.aload_n 0, 1) := by decide +kernel
theorem dP_clear_11 : decode cP_clear 11 = .ok (.iconst 0, 1) := by decide +kernel
theorem dP_clear_12 : decode cP_clear 12 = .ok (.putfield 16, 3) := by decide +kernel
theorem dP_clear_15 : decode cP_clear 15 = .ok (.aload_n 0, 1) := by decide +kernel
theorem dP_clear_16 : decode cP_clear 16 = .ok (.iconst 1, 1) := by decide +kernel
theorem dP_clear_17 : decode cP_clear 17 = .ok (.putfield 19, 3) := by decide +kernel
theorem dP_clear_20 : decode cP_clear 20 = .ok (.aload_n 0, 1) := by decide +kernel
theorem dP_clear_21 : decode cP_clear 21 = .ok (.iconst 2, 1) := by decide +kernel
theorem dP_clear_22 : decode cP_clear 22 = .ok (.putfield 22, 3) := by decide +kernel
theorem dP_clear_25 : decode cP_clear 25 = .ok (.aload_n 0, 1) := by decide +kernel
theorem dP_clear_26 : decode cP_clear 26 = .ok (.ldc2_w 25, 3) := by decide +kernel
theorem dP_clear_29 : decode cP_clear 29 = .ok (.putfield 27, 3) := by decide +kernel
theorem dP_clear_32 : decode cP_clear 32 = .ok (.aload_n 0, 1) := by decide +kernel
theorem dP_clear_33 : decode cP_clear 33 = .ok (.iconst (-1), 1) := by decide +kernel
theorem dP_clear_34 : decode cP_clear 34 = .ok (.putfield 31, 3) := by decide +kernel
theorem dP_clear_37 : decode cP_clear 37 = .ok (.return_, 1) := by decide +kernel
