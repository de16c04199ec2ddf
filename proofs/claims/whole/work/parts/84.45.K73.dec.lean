theorem dW_init_0 : decode cW_init 0 = .ok (.aload_n 0, 1) := by decide +kernel
theorem dW_init_1 : decode cW_init 1 = .ok (.invokespecial 1, 3) := by decide +kernel
theorem dW_init_4 : decode cW_init 4 = .ok (.aload_n 0, 1) := by decide +kernel
theorem dW_init_5 : decode cW_init 5 = .ok (.iload_n 1, 1) := by decide +kernel
theorem dW_init_6 : decode cW_init 6 = .ok (.newarray .int, 2) := by decide +kernel
theorem dW_init_8 : decode cW_init 8 = .ok (.putfield 7, 3) := by decide +kernel
theorem dW_init_11 : decode cW_init 11 = .ok (.return_, 1) := by decide +kernel
theorem dN_init_0 : decode cN_init 0 = .ok (.aload_n 0, 1) := by decide +kernel
theorem dN_init_1 : decode cN_init 1 = .ok (.invokespecial 3, 3) := by decide +kernel
theorem dN_init_4 : decode cN_init 4 = .ok (.aload_n 0, 1) := by decide +kernel
theorem dN_init_5 : decode cN_init 5 = .ok (.new 9, 3) := by decide +kernel
theorem dN_init_8 : decode cN_init 8 = .ok (.dup, 1) := by decide +kernel
theorem dN_init_9 : decode cN_init 9 = .ok (.bipush 24, 2) := by decide +kernel
theorem dN_init_11 : decode cN_init 11 = .ok (.invokespecial 11, 3) := by decide +kernel
theorem dN_init_14 : decode cN_init 14 = .ok (.putfield 14, 3) := by decide +kernel
theorem dN_init_17 : decode cN_init 17 = .ok (.return_, 1) := by decide +kernel
