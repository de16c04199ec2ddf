theorem dAs_newLength_0 : decode cAs_newLength 0 = .ok (.iload_n 0, 1) := by decide +kernel
theorem dAs_newLength_1 : decode cAs_newLength 1 = .ok (.iload_n 1, 1) := by decide +kernel
theorem dAs_newLength_2 : decode cAs_newLength 2 = .ok (.iload_n 2, 1) := by decide +kernel
theorem dAs_newLength_3 : decode cAs_newLength 3 = .ok (.invokestatic 194, 3) := by decide +kernel
theorem dAs_newLength_6 : decode cAs_newLength 6 = .ok (.iadd, 1) := by decide +kernel
theorem dAs_newLength_7 : decode cAs_newLength 7 = .ok (.istore_n 3, 1) := by decide +kernel
theorem dAs_newLength_8 : decode cAs_newLength 8 = .ok (.iconst 0, 1) := by decide +kernel
theorem dAs_newLength_9 : decode cAs_newLength 9 = .ok (.iload_n 3, 1) := by decide +kernel
theorem dAs_newLength_10 : decode cAs_newLength 10 = .ok (.if_icmp .ge 11, 3) := by decide +kernel
theorem dAs_newLength_13 : decode cAs_newLength 13 = .ok (.iload_n 3, 1) := by decide +kernel
theorem dAs_newLength_14 : decode cAs_newLength 14 = .ok (.ldc 200, 2) := by decide +kernel
theorem dAs_newLength_16 : decode cAs_newLength 16 = .ok (.if_icmp .gt 5, 3) := by decide +kernel
theorem dAs_newLength_19 : decode cAs_newLength 19 = .ok (.iload_n 3, 1) := by decide +kernel
theorem dAs_newLength_20 : decode cAs_newLength 20 = .ok (.ireturn, 1) := by decide +kernel
theorem dAs_newLength_21 : decode cAs_newLength 21 = .ok (.iload_n 0, 1) := by decide +kernel
theorem dAs_newLength_22 : decode cAs_newLength 22 = .ok (.iload_n 1, 1) := by decide +kernel
theorem dAs_newLength_23 : decode cAs_newLength 23 = .ok (.invokestatic 201, 3) := by decide +kernel
theorem dAs_newLength_26 : decode cAs_newLength 26 = .ok (.ireturn, 1) := by decide +kernel
