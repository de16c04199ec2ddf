theorem dPc_checkIndex_0 : decode cPc_checkIndex 0 = .ok (.iload_n 0, 1) := by decide +kernel
theorem dPc_checkIndex_1 : decode cPc_checkIndex 1 = .ok (.ifCond .lt 8, 3) := by decide +kernel
theorem dPc_checkIndex_4 : decode cPc_checkIndex 4 = .ok (.iload_n 0, 1) := by decide +kernel
theorem dPc_checkIndex_5 : decode cPc_checkIndex 5 = .ok (.iload_n 1, 1) := by decide +kernel
theorem dPc_checkIndex_6 : decode cPc_checkIndex 6 = .ok (.if_icmp .lt 10, 3) := by decide +kernel
theorem dPc_checkIndex_9 : decode cPc_checkIndex 9 = .ok (.aload_n 2, 1) := by decide +kernel
theorem dPc_checkIndex_10 : decode cPc_checkIndex 10 = .ok (.iload_n 0, 1) := by decide +kernel
theorem dPc_checkIndex_11 : decode cPc_checkIndex 11 = .ok (.iload_n 1, 1) := by decide +kernel
theorem dPc_checkIndex_12 : decode cPc_checkIndex 12 = .ok (.invokestatic 95, 3) := by decide +kernel
theorem dPc_checkIndex_15 : decode cPc_checkIndex 15 = .ok (.athrow, 1) := by decide +kernel
theorem dPc_checkIndex_16 : decode cPc_checkIndex 16 = .ok (.iload_n 0, 1) := by decide +kernel
theorem dPc_checkIndex_17 : decode cPc_checkIndex 17 = .ok (.ireturn, 1) := by decide +kernel
theorem dOb_checkIndex_0 : decode cOb_checkIndex 0 = .ok (.iload_n 0, 1) := by decide +kernel
theorem dOb_checkIndex_1 : decode cOb_checkIndex 1 = .ok (.iload_n 1, 1) := by decide +kernel
theorem dOb_checkIndex_2 : decode cOb_checkIndex 2 = .ok (.aconst_null, 1) := by decide +kernel
theorem dOb_checkIndex_3 : decode cOb_checkIndex 3 = .ok (.invokestatic 105, 3) := by decide +kernel
theorem dOb_checkIndex_6 : decode cOb_checkIndex 6 = .ok (.ireturn, 1) := by decide +kernel
theorem dAL_elementData_0 : decode cAL_elementData 0 = .ok (.aload_n 0, 1) := by decide +kernel
theorem dAL_elementData_1 : decode cAL_elementData 1 = .ok (.getfield 9, 3) := by decide +kernel
theorem dAL_elementData_4 : decode cAL_elementData 4 = .ok (.iload_n 1, 1) := by decide +kernel
theorem dAL_elementData_5 : decode cAL_elementData 5 = .ok (.aaload, 1) := by decide +kernel
theorem dAL_elementData_6 : decode cAL_elementData 6 = .ok (.areturn, 1) := by decide +kernel
theorem dAL_get_0 : decode cAL_get 0 = .ok (.iload_n 1, 1) := by decide +kernel
theorem dAL_get_1 : decode cAL_get 1 = .ok (.aload_n 0, 1) := by decide +kernel
theorem dAL_get_2 : decode cAL_get 2 = .ok (.getfield 48, 3) := by decide +kernel
theorem dAL_get_5 : decode cAL_get 5 = .ok (.invokestatic 118, 3) := by decide +kernel
theorem dAL_get_8 : decode cAL_get 8 = .ok (.pop, 1) := by decide +kernel
theorem dAL_get_9 : decode cAL_get 9 = .ok (.aload_n 0, 1) := by decide +kernel
theorem dAL_get_10 : decode cAL_get 10 = .ok (.iload_n 1, 1) := by decide +kernel
theorem dAL_get_11 : decode cAL_get 11 = .ok (.invokevirtual 123, 3) := by decide +kernel
theorem dAL_get_14 : decode cAL_get 14 = .ok (.areturn, 1) := by decide +kernel
theorem dAL_size_0 : decode cAL_size 0 = .ok (.aload_n 0, 1) := by decide +kernel
theorem dAL_size_1 : decode cAL_size 1 = .ok (.getfield 48, 3) := by decide +kernel
theorem dAL_size_4 : decode cAL_size 4 = .ok (.ireturn, 1) := by decide +kernel
