theorem dTr_setToValue_0 : decode cTr_setToValue 0 = .ok (.aload_n 0, 1) := by decide +kernel
theorem dTr_setToValue_1 : decode cTr_setToValue 1 = .ok (.getfield 59, 3) := by decide +kernel
theorem dTr_setToValue_4 : decode cTr_setToValue 4 = .ok (.aload_n 2, 1) := by decide +kernel
theorem dTr_setToValue_5 : decode cTr_setToValue 5 = .ok (.getfield 40, 3) := by decide +kernel
theorem dTr_setToValue_8 : decode cTr_setToValue 8 = .ok (.aload_n 0, 1) := by decide +kernel
theorem dTr_setToValue_9 : decode cTr_setToValue 9 = .ok (.getfield 51, 3) := by decide +kernel
theorem dTr_setToValue_12 : decode cTr_setToValue 12 = .ok (.iadd, 1) := by decide +kernel
theorem dTr_setToValue_13 : decode cTr_setToValue 13 = .ok (.imul, 1) := by decide +kernel
theorem dTr_setToValue_14 : decode cTr_setToValue 14 = .ok (.istore_n 3, 1) := by decide +kernel
theorem dTr_setToValue_15 : decode cTr_setToValue 15 = .ok (.aload_n 0, 1) := by decide +kernel
theorem dTr_setToValue_16 : decode cTr_setToValue 16 = .ok (.getfield 55, 3) := by decide +kernel
theorem dTr_setToValue_19 : decode cTr_setToValue 19 = .ok (.i2l, 1) := by decide +kernel
theorem dTr_setToValue_20 : decode cTr_setToValue 20 = .ok (.aload_n 0, 1) := by decide +kernel
theorem dTr_setToValue_21 : decode cTr_setToValue 21 = .ok (.getfield 60, 3) := by decide +kernel
theorem dTr_setToValue_24 : decode cTr_setToValue 24 = .ok (.lmul, 1) := by decide +kernel
theorem dTr_setToValue_25 : decode cTr_setToValue 25 = .ok (.iload_n 3, 1) := by decide +kernel
theorem dTr_setToValue_26 : decode cTr_setToValue 26 = .ok (.i2l, 1) := by decide +kernel
theorem dTr_setToValue_27 : decode cTr_setToValue 27 = .ok (.invokestatic 77, 3) := by decide +kernel
theorem dTr_setToValue_30 : decode cTr_setToValue 30 = .ok (.lstore 4, 2) := by decide +kernel
theorem dTr_setToValue_32 : decode cTr_setToValue 32 = .ok (.aload_n 1, 1) := by decide +kernel
theorem dTr_setToValue_33 : decode cTr_setToValue 33 = .ok (.aload_n 2, 1) := by decide +kernel
theorem dTr_setToValue_34 : decode cTr_setToValue 34 = .ok (.getfield 67, 3) := by decide +kernel
theorem dTr_setToValue_37 : decode cTr_setToValue 37 = .ok (.invokevirtual 81, 3) := by decide +kernel
theorem dTr_setToValue_40 : decode cTr_setToValue 40 = .ok (.aload_n 1, 1) := by decide +kernel
theorem dTr_setToValue_41 : decode cTr_setToValue 41 = .ok (.aload_n 0, 1) := by decide +kernel
theorem dTr_setToValue_42 : decode cTr_setToValue 42 = .ok (.getfield 55, 3) := by decide +kernel
theorem dTr_setToValue_45 : decode cTr_setToValue 45 = .ok (.i2l, 1) := by decide +kernel
theorem dTr_setToValue_46 : decode cTr_setToValue 46 = .ok (.aload_n 0, 1) := by decide +kernel
theorem dTr_setToValue_47 : decode cTr_setToValue 47 = .ok (.getfield 60, 3) := by decide +kernel
theorem dTr_setToValue_50 : decode cTr_setToValue 50 = .ok (.lmul, 1) := by decide +kernel
theorem dTr_setToValue_51 : decode cTr_setToValue 51 = .ok (.lload 4, 2) := by decide +kernel
theorem dTr_setToValue_53 : decode cTr_setToValue 53 = .ok (.ldiv, 1) := by decide +kernel
theorem dTr_setToValue_54 : decode cTr_setToValue 54 = .ok (.invokevirtual 85, 3) := by decide +kernel
theorem dTr_setToValue_57 : decode cTr_setToValue 57 = .ok (.aload_n 1, 1) := by decide +kernel
theorem dTr_setToValue_58 : decode cTr_setToValue 58 = .ok (.iload_n 3, 1) := by decide +kernel
theorem dTr_setToValue_59 : decode cTr_setToValue 59 = .ok (.i2l, 1) := by decide +kernel
theorem dTr_setToValue_60 : decode cTr_setToValue 60 = .ok (.lload 4, 2) := by decide +kernel
theorem dTr_setToValue_62 : decode cTr_setToValue 62 = .ok (.ldiv, 1) := by decide +kernel
theorem dTr_setToValue_63 : decode cTr_setToValue 63 = .ok (.l2i, 1) := by decide +kernel
theorem dTr_setToValue_64 : decode cTr_setToValue 64 = .ok (.invokevirtual 89, 3) := by decide +kernel
theorem dTr_setToValue_67 : decode cTr_setToValue 67 = .ok (.return_, 1) := by decide +kernel
theorem dO_append_0 : decode cO_append 0 = .ok (.aload_n 0, 1) := by decide +kernel
theorem dO_append_1 : decode cO_append 1 = .ok (.getfield 32, 3) := by decide +kernel
theorem dO_append_4 : decode cO_append 4 = .ok (.aload_n 0, 1) := by decide +kernel
theorem dO_append_5 : decode cO_append 5 = .ok (.getfield 9, 3) := by decide +kernel
theorem dO_append_8 : decode cO_append 8 = .ok (.arraylength, 1) := by decide +kernel
theorem dO_append_9 : decode cO_append 9 = .ok (.if_icmp .ge 21, 3) := by decide +kernel
theorem dO_append_12 : decode cO_append 12 = .ok (.aload_n 0, 1) := by decide +kernel
theorem dO_append_13 : decode cO_append 13 = .ok (.getfield 9, 3) := by decide +kernel
theorem dO_append_16 : decode cO_append 16 = .ok (.aload_n 0, 1) := by decide +kernel
theorem dO_append_17 : decode cO_append 17 = .ok (.dup, 1) := by decide +kernel
theorem dO_append_18 : decode cO_append 18 = .ok (.getfield 32, 3) := by decide +kernel
theorem dO_append_21 : decode cO_append 21 = .ok (.dup_x1, 1) := by decide +kernel
theorem dO_append_22 : decode cO_append 22 = .ok (.iconst 1, 1) := by decide +kernel
theorem dO_append_23 : decode cO_append 23 = .ok (.iadd, 1) := by decide +kernel
theorem dO_append_24 : decode cO_append 24 = .ok (.putfield 32, 3) := by decide +kernel
theorem dO_append_27 : decode cO_append 27 = .ok (.iload_n 1, 1) := by decide +kernel
theorem dO_append_28 : decode cO_append 28 = .ok (.i2b, 1) := by decide +kernel
theorem dO_append_29 : decode cO_append 29 = .ok (.bastore, 1) := by decide +kernel
theorem dO_append_30 : decode cO_append 30 = .ok (.return_, 1) := by decide +kernel
