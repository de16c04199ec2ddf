theorem dAr_copyOf3_0 : decode cAr_copyOf3 0 = .ok (.aload_n 2, 1) := by decide +kernel
theorem dAr_copyOf3_1 : decode cAr_copyOf3 1 = .ok (.ldc 110, 2) := by decide +kernel
theorem dAr_copyOf3_3 : decode cAr_copyOf3 3 = .ok (.if_acmp .ne 10, 3) := by decide +kernel
theorem dAr_copyOf3_6 : decode cAr_copyOf3 6 = .ok (.iload_n 1, 1) := by decide +kernel
theorem dAr_copyOf3_7 : decode cAr_copyOf3 7 = .ok (.anewarray 2, 3) := by decide +kernel
theorem dAr_copyOf3_10 : decode cAr_copyOf3 10 = .ok (.goto 14, 3) := by decide +kernel
theorem dAr_copyOf3_13 : decode cAr_copyOf3 13 = .ok (.aload_n 2, 1) := by decide +kernel
theorem dAr_copyOf3_14 : decode cAr_copyOf3 14 = .ok (.invokevirtual 90, 3) := by decide +kernel
theorem dAr_copyOf3_17 : decode cAr_copyOf3 17 = .ok (.iload_n 1, 1) := by decide +kernel
theorem dAr_copyOf3_18 : decode cAr_copyOf3 18 = .ok (.invokestatic 95, 3) := by decide +kernel
theorem dAr_copyOf3_21 : decode cAr_copyOf3 21 = .ok (.checkcast 110, 3) := by decide +kernel
theorem dAr_copyOf3_24 : decode cAr_copyOf3 24 = .ok (.astore_n 3, 1) := by decide +kernel
theorem dAr_copyOf3_25 : decode cAr_copyOf3 25 = .ok (.aload_n 0, 1) := by decide +kernel
theorem dAr_copyOf3_26 : decode cAr_copyOf3 26 = .ok (.iconst 0, 1) := by decide +kernel
theorem dAr_copyOf3_27 : decode cAr_copyOf3 27 = .ok (.aload_n 3, 1) := by decide +kernel
theorem dAr_copyOf3_28 : decode cAr_copyOf3 28 = .ok (.iconst 0, 1) := by decide +kernel
theorem dAr_copyOf3_29 : decode cAr_copyOf3 29 = .ok (.aload_n 0, 1) := by decide +kernel
theorem dAr_copyOf3_30 : decode cAr_copyOf3 30 = .ok (.arraylength, 1) := by decide +kernel
theorem dAr_copyOf3_31 : decode cAr_copyOf3 31 = .ok (.iload_n 1, 1) := by decide +kernel
theorem dAr_copyOf3_32 : decode cAr_copyOf3 32 = .ok (.invokestatic 304, 3) := by decide +kernel
theorem dAr_copyOf3_35 : decode cAr_copyOf3 35 = .ok (.invokestatic 150, 3) := by decide +kernel
theorem dAr_copyOf3_38 : decode cAr_copyOf3 38 = .ok (.aload_n 3, 1) := by decide +kernel
theorem dAr_copyOf3_39 : decode cAr_copyOf3 39 = .ok (.areturn, 1) := by decide +kernel
theorem dAr_copyOf_0 : decode cAr_copyOf 0 = .ok (.aload_n 0, 1) := by decide +kernel
theorem dAr_copyOf_1 : decode cAr_copyOf 1 = .ok (.iload_n 1, 1) := by decide +kernel
theorem dAr_copyOf_2 : decode cAr_copyOf 2 = .ok (.aload_n 0, 1) := by decide +kernel
theorem dAr_copyOf_3 : decode cAr_copyOf 3 = .ok (.invokevirtual 86, 3) := by decide +kernel
theorem dAr_copyOf_6 : decode cAr_copyOf 6 = .ok (.invokestatic 300, 3) := by decide +kernel
theorem dAr_copyOf_9 : decode cAr_copyOf 9 = .ok (.areturn, 1) := by decide +kernel
theorem dAL_growb_0 : decode cAL_growb 0 = .ok (.aload_n 0, 1) := by decide +kernel
theorem dAL_growb_1 : decode cAL_growb 1 = .ok (.getfield 9, 3) := by decide +kernel
theorem dAL_growb_4 : decode cAL_growb 4 = .ok (.arraylength, 1) := by decide +kernel
theorem dAL_growb_5 : decode cAL_growb 5 = .ok (.istore_n 2, 1) := by decide +kernel
theorem dAL_growb_6 : decode cAL_growb 6 = .ok (.iload_n 2, 1) := by decide +kernel
theorem dAL_growb_7 : decode cAL_growb 7 = .ok (.ifCond .gt 13, 3) := by decide +kernel
theorem dAL_growb_10 : decode cAL_growb 10 = .ok (.aload_n 0, 1) := by decide +kernel
theorem dAL_growb_11 : decode cAL_growb 11 = .ok (.getfield 9, 3) := by decide +kernel
theorem dAL_growb_14 : decode cAL_growb 14 = .ok (.getstatic 39, 3) := by decide +kernel
theorem dAL_growb_17 : decode cAL_growb 17 = .ok (.if_acmp .eq 28, 3) := by decide +kernel
theorem dAL_growb_20 : decode cAL_growb 20 = .ok (.iload_n 2, 1) := by decide +kernel
theorem dAL_growb_21 : decode cAL_growb 21 = .ok (.iload_n 1, 1) := by decide +kernel
theorem dAL_growb_22 : decode cAL_growb 22 = .ok (.iload_n 2, 1) := by decide +kernel
theorem dAL_growb_23 : decode cAL_growb 23 = .ok (.isub, 1) := by decide +kernel
theorem dAL_growb_24 : decode cAL_growb 24 = .ok (.iload_n 2, 1) := by decide +kernel
theorem dAL_growb_25 : decode cAL_growb 25 = .ok (.iconst 1, 1) := by decide +kernel
theorem dAL_growb_26 : decode cAL_growb 26 = .ok (.ishr, 1) := by decide +kernel
theorem dAL_growb_27 : decode cAL_growb 27 = .ok (.invokestatic 73, 3) := by decide +kernel
theorem dAL_growb_30 : decode cAL_growb 30 = .ok (.istore_n 3, 1) := by decide +kernel
theorem dAL_growb_31 : decode cAL_growb 31 = .ok (.aload_n 0, 1) := by decide +kernel
theorem dAL_growb_32 : decode cAL_growb 32 = .ok (.aload_n 0, 1) := by decide +kernel
theorem dAL_growb_33 : decode cAL_growb 33 = .ok (.getfield 9, 3) := by decide +kernel
theorem dAL_growb_36 : decode cAL_growb 36 = .ok (.iload_n 3, 1) := by decide +kernel
theorem dAL_growb_37 : decode cAL_growb 37 = .ok (.invokestatic 66, 3) := by decide +kernel
theorem dAL_growb_40 : decode cAL_growb 40 = .ok (.dup_x1, 1) := by decide +kernel
theorem dAL_growb_41 : decode cAL_growb 41 = .ok (.putfield 9, 3) := by decide +kernel
theorem dAL_growb_44 : decode cAL_growb 44 = .ok (.areturn, 1) := by decide +kernel
theorem dAL_growb_45 : decode cAL_growb 45 = .ok (.aload_n 0, 1) := by decide +kernel
theorem dAL_growb_46 : decode cAL_growb 46 = .ok (.bipush 10, 2) := by decide +kernel
theorem dAL_growb_48 : decode cAL_growb 48 = .ok (.iload_n 1, 1) := by decide +kernel
theorem dAL_growb_49 : decode cAL_growb 49 = .ok (.invokestatic 79, 3) := by decide +kernel
theorem dAL_growb_52 : decode cAL_growb 52 = .ok (.anewarray 7, 3) := by decide +kernel
theorem dAL_growb_55 : decode cAL_growb 55 = .ok (.dup_x1, 1) := by decide +kernel
theorem dAL_growb_56 : decode cAL_growb 56 = .ok (.putfield 9, 3) := by decide +kernel
theorem dAL_growb_59 : decode cAL_growb 59 = .ok (.areturn, 1) := by decide +kernel
theorem dAL_grow_0 : decode cAL_grow 0 = .ok (.aload_n 0, 1) := by decide +kernel
theorem dAL_grow_1 : decode cAL_grow 1 = .ok (.aload_n 0, 1) := by decide +kernel
theorem dAL_grow_2 : decode cAL_grow 2 = .ok (.getfield 48, 3) := by decide +kernel
theorem dAL_grow_5 : decode cAL_grow 5 = .ok (.iconst 1, 1) := by decide +kernel
theorem dAL_grow_6 : decode cAL_grow 6 = .ok (.iadd, 1) := by decide +kernel
theorem dAL_grow_7 : decode cAL_grow 7 = .ok (.invokevirtual 69, 3) := by decide +kernel
theorem dAL_grow_10 : decode cAL_grow 10 = .ok (.areturn, 1) := by decide +kernel
