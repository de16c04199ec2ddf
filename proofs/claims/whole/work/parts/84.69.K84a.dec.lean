theorem dL_begin_0 : decode cL_begin 0 = .ok (.aload_n 0, 1) := by decide +kernel
theorem dL_begin_1 : decode cL_begin 1 = .ok (.iload_n 1, 1) := by decide +kernel
theorem dL_begin_2 : decode cL_begin 2 = .ok (.invokevirtual 7, 3) := by decide +kernel
theorem dL_begin_5 : decode cL_begin 5 = .ok (.goto 6, 3) := by decide +kernel
theorem dL_begin_8 : decode cL_begin 8 = .ok (.astore_n 2, 1) := by decide +kernel
theorem dL_begin_9 : decode cL_begin 9 = .ok (.iconst 1, 1) := by decide +kernel
theorem dL_begin_10 : decode cL_begin 10 = .ok (.ireturn, 1) := by decide +kernel
theorem dL_begin_11 : decode cL_begin 11 = .ok (.iconst 0, 1) := by decide +kernel
theorem dL_begin_12 : decode cL_begin 12 = .ok (.ireturn, 1) := by decide +kernel
theorem dL_add_0 : decode cL_add 0 = .ok (.aload_n 2, 1) := by decide +kernel
theorem dL_add_1 : decode cL_add 1 = .ok (.iconst 0, 1) := by decide +kernel
theorem dL_add_2 : decode cL_add 2 = .ok (.aload_n 0, 1) := by decide +kernel
theorem dL_add_3 : decode cL_add 3 = .ok (.iload_n 1, 1) := by decide +kernel
theorem dL_add_4 : decode cL_add 4 = .ok (.invokevirtual 15, 3) := by decide +kernel
theorem dL_add_7 : decode cL_add 7 = .ok (.i2l, 1) := by decide +kernel
theorem dL_add_8 : decode cL_add 8 = .ok (.lastore, 1) := by decide +kernel
theorem dL_add_9 : decode cL_add 9 = .ok (.goto 9, 3) := by decide +kernel
theorem dL_add_12 : decode cL_add 12 = .ok (.astore_n 3, 1) := by decide +kernel
theorem dL_add_13 : decode cL_add 13 = .ok (.iconst 1, 1) := by decide +kernel
theorem dL_add_14 : decode cL_add 14 = .ok (.ireturn, 1) := by decide +kernel
theorem dL_add_15 : decode cL_add 15 = .ok (.astore_n 3, 1) := by decide +kernel
theorem dL_add_16 : decode cL_add 16 = .ok (.iconst 2, 1) := by decide +kernel
theorem dL_add_17 : decode cL_add 17 = .ok (.ireturn, 1) := by decide +kernel
theorem dL_add_18 : decode cL_add 18 = .ok (.iconst 0, 1) := by decide +kernel
theorem dL_add_19 : decode cL_add 19 = .ok (.ireturn, 1) := by decide +kernel
theorem dL_put_0 : decode cL_put 0 = .ok (.aload 4, 2) := by decide +kernel
theorem dL_put_2 : decode cL_put 2 = .ok (.iconst 0, 1) := by decide +kernel
theorem dL_put_3 : decode cL_put 3 = .ok (.aload_n 0, 1) := by decide +kernel
theorem dL_put_4 : decode cL_put 4 = .ok (.iload_n 1, 1) := by decide +kernel
theorem dL_put_5 : decode cL_put 5 = .ok (.iload_n 2, 1) := by decide +kernel
theorem dL_put_6 : decode cL_put 6 = .ok (.iload_n 3, 1) := by decide +kernel
theorem dL_put_7 : decode cL_put 7 = .ok (.invokevirtual 21, 3) := by decide +kernel
theorem dL_put_10 : decode cL_put 10 = .ok (.i2l, 1) := by decide +kernel
theorem dL_put_11 : decode cL_put 11 = .ok (.lastore, 1) := by decide +kernel
theorem dL_put_12 : decode cL_put 12 = .ok (.goto 7, 3) := by decide +kernel
theorem dL_put_15 : decode cL_put 15 = .ok (.astore 5, 2) := by decide +kernel
theorem dL_put_17 : decode cL_put 17 = .ok (.iconst 1, 1) := by decide +kernel
theorem dL_put_18 : decode cL_put 18 = .ok (.ireturn, 1) := by decide +kernel
theorem dL_put_19 : decode cL_put 19 = .ok (.iconst 0, 1) := by decide +kernel
theorem dL_put_20 : decode cL_put 20 = .ok (.ireturn, 1) := by decide +kernel
theorem dL_target_0 : decode cL_target 0 = .ok (.aload_n 3, 1) := by decide +kernel
theorem dL_target_1 : decode cL_target 1 = .ok (.iconst 0, 1) := by decide +kernel
theorem dL_target_2 : decode cL_target 2 = .ok (.aload_n 0, 1) := by decide +kernel
theorem dL_target_3 : decode cL_target 3 = .ok (.iload_n 1, 1) := by decide +kernel
theorem dL_target_4 : decode cL_target 4 = .ok (.iload_n 2, 1) := by decide +kernel
theorem dL_target_5 : decode cL_target 5 = .ok (.invokevirtual 25, 3) := by decide +kernel
theorem dL_target_8 : decode cL_target 8 = .ok (.i2l, 1) := by decide +kernel
theorem dL_target_9 : decode cL_target 9 = .ok (.lastore, 1) := by decide +kernel
theorem dL_target_10 : decode cL_target 10 = .ok (.goto 7, 3) := by decide +kernel
theorem dL_target_13 : decode cL_target 13 = .ok (.astore 4, 2) := by decide +kernel
theorem dL_target_15 : decode cL_target 15 = .ok (.iconst 1, 1) := by decide +kernel
theorem dL_target_16 : decode cL_target 16 = .ok (.ireturn, 1) := by decide +kernel
theorem dL_target_17 : decode cL_target 17 = .ok (.iconst 0, 1) := by decide +kernel
theorem dL_target_18 : decode cL_target 18 = .ok (.ireturn, 1) := by decide +kernel
