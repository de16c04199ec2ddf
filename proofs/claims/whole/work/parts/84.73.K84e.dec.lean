theorem dL_residual_0 : decode cL_residual 0 = .ok (.aload_n 3, 1) := by decide +kernel
theorem dL_residual_1 : decode cL_residual 1 = .ok (.iconst 0, 1) := by decide +kernel
theorem dL_residual_2 : decode cL_residual 2 = .ok (.aload_n 0, 1) := by decide +kernel
theorem dL_residual_3 : decode cL_residual 3 = .ok (.iload_n 1, 1) := by decide +kernel
theorem dL_residual_4 : decode cL_residual 4 = .ok (.iload_n 2, 1) := by decide +kernel
theorem dL_residual_5 : decode cL_residual 5 = .ok (.invokevirtual 72, 3) := by decide +kernel
theorem dL_residual_8 : decode cL_residual 8 = .ok (.i2l, 1) := by decide +kernel
theorem dL_residual_9 : decode cL_residual 9 = .ok (.lastore, 1) := by decide +kernel
theorem dL_residual_10 : decode cL_residual 10 = .ok (.goto 7, 3) := by decide +kernel
theorem dL_residual_13 : decode cL_residual 13 = .ok (.astore 4, 2) := by decide +kernel
theorem dL_residual_15 : decode cL_residual 15 = .ok (.iconst 1, 1) := by decide +kernel
theorem dL_residual_16 : decode cL_residual 16 = .ok (.ireturn, 1) := by decide +kernel
theorem dL_residual_17 : decode cL_residual 17 = .ok (.iconst 0, 1) := by decide +kernel
theorem dL_residual_18 : decode cL_residual 18 = .ok (.ireturn, 1) := by decide +kernel
theorem dL_ask_0 : decode cL_ask 0 = .ok (.aload_n 3, 1) := by decide +kernel
theorem dL_ask_1 : decode cL_ask 1 = .ok (.iconst 0, 1) := by decide +kernel
theorem dL_ask_2 : decode cL_ask 2 = .ok (.aload_n 0, 1) := by decide +kernel
theorem dL_ask_3 : decode cL_ask 3 = .ok (.iload_n 1, 1) := by decide +kernel
theorem dL_ask_4 : decode cL_ask 4 = .ok (.iload_n 2, 1) := by decide +kernel
theorem dL_ask_5 : decode cL_ask 5 = .ok (.invokevirtual 75, 3) := by decide +kernel
theorem dL_ask_8 : decode cL_ask 8 = .ok (.i2l, 1) := by decide +kernel
theorem dL_ask_9 : decode cL_ask 9 = .ok (.lastore, 1) := by decide +kernel
theorem dL_ask_10 : decode cL_ask 10 = .ok (.goto 7, 3) := by decide +kernel
theorem dL_ask_13 : decode cL_ask 13 = .ok (.astore 4, 2) := by decide +kernel
theorem dL_ask_15 : decode cL_ask 15 = .ok (.iconst 1, 1) := by decide +kernel
theorem dL_ask_16 : decode cL_ask 16 = .ok (.ireturn, 1) := by decide +kernel
theorem dL_ask_17 : decode cL_ask 17 = .ok (.iconst 0, 1) := by decide +kernel
theorem dL_ask_18 : decode cL_ask 18 = .ok (.ireturn, 1) := by decide +kernel
theorem dL_predict_0 : decode cL_predict 0 = .ok (.aload_n 2, 1) := by decide +kernel
theorem dL_predict_1 : decode cL_predict 1 = .ok (.iconst 0, 1) := by decide +kernel
theorem dL_predict_2 : decode cL_predict 2 = .ok (.aload_n 0, 1) := by decide +kernel
theorem dL_predict_3 : decode cL_predict 3 = .ok (.iload_n 1, 1) := by decide +kernel
theorem dL_predict_4 : decode cL_predict 4 = .ok (.invokevirtual 78, 3) := by decide +kernel
theorem dL_predict_7 : decode cL_predict 7 = .ok (.i2l, 1) := by decide +kernel
theorem dL_predict_8 : decode cL_predict 8 = .ok (.lastore, 1) := by decide +kernel
theorem dL_predict_9 : decode cL_predict 9 = .ok (.goto 6, 3) := by decide +kernel
theorem dL_predict_12 : decode cL_predict 12 = .ok (.astore_n 3, 1) := by decide +kernel
theorem dL_predict_13 : decode cL_predict 13 = .ok (.iconst 1, 1) := by decide +kernel
theorem dL_predict_14 : decode cL_predict 14 = .ok (.ireturn, 1) := by decide +kernel
theorem dL_predict_15 : decode cL_predict 15 = .ok (.iconst 0, 1) := by decide +kernel
theorem dL_predict_16 : decode cL_predict 16 = .ok (.ireturn, 1) := by decide +kernel
theorem dL_error_0 : decode cL_error 0 = .ok (.aload 4, 2) := by decide +kernel
theorem dL_error_2 : decode cL_error 2 = .ok (.iconst 0, 1) := by decide +kernel
theorem dL_error_3 : decode cL_error 3 = .ok (.aload_n 0, 1) := by decide +kernel
theorem dL_error_4 : decode cL_error 4 = .ok (.lload_n 1, 1) := by decide +kernel
theorem dL_error_5 : decode cL_error 5 = .ok (.iload_n 3, 1) := by decide +kernel
theorem dL_error_6 : decode cL_error 6 = .ok (.invokevirtual 81, 3) := by decide +kernel
theorem dL_error_9 : decode cL_error 9 = .ok (.i2l, 1) := by decide +kernel
theorem dL_error_10 : decode cL_error 10 = .ok (.lastore, 1) := by decide +kernel
theorem dL_error_11 : decode cL_error 11 = .ok (.goto 7, 3) := by decide +kernel
theorem dL_error_14 : decode cL_error 14 = .ok (.astore 5, 2) := by decide +kernel
theorem dL_error_16 : decode cL_error 16 = .ok (.iconst 1, 1) := by decide +kernel
theorem dL_error_17 : decode cL_error 17 = .ok (.ireturn, 1) := by decide +kernel
theorem dL_error_18 : decode cL_error 18 = .ok (.iconst 0, 1) := by decide +kernel
theorem dL_error_19 : decode cL_error 19 = .ok (.ireturn, 1) := by decide +kernel
