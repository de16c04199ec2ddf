theorem dR_commonBits_0 : decode cR_commonBits 0 = .ok (.aload_n 0, 1) := by decide +kernel
theorem dR_commonBits_1 : decode cR_commonBits 1 = .ok (.aload_n 0, 1) := by decide +kernel
theorem dR_commonBits_2 : decode cR_commonBits 2 = .ok (.getfield 192, 3) := by decide +kernel
theorem dR_commonBits_5 : decode cR_commonBits 5 = .ok (.invokevirtual 195, 3) := by decide +kernel
theorem dR_commonBits_8 : decode cR_commonBits 8 = .ok (.aload_n 0, 1) := by decide +kernel
theorem dR_commonBits_9 : decode cR_commonBits 9 = .ok (.aload_n 0, 1) := by decide +kernel
theorem dR_commonBits_10 : decode cR_commonBits 10 = .ok (.getfield 67, 3) := by decide +kernel
theorem dR_commonBits_13 : decode cR_commonBits 13 = .ok (.aload_n 0, 1) := by decide +kernel
theorem dR_commonBits_14 : decode cR_commonBits 14 = .ok (.getfield 192, 3) := by decide +kernel
theorem dR_commonBits_17 : decode cR_commonBits 17 = .ok (.invokevirtual 265, 3) := by decide +kernel
theorem dR_commonBits_20 : decode cR_commonBits 20 = .ok (.aload_n 0, 1) := by decide +kernel
theorem dR_commonBits_21 : decode cR_commonBits 21 = .ok (.getfield 27, 3) := by decide +kernel
theorem dR_commonBits_24 : decode cR_commonBits 24 = .ok (.aload_n 0, 1) := by decide +kernel
theorem dR_commonBits_25 : decode cR_commonBits 25 = .ok (.getfield 12, 3) := by decide +kernel
theorem dR_commonBits_28 : decode cR_commonBits 28 = .ok (.getfield 94, 3) := by decide +kernel
theorem dR_commonBits_31 : decode cR_commonBits 31 = .ok (.aload_n 0, 1) := by decide +kernel
theorem dR_commonBits_32 : decode cR_commonBits 32 = .ok (.getfield 67, 3) := by decide +kernel
theorem dR_commonBits_35 : decode cR_commonBits 35 = .ok (.invokestatic 361, 3) := by decide +kernel
theorem dR_commonBits_38 : decode cR_commonBits 38 = .ok (.aload_n 0, 1) := by decide +kernel
theorem dR_commonBits_39 : decode cR_commonBits 39 = .ok (.getfield 67, 3) := by decide +kernel
theorem dR_commonBits_42 : decode cR_commonBits 42 = .ok (.invokevirtual 365, 3) := by decide +kernel
theorem dR_commonBits_45 : decode cR_commonBits 45 = .ok (.ireturn, 1) := by decide +kernel
theorem dR_residual_0 : decode cR_residual 0 = .ok (.aload_n 0, 1) := by decide +kernel
theorem dR_residual_1 : decode cR_residual 1 = .ok (.getfield 12, 3) := by decide +kernel
theorem dR_residual_4 : decode cR_residual 4 = .ok (.iload_n 1, 1) := by decide +kernel
theorem dR_residual_5 : decode cR_residual 5 = .ok (.invokevirtual 105, 3) := by decide +kernel
theorem dR_residual_8 : decode cR_residual 8 = .ok (.ifCond .eq 19, 3) := by decide +kernel
theorem dR_residual_11 : decode cR_residual 11 = .ok (.iload_n 2, 1) := by decide +kernel
theorem dR_residual_12 : decode cR_residual 12 = .ok (.iconst 0, 1) := by decide +kernel
theorem dR_residual_13 : decode cR_residual 13 = .ok (.aload_n 0, 1) := by decide +kernel
theorem dR_residual_14 : decode cR_residual 14 = .ok (.getfield 192, 3) := by decide +kernel
theorem dR_residual_17 : decode cR_residual 17 = .ok (.invokestatic 82, 3) := by decide +kernel
theorem dR_residual_20 : decode cR_residual 20 = .ok (.ifCond .eq 7, 3) := by decide +kernel
theorem dR_residual_23 : decode cR_residual 23 = .ok (.iconst 1, 1) := by decide +kernel
theorem dR_residual_24 : decode cR_residual 24 = .ok (.goto 4, 3) := by decide +kernel
theorem dR_residual_27 : decode cR_residual 27 = .ok (.iconst 0, 1) := by decide +kernel
theorem dR_residual_28 : decode cR_residual 28 = .ok (.invokestatic 86, 3) := by decide +kernel
theorem dR_residual_31 : decode cR_residual 31 = .ok (.aload_n 0, 1) := by decide +kernel
theorem dR_residual_32 : decode cR_residual 32 = .ok (.iload_n 1, 1) := by decide +kernel
theorem dR_residual_33 : decode cR_residual 33 = .ok (.iload_n 2, 1) := by decide +kernel
theorem dR_residual_34 : decode cR_residual 34 = .ok (.aload_n 0, 1) := by decide +kernel
theorem dR_residual_35 : decode cR_residual 35 = .ok (.getfield 50, 3) := by decide +kernel
theorem dR_residual_38 : decode cR_residual 38 = .ok (.getfield 269, 3) := by decide +kernel
theorem dR_residual_41 : decode cR_residual 41 = .ok (.iconst 0, 1) := by decide +kernel
theorem dR_residual_42 : decode cR_residual 42 = .ok (.aaload, 1) := by decide +kernel
theorem dR_residual_43 : decode cR_residual 43 = .ok (.invokevirtual 293, 3) := by decide +kernel
theorem dR_residual_46 : decode cR_residual 46 = .ok (.aload_n 0, 1) := by decide +kernel
theorem dR_residual_47 : decode cR_residual 47 = .ok (.aload_n 0, 1) := by decide +kernel
theorem dR_residual_48 : decode cR_residual 48 = .ok (.getfield 50, 3) := by decide +kernel
theorem dR_residual_51 : decode cR_residual 51 = .ok (.getfield 262, 3) := by decide +kernel
theorem dR_residual_54 : decode cR_residual 54 = .ok (.iload_n 2, 1) := by decide +kernel
theorem dR_residual_55 : decode cR_residual 55 = .ok (.invokevirtual 265, 3) := by decide +kernel
theorem dR_residual_58 : decode cR_residual 58 = .ok (.aload_n 0, 1) := by decide +kernel
theorem dR_residual_59 : decode cR_residual 59 = .ok (.getfield 50, 3) := by decide +kernel
theorem dR_residual_62 : decode cR_residual 62 = .ok (.invokevirtual 290, 3) := by decide +kernel
theorem dR_residual_65 : decode cR_residual 65 = .ok (.ireturn, 1) := by decide +kernel
theorem dR_predict_0 : decode cR_predict 0 = .ok (.iload_n 1, 1) := by decide +kernel
theorem dR_predict_1 : decode cR_predict 1 = .ok (.iconst 0, 1) := by decide +kernel
theorem dR_predict_2 : decode cR_predict 2 = .ok (.aload_n 0, 1) := by decide +kernel
theorem dR_predict_3 : decode cR_predict 3 = .ok (.getfield 192, 3) := by decide +kernel
theorem dR_predict_6 : decode cR_predict 6 = .ok (.invokestatic 82, 3) := by decide +kernel
theorem dR_predict_9 : decode cR_predict 9 = .ok (.invokestatic 86, 3) := by decide +kernel
theorem dR_predict_12 : decode cR_predict 12 = .ok (.aload_n 0, 1) := by decide +kernel
theorem dR_predict_13 : decode cR_predict 13 = .ok (.bipush 48, 2) := by decide +kernel
theorem dR_predict_15 : decode cR_predict 15 = .ok (.iload_n 1, 1) := by decide +kernel
theorem dR_predict_16 : decode cR_predict 16 = .ok (.aload_n 0, 1) := by decide +kernel
theorem dR_predict_17 : decode cR_predict 17 = .ok (.getfield 50, 3) := by decide +kernel
theorem dR_predict_20 : decode cR_predict 20 = .ok (.getfield 269, 3) := by decide +kernel
theorem dR_predict_23 : decode cR_predict 23 = .ok (.iconst 0, 1) := by decide +kernel
theorem dR_predict_24 : decode cR_predict 24 = .ok (.aaload, 1) := by decide +kernel
theorem dR_predict_25 : decode cR_predict 25 = .ok (.invokevirtual 293, 3) := by decide +kernel
theorem dR_predict_28 : decode cR_predict 28 = .ok (.aload_n 0, 1) := by decide +kernel
theorem dR_predict_29 : decode cR_predict 29 = .ok (.getfield 50, 3) := by decide +kernel
theorem dR_predict_32 : decode cR_predict 32 = .ok (.getfield 269, 3) := by decide +kernel
theorem dR_predict_35 : decode cR_predict 35 = .ok (.iconst 0, 1) := by decide +kernel
theorem dR_predict_36 : decode cR_predict 36 = .ok (.aaload, 1) := by decide +kernel
theorem dR_predict_37 : decode cR_predict 37 = .ok (.invokevirtual 300, 3) := by decide +kernel
theorem dR_predict_40 : decode cR_predict 40 = .ok (.aload_n 0, 1) := by decide +kernel
theorem dR_predict_41 : decode cR_predict 41 = .ok (.aload_n 0, 1) := by decide +kernel
theorem dR_predict_42 : decode cR_predict 42 = .ok (.getfield 50, 3) := by decide +kernel
theorem dR_predict_45 : decode cR_predict 45 = .ok (.getfield 262, 3) := by decide +kernel
theorem dR_predict_48 : decode cR_predict 48 = .ok (.iload_n 1, 1) := by decide +kernel
theorem dR_predict_49 : decode cR_predict 49 = .ok (.invokevirtual 265, 3) := by decide +kernel
theorem dR_predict_52 : decode cR_predict 52 = .ok (.aload_n 0, 1) := by decide +kernel
theorem dR_predict_53 : decode cR_predict 53 = .ok (.getfield 50, 3) := by decide +kernel
theorem dR_predict_56 : decode cR_predict 56 = .ok (.invokevirtual 290, 3) := by decide +kernel
theorem dR_predict_59 : decode cR_predict 59 = .ok (.ireturn, 1) := by decide +kernel
