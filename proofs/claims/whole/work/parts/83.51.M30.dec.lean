theorem dM_tell_0 : decode cM_tell 0 = .ok (.aload_n 0, 1) := by decide +kernel
theorem dM_tell_1 : decode cM_tell 1 = .ok (.aload_n 0, 1) := by decide +kernel
theorem dM_tell_2 : decode cM_tell 2 = .ok (.iload_n 1, 1) := by decide +kernel
theorem dM_tell_3 : decode cM_tell 3 = .ok (.iload_n 2, 1) := by decide +kernel
theorem dM_tell_4 : decode cM_tell 4 = .ok (.invokevirtual 392, 3) := by decide +kernel
theorem dM_tell_7 : decode cM_tell 7 = .ok (.ifCond .eq 7, 3) := by decide +kernel
theorem dM_tell_10 : decode cM_tell 10 = .ok (.iconst 1, 1) := by decide +kernel
theorem dM_tell_11 : decode cM_tell 11 = .ok (.goto 4, 3) := by decide +kernel
theorem dM_tell_14 : decode cM_tell 14 = .ok (.iconst 0, 1) := by decide +kernel
theorem dM_tell_15 : decode cM_tell 15 = .ok (.invokevirtual 231, 3) := by decide +kernel
theorem dM_tell_18 : decode cM_tell 18 = .ok (.ifCond .eq 5, 3) := by decide +kernel
theorem dM_tell_21 : decode cM_tell 21 = .ok (.iconst 0, 1) := by decide +kernel
theorem dM_tell_22 : decode cM_tell 22 = .ok (.ireturn, 1) := by decide +kernel
theorem dM_tell_23 : decode cM_tell 23 = .ok (.aload_n 0, 1) := by decide +kernel
theorem dM_tell_24 : decode cM_tell 24 = .ok (.bipush 31, 2) := by decide +kernel
theorem dM_tell_26 : decode cM_tell 26 = .ok (.iload_n 1, 1) := by decide +kernel
theorem dM_tell_27 : decode cM_tell 27 = .ok (.imul, 1) := by decide +kernel
theorem dM_tell_28 : decode cM_tell 28 = .ok (.iload_n 2, 1) := by decide +kernel
theorem dM_tell_29 : decode cM_tell 29 = .ok (.iadd, 1) := by decide +kernel
theorem dM_tell_30 : decode cM_tell 30 = .ok (.invokevirtual 283, 3) := by decide +kernel
theorem dM_tell_33 : decode cM_tell 33 = .ok (.aload_n 0, 1) := by decide +kernel
theorem dM_tell_34 : decode cM_tell 34 = .ok (.aload_n 0, 1) := by decide +kernel
theorem dM_tell_35 : decode cM_tell 35 = .ok (.getfield 69, 3) := by decide +kernel
theorem dM_tell_38 : decode cM_tell 38 = .ok (.aload_n 0, 1) := by decide +kernel
theorem dM_tell_39 : decode cM_tell 39 = .ok (.getfield 102, 3) := by decide +kernel
theorem dM_tell_42 : decode cM_tell 42 = .ok (.invokevirtual 398, 3) := by decide +kernel
theorem dM_tell_45 : decode cM_tell 45 = .ok (.ireturn, 1) := by decide +kernel
theorem dM_residual_0 : decode cM_residual 0 = .ok (.aload_n 0, 1) := by decide +kernel
theorem dM_residual_1 : decode cM_residual 1 = .ok (.aload_n 0, 1) := by decide +kernel
theorem dM_residual_2 : decode cM_residual 2 = .ok (.iload_n 1, 1) := by decide +kernel
theorem dM_residual_3 : decode cM_residual 3 = .ok (.invokevirtual 240, 3) := by decide +kernel
theorem dM_residual_6 : decode cM_residual 6 = .ok (.ifCond .ne 15, 3) := by decide +kernel
theorem dM_residual_9 : decode cM_residual 9 = .ok (.iload_n 2, 1) := by decide +kernel
theorem dM_residual_10 : decode cM_residual 10 = .ok (.iconst 0, 1) := by decide +kernel
theorem dM_residual_11 : decode cM_residual 11 = .ok (.aload_n 0, 1) := by decide +kernel
theorem dM_residual_12 : decode cM_residual 12 = .ok (.getfield 196, 3) := by decide +kernel
theorem dM_residual_15 : decode cM_residual 15 = .ok (.invokestatic 227, 3) := by decide +kernel
theorem dM_residual_18 : decode cM_residual 18 = .ok (.ifCond .ne 7, 3) := by decide +kernel
theorem dM_residual_21 : decode cM_residual 21 = .ok (.iconst 1, 1) := by decide +kernel
theorem dM_residual_22 : decode cM_residual 22 = .ok (.goto 4, 3) := by decide +kernel
theorem dM_residual_25 : decode cM_residual 25 = .ok (.iconst 0, 1) := by decide +kernel
theorem dM_residual_26 : decode cM_residual 26 = .ok (.invokevirtual 231, 3) := by decide +kernel
theorem dM_residual_29 : decode cM_residual 29 = .ok (.ifCond .eq 5, 3) := by decide +kernel
theorem dM_residual_32 : decode cM_residual 32 = .ok (.iconst 0, 1) := by decide +kernel
theorem dM_residual_33 : decode cM_residual 33 = .ok (.ireturn, 1) := by decide +kernel
theorem dM_residual_34 : decode cM_residual 34 = .ok (.aload_n 0, 1) := by decide +kernel
theorem dM_residual_35 : decode cM_residual 35 = .ok (.iload_n 1, 1) := by decide +kernel
theorem dM_residual_36 : decode cM_residual 36 = .ok (.iload_n 2, 1) := by decide +kernel
theorem dM_residual_37 : decode cM_residual 37 = .ok (.iconst (-1), 1) := by decide +kernel
theorem dM_residual_38 : decode cM_residual 38 = .ok (.aload_n 0, 1) := by decide +kernel
theorem dM_residual_39 : decode cM_residual 39 = .ok (.getfield 13, 3) := by decide +kernel
theorem dM_residual_42 : decode cM_residual 42 = .ok (.iload_n 1, 1) := by decide +kernel
theorem dM_residual_43 : decode cM_residual 43 = .ok (.iaload, 1) := by decide +kernel
theorem dM_residual_44 : decode cM_residual 44 = .ok (.invokevirtual 290, 3) := by decide +kernel
theorem dM_residual_47 : decode cM_residual 47 = .ok (.aload_n 0, 1) := by decide +kernel
theorem dM_residual_48 : decode cM_residual 48 = .ok (.aload_n 0, 1) := by decide +kernel
theorem dM_residual_49 : decode cM_residual 49 = .ok (.getfield 66, 3) := by decide +kernel
theorem dM_residual_52 : decode cM_residual 52 = .ok (.aload_n 0, 1) := by decide +kernel
theorem dM_residual_53 : decode cM_residual 53 = .ok (.getfield 99, 3) := by decide +kernel
theorem dM_residual_56 : decode cM_residual 56 = .ok (.invokevirtual 398, 3) := by decide +kernel
theorem dM_residual_59 : decode cM_residual 59 = .ok (.ireturn, 1) := by decide +kernel
theorem dM_predict_0 : decode cM_predict 0 = .ok (.aload_n 0, 1) := by decide +kernel
theorem dM_predict_1 : decode cM_predict 1 = .ok (.iload_n 1, 1) := by decide +kernel
theorem dM_predict_2 : decode cM_predict 2 = .ok (.iconst 0, 1) := by decide +kernel
theorem dM_predict_3 : decode cM_predict 3 = .ok (.aload_n 0, 1) := by decide +kernel
theorem dM_predict_4 : decode cM_predict 4 = .ok (.getfield 196, 3) := by decide +kernel
theorem dM_predict_7 : decode cM_predict 7 = .ok (.invokestatic 227, 3) := by decide +kernel
theorem dM_predict_10 : decode cM_predict 10 = .ok (.ifCond .eq 7, 3) := by decide +kernel
theorem dM_predict_13 : decode cM_predict 13 = .ok (.iconst 0, 1) := by decide +kernel
theorem dM_predict_14 : decode cM_predict 14 = .ok (.goto 4, 3) := by decide +kernel
theorem dM_predict_17 : decode cM_predict 17 = .ok (.iconst 1, 1) := by decide +kernel
theorem dM_predict_18 : decode cM_predict 18 = .ok (.invokevirtual 231, 3) := by decide +kernel
theorem dM_predict_21 : decode cM_predict 21 = .ok (.ifCond .eq 5, 3) := by decide +kernel
theorem dM_predict_24 : decode cM_predict 24 = .ok (.iconst 0, 1) := by decide +kernel
theorem dM_predict_25 : decode cM_predict 25 = .ok (.ireturn, 1) := by decide +kernel
theorem dM_predict_26 : decode cM_predict 26 = .ok (.aload_n 0, 1) := by decide +kernel
theorem dM_predict_27 : decode cM_predict 27 = .ok (.iconst (-1), 1) := by decide +kernel
theorem dM_predict_28 : decode cM_predict 28 = .ok (.iload_n 1, 1) := by decide +kernel
theorem dM_predict_29 : decode cM_predict 29 = .ok (.iconst 1, 1) := by decide +kernel
theorem dM_predict_30 : decode cM_predict 30 = .ok (.iconst 0, 1) := by decide +kernel
theorem dM_predict_31 : decode cM_predict 31 = .ok (.invokevirtual 290, 3) := by decide +kernel
theorem dM_predict_34 : decode cM_predict 34 = .ok (.aload_n 0, 1) := by decide +kernel
theorem dM_predict_35 : decode cM_predict 35 = .ok (.aload_n 0, 1) := by decide +kernel
theorem dM_predict_36 : decode cM_predict 36 = .ok (.getfield 66, 3) := by decide +kernel
theorem dM_predict_39 : decode cM_predict 39 = .ok (.aload_n 0, 1) := by decide +kernel
theorem dM_predict_40 : decode cM_predict 40 = .ok (.getfield 99, 3) := by decide +kernel
theorem dM_predict_43 : decode cM_predict 43 = .ok (.invokevirtual 398, 3) := by decide +kernel
theorem dM_predict_46 : decode cM_predict 46 = .ok (.ireturn, 1) := by decide +kernel
theorem dM_countb_0 : decode cM_countb 0 = .ok (.aload_n 0, 1) := by decide +kernel
theorem dM_countb_1 : decode cM_countb 1 = .ok (.iload_n 1, 1) := by decide +kernel
theorem dM_countb_2 : decode cM_countb 2 = .ok (.iconst 0, 1) := by decide +kernel
theorem dM_countb_3 : decode cM_countb 3 = .ok (.iconst 4, 1) := by decide +kernel
theorem dM_countb_4 : decode cM_countb 4 = .ok (.invokestatic 227, 3) := by decide +kernel
theorem dM_countb_7 : decode cM_countb 7 = .ok (.ifCond .eq 7, 3) := by decide +kernel
theorem dM_countb_10 : decode cM_countb 10 = .ok (.iconst 0, 1) := by decide +kernel
theorem dM_countb_11 : decode cM_countb 11 = .ok (.goto 4, 3) := by decide +kernel
theorem dM_countb_14 : decode cM_countb 14 = .ok (.iconst 1, 1) := by decide +kernel
theorem dM_countb_15 : decode cM_countb 15 = .ok (.invokevirtual 231, 3) := by decide +kernel
theorem dM_countb_18 : decode cM_countb 18 = .ok (.ifCond .eq 5, 3) := by decide +kernel
theorem dM_countb_21 : decode cM_countb 21 = .ok (.iconst 0, 1) := by decide +kernel
theorem dM_countb_22 : decode cM_countb 22 = .ok (.ireturn, 1) := by decide +kernel
theorem dM_countb_23 : decode cM_countb 23 = .ok (.iload_n 1, 1) := by decide +kernel
theorem dM_countb_24 : decode cM_countb 24 = .ok (.tableswitch 52 0 3 #[32, 37, 42, 47], 32) := by decide +kernel
theorem dM_countb_56 : decode cM_countb 56 = .ok (.aload_n 0, 1) := by decide +kernel
theorem dM_countb_57 : decode cM_countb 57 = .ok (.getfield 190, 3) := by decide +kernel
theorem dM_countb_60 : decode cM_countb 60 = .ok (.ireturn, 1) := by decide +kernel
theorem dM_countb_61 : decode cM_countb 61 = .ok (.aload_n 0, 1) := by decide +kernel
theorem dM_countb_62 : decode cM_countb 62 = .ok (.getfield 193, 3) := by decide +kernel
theorem dM_countb_65 : decode cM_countb 65 = .ok (.ireturn, 1) := by decide +kernel
theorem dM_countb_66 : decode cM_countb 66 = .ok (.aload_n 0, 1) := by decide +kernel
theorem dM_countb_67 : decode cM_countb 67 = .ok (.getfield 196, 3) := by decide +kernel
theorem dM_countb_70 : decode cM_countb 70 = .ok (.ireturn, 1) := by decide +kernel
theorem dM_countb_71 : decode cM_countb 71 = .ok (.aload_n 0, 1) := by decide +kernel
theorem dM_countb_72 : decode cM_countb 72 = .ok (.invokevirtual 307, 3) := by decide +kernel
theorem dM_countb_75 : decode cM_countb 75 = .ok (.ireturn, 1) := by decide +kernel
theorem dM_countb_76 : decode cM_countb 76 = .ok (.aload_n 0, 1) := by decide +kernel
theorem dM_countb_77 : decode cM_countb 77 = .ok (.getfield 199, 3) := by decide +kernel
theorem dM_countb_80 : decode cM_countb 80 = .ok (.ireturn, 1) := by decide +kernel
