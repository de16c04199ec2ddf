theorem dR_put_0 : decode cR_put 0 = .ok (.aload_n 0, 1) := by decide +kernel
theorem dR_put_1 : decode cR_put 1 = .ok (.getfield 12, 3) := by decide +kernel
theorem dR_put_4 : decode cR_put 4 = .ok (.iload_n 1, 1) := by decide +kernel
theorem dR_put_5 : decode cR_put 5 = .ok (.invokevirtual 105, 3) := by decide +kernel
theorem dR_put_8 : decode cR_put 8 = .ok (.ifCond .eq 18, 3) := by decide +kernel
theorem dR_put_11 : decode cR_put 11 = .ok (.aload_n 0, 1) := by decide +kernel
theorem dR_put_12 : decode cR_put 12 = .ok (.getfield 12, 3) := by decide +kernel
theorem dR_put_15 : decode cR_put 15 = .ok (.iload_n 2, 1) := by decide +kernel
theorem dR_put_16 : decode cR_put 16 = .ok (.invokevirtual 108, 3) := by decide +kernel
theorem dR_put_19 : decode cR_put 19 = .ok (.ifCond .eq 7, 3) := by decide +kernel
theorem dR_put_22 : decode cR_put 22 = .ok (.iconst 1, 1) := by decide +kernel
theorem dR_put_23 : decode cR_put 23 = .ok (.goto 4, 3) := by decide +kernel
theorem dR_put_26 : decode cR_put 26 = .ok (.iconst 0, 1) := by decide +kernel
theorem dR_put_27 : decode cR_put 27 = .ok (.invokestatic 86, 3) := by decide +kernel
theorem dR_put_30 : decode cR_put 30 = .ok (.aload_n 0, 1) := by decide +kernel
theorem dR_put_31 : decode cR_put 31 = .ok (.getfield 12, 3) := by decide +kernel
theorem dR_put_34 : decode cR_put 34 = .ok (.getfield 111, 3) := by decide +kernel
theorem dR_put_37 : decode cR_put 37 = .ok (.iload_n 2, 1) := by decide +kernel
theorem dR_put_38 : decode cR_put 38 = .ok (.aaload, 1) := by decide +kernel
theorem dR_put_39 : decode cR_put 39 = .ok (.iload_n 3, 1) := by decide +kernel
theorem dR_put_40 : decode cR_put 40 = .ok (.invokevirtual 115, 3) := by decide +kernel
theorem dR_put_43 : decode cR_put 43 = .ok (.invokestatic 86, 3) := by decide +kernel
theorem dR_put_46 : decode cR_put 46 = .ok (.aload_n 0, 1) := by decide +kernel
theorem dR_put_47 : decode cR_put 47 = .ok (.getfield 12, 3) := by decide +kernel
theorem dR_put_50 : decode cR_put 50 = .ok (.getfield 111, 3) := by decide +kernel
theorem dR_put_53 : decode cR_put 53 = .ok (.iload_n 2, 1) := by decide +kernel
theorem dR_put_54 : decode cR_put 54 = .ok (.aaload, 1) := by decide +kernel
theorem dR_put_55 : decode cR_put 55 = .ok (.iload_n 1, 1) := by decide +kernel
theorem dR_put_56 : decode cR_put 56 = .ok (.iload_n 3, 1) := by decide +kernel
theorem dR_put_57 : decode cR_put 57 = .ok (.invokevirtual 120, 3) := by decide +kernel
theorem dR_put_60 : decode cR_put 60 = .ok (.ireturn, 1) := by decide +kernel
theorem dR_ask_0 : decode cR_ask 0 = .ok (.aload_n 0, 1) := by decide +kernel
theorem dR_ask_1 : decode cR_ask 1 = .ok (.getfield 12, 3) := by decide +kernel
theorem dR_ask_4 : decode cR_ask 4 = .ok (.iload_n 1, 1) := by decide +kernel
theorem dR_ask_5 : decode cR_ask 5 = .ok (.invokevirtual 108, 3) := by decide +kernel
theorem dR_ask_8 : decode cR_ask 8 = .ok (.ifCond .eq 20, 3) := by decide +kernel
theorem dR_ask_11 : decode cR_ask 11 = .ok (.iload_n 2, 1) := by decide +kernel
theorem dR_ask_12 : decode cR_ask 12 = .ok (.ldc 152, 2) := by decide +kernel
theorem dR_ask_14 : decode cR_ask 14 = .ok (.if_icmp .eq 10, 3) := by decide +kernel
theorem dR_ask_17 : decode cR_ask 17 = .ok (.iload_n 2, 1) := by decide +kernel
theorem dR_ask_18 : decode cR_ask 18 = .ok (.invokestatic 297, 3) := by decide +kernel
theorem dR_ask_21 : decode cR_ask 21 = .ok (.ifCond .eq 7, 3) := by decide +kernel
theorem dR_ask_24 : decode cR_ask 24 = .ok (.iconst 1, 1) := by decide +kernel
theorem dR_ask_25 : decode cR_ask 25 = .ok (.goto 4, 3) := by decide +kernel
theorem dR_ask_28 : decode cR_ask 28 = .ok (.iconst 0, 1) := by decide +kernel
theorem dR_ask_29 : decode cR_ask 29 = .ok (.invokestatic 86, 3) := by decide +kernel
theorem dR_ask_32 : decode cR_ask 32 = .ok (.aload_n 0, 1) := by decide +kernel
theorem dR_ask_33 : decode cR_ask 33 = .ok (.getfield 12, 3) := by decide +kernel
theorem dR_ask_36 : decode cR_ask 36 = .ok (.getfield 111, 3) := by decide +kernel
theorem dR_ask_39 : decode cR_ask 39 = .ok (.iload_n 1, 1) := by decide +kernel
theorem dR_ask_40 : decode cR_ask 40 = .ok (.aaload, 1) := by decide +kernel
theorem dR_ask_41 : decode cR_ask 41 = .ok (.bipush 48, 2) := by decide +kernel
theorem dR_ask_43 : decode cR_ask 43 = .ok (.iload_n 2, 1) := by decide +kernel
theorem dR_ask_44 : decode cR_ask 44 = .ok (.invokevirtual 120, 3) := by decide +kernel
theorem dR_ask_47 : decode cR_ask 47 = .ok (.ireturn, 1) := by decide +kernel
theorem dR_target_0 : decode cR_target 0 = .ok (.aload_n 0, 1) := by decide +kernel
theorem dR_target_1 : decode cR_target 1 = .ok (.getfield 12, 3) := by decide +kernel
theorem dR_target_4 : decode cR_target 4 = .ok (.iload_n 1, 1) := by decide +kernel
theorem dR_target_5 : decode cR_target 5 = .ok (.invokevirtual 105, 3) := by decide +kernel
theorem dR_target_8 : decode cR_target 8 = .ok (.ifCond .eq 14, 3) := by decide +kernel
theorem dR_target_11 : decode cR_target 11 = .ok (.iload_n 2, 1) := by decide +kernel
theorem dR_target_12 : decode cR_target 12 = .ok (.invokestatic 90, 3) := by decide +kernel
theorem dR_target_15 : decode cR_target 15 = .ok (.ifCond .eq 7, 3) := by decide +kernel
theorem dR_target_18 : decode cR_target 18 = .ok (.iconst 1, 1) := by decide +kernel
theorem dR_target_19 : decode cR_target 19 = .ok (.goto 4, 3) := by decide +kernel
theorem dR_target_22 : decode cR_target 22 = .ok (.iconst 0, 1) := by decide +kernel
theorem dR_target_23 : decode cR_target 23 = .ok (.invokestatic 86, 3) := by decide +kernel
theorem dR_target_26 : decode cR_target 26 = .ok (.aload_n 0, 1) := by decide +kernel
theorem dR_target_27 : decode cR_target 27 = .ok (.getfield 12, 3) := by decide +kernel
theorem dR_target_30 : decode cR_target 30 = .ok (.getfield 124, 3) := by decide +kernel
theorem dR_target_33 : decode cR_target 33 = .ok (.iload_n 1, 1) := by decide +kernel
theorem dR_target_34 : decode cR_target 34 = .ok (.iaload, 1) := by decide +kernel
theorem dR_target_35 : decode cR_target 35 = .ok (.istore_n 3, 1) := by decide +kernel
theorem dR_target_36 : decode cR_target 36 = .ok (.aload_n 0, 1) := by decide +kernel
theorem dR_target_37 : decode cR_target 37 = .ok (.getfield 12, 3) := by decide +kernel
theorem dR_target_40 : decode cR_target 40 = .ok (.getfield 124, 3) := by decide +kernel
theorem dR_target_43 : decode cR_target 43 = .ok (.iload_n 1, 1) := by decide +kernel
theorem dR_target_44 : decode cR_target 44 = .ok (.iload_n 2, 1) := by decide +kernel
theorem dR_target_45 : decode cR_target 45 = .ok (.iastore, 1) := by decide +kernel
theorem dR_target_46 : decode cR_target 46 = .ok (.iload_n 3, 1) := by decide +kernel
theorem dR_target_47 : decode cR_target 47 = .ok (.ireturn, 1) := by decide +kernel
