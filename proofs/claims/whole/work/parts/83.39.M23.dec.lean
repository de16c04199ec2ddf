theorem dM_sample_0 : decode cM_sample 0 = .ok (.aload_n 0, 1) := by decide +kernel
theorem dM_sample_1 : decode cM_sample 1 = .ok (.iconst 0, 1) := by decide +kernel
theorem dM_sample_2 : decode cM_sample 2 = .ok (.putfield 144, 3) := by decide +kernel
theorem dM_sample_5 : decode cM_sample 5 = .ok (.aload_n 0, 1) := by decide +kernel
theorem dM_sample_6 : decode cM_sample 6 = .ok (.lload_n 1, 1) := by decide +kernel
theorem dM_sample_7 : decode cM_sample 7 = .ok (.putfield 219, 3) := by decide +kernel
theorem dM_sample_10 : decode cM_sample 10 = .ok (.aload_n 0, 1) := by decide +kernel
theorem dM_sample_11 : decode cM_sample 11 = .ok (.iload_n 3, 1) := by decide +kernel
theorem dM_sample_12 : decode cM_sample 12 = .ok (.putfield 223, 3) := by decide +kernel
theorem dM_sample_15 : decode cM_sample 15 = .ok (.lload_n 1, 1) := by decide +kernel
theorem dM_sample_16 : decode cM_sample 16 = .ok (.aload_n 0, 1) := by decide +kernel
theorem dM_sample_17 : decode cM_sample 17 = .ok (.invokevirtual 254, 3) := by decide +kernel
theorem dM_sample_20 : decode cM_sample 20 = .ok (.land, 1) := by decide +kernel
theorem dM_sample_21 : decode cM_sample 21 = .ok (.invokestatic 258, 3) := by decide +kernel
theorem dM_sample_24 : decode cM_sample 24 = .ok (.ireturn, 1) := by decide +kernel
theorem dM_ask_0 : decode cM_ask 0 = .ok (.aload_n 0, 1) := by decide +kernel
theorem dM_ask_1 : decode cM_ask 1 = .ok (.aload_n 0, 1) := by decide +kernel
theorem dM_ask_2 : decode cM_ask 2 = .ok (.iload_n 1, 1) := by decide +kernel
theorem dM_ask_3 : decode cM_ask 3 = .ok (.invokevirtual 243, 3) := by decide +kernel
theorem dM_ask_6 : decode cM_ask 6 = .ok (.ifCond .ne 16, 3) := by decide +kernel
theorem dM_ask_9 : decode cM_ask 9 = .ok (.iload_n 2, 1) := by decide +kernel
theorem dM_ask_10 : decode cM_ask 10 = .ok (.ldc 226, 2) := by decide +kernel
theorem dM_ask_12 : decode cM_ask 12 = .ok (.if_icmp .eq 14, 3) := by decide +kernel
theorem dM_ask_15 : decode cM_ask 15 = .ok (.iload_n 2, 1) := by decide +kernel
theorem dM_ask_16 : decode cM_ask 16 = .ok (.invokestatic 237, 3) := by decide +kernel
theorem dM_ask_19 : decode cM_ask 19 = .ok (.ifCond .ne 7, 3) := by decide +kernel
theorem dM_ask_22 : decode cM_ask 22 = .ok (.iconst 1, 1) := by decide +kernel
theorem dM_ask_23 : decode cM_ask 23 = .ok (.goto 4, 3) := by decide +kernel
theorem dM_ask_26 : decode cM_ask 26 = .ok (.iconst 0, 1) := by decide +kernel
theorem dM_ask_27 : decode cM_ask 27 = .ok (.invokevirtual 231, 3) := by decide +kernel
theorem dM_ask_30 : decode cM_ask 30 = .ok (.ifCond .eq 5, 3) := by decide +kernel
theorem dM_ask_33 : decode cM_ask 33 = .ok (.iconst 0, 1) := by decide +kernel
theorem dM_ask_34 : decode cM_ask 34 = .ok (.ireturn, 1) := by decide +kernel
theorem dM_ask_35 : decode cM_ask 35 = .ok (.aload_n 0, 1) := by decide +kernel
theorem dM_ask_36 : decode cM_ask 36 = .ok (.getfield 29, 3) := by decide +kernel
theorem dM_ask_39 : decode cM_ask 39 = .ok (.iload_n 1, 1) := by decide +kernel
theorem dM_ask_40 : decode cM_ask 40 = .ok (.iaload, 1) := by decide +kernel
theorem dM_ask_41 : decode cM_ask 41 = .ok (.istore_n 3, 1) := by decide +kernel
theorem dM_ask_42 : decode cM_ask 42 = .ok (.aload_n 0, 1) := by decide +kernel
theorem dM_ask_43 : decode cM_ask 43 = .ok (.getfield 29, 3) := by decide +kernel
theorem dM_ask_46 : decode cM_ask 46 = .ok (.iload_n 1, 1) := by decide +kernel
theorem dM_ask_47 : decode cM_ask 47 = .ok (.iload_n 2, 1) := by decide +kernel
theorem dM_ask_48 : decode cM_ask 48 = .ok (.iastore, 1) := by decide +kernel
theorem dM_ask_49 : decode cM_ask 49 = .ok (.iload_n 3, 1) := by decide +kernel
theorem dM_ask_50 : decode cM_ask 50 = .ok (.ireturn, 1) := by decide +kernel
theorem dM_rate_0 : decode cM_rate 0 = .ok (.aload_n 0, 1) := by decide +kernel
theorem dM_rate_1 : decode cM_rate 1 = .ok (.iload_n 1, 1) := by decide +kernel
theorem dM_rate_2 : decode cM_rate 2 = .ok (.iconst 1, 1) := by decide +kernel
theorem dM_rate_3 : decode cM_rate 3 = .ok (.if_icmp .lt 18, 3) := by decide +kernel
theorem dM_rate_6 : decode cM_rate 6 = .ok (.iload_n 1, 1) := by decide +kernel
theorem dM_rate_7 : decode cM_rate 7 = .ok (.iload_n 2, 1) := by decide +kernel
theorem dM_rate_8 : decode cM_rate 8 = .ok (.if_icmp .gt 13, 3) := by decide +kernel
theorem dM_rate_11 : decode cM_rate 11 = .ok (.iload_n 2, 1) := by decide +kernel
theorem dM_rate_12 : decode cM_rate 12 = .ok (.bipush 16, 2) := by decide +kernel
theorem dM_rate_14 : decode cM_rate 14 = .ok (.if_icmp .gt 7, 3) := by decide +kernel
theorem dM_rate_17 : decode cM_rate 17 = .ok (.iconst 0, 1) := by decide +kernel
theorem dM_rate_18 : decode cM_rate 18 = .ok (.goto 4, 3) := by decide +kernel
theorem dM_rate_21 : decode cM_rate 21 = .ok (.iconst 1, 1) := by decide +kernel
theorem dM_rate_22 : decode cM_rate 22 = .ok (.invokevirtual 231, 3) := by decide +kernel
theorem dM_rate_25 : decode cM_rate 25 = .ok (.ifCond .ne 13, 3) := by decide +kernel
theorem dM_rate_28 : decode cM_rate 28 = .ok (.aload_n 0, 1) := by decide +kernel
theorem dM_rate_29 : decode cM_rate 29 = .ok (.iload_n 1, 1) := by decide +kernel
theorem dM_rate_30 : decode cM_rate 30 = .ok (.putfield 211, 3) := by decide +kernel
theorem dM_rate_33 : decode cM_rate 33 = .ok (.aload_n 0, 1) := by decide +kernel
theorem dM_rate_34 : decode cM_rate 34 = .ok (.iload_n 2, 1) := by decide +kernel
theorem dM_rate_35 : decode cM_rate 35 = .ok (.putfield 214, 3) := by decide +kernel
theorem dM_rate_38 : decode cM_rate 38 = .ok (.return_, 1) := by decide +kernel
theorem dM_byteAt_0 : decode cM_byteAt 0 = .ok (.aload_n 0, 1) := by decide +kernel
theorem dM_byteAt_1 : decode cM_byteAt 1 = .ok (.iconst 0, 1) := by decide +kernel
theorem dM_byteAt_2 : decode cM_byteAt 2 = .ok (.putfield 144, 3) := by decide +kernel
theorem dM_byteAt_5 : decode cM_byteAt 5 = .ok (.iload_n 1, 1) := by decide +kernel
theorem dM_byteAt_6 : decode cM_byteAt 6 = .ok (.ifCond .lt 11, 3) := by decide +kernel
theorem dM_byteAt_9 : decode cM_byteAt 9 = .ok (.iload_n 1, 1) := by decide +kernel
theorem dM_byteAt_10 : decode cM_byteAt 10 = .ok (.aload_n 0, 1) := by decide +kernel
theorem dM_byteAt_11 : decode cM_byteAt 11 = .ok (.getfield 199, 3) := by decide +kernel
theorem dM_byteAt_14 : decode cM_byteAt 14 = .ok (.if_icmp .lt 7, 3) := by decide +kernel
theorem dM_byteAt_17 : decode cM_byteAt 17 = .ok (.iconst (-1), 1) := by decide +kernel
theorem dM_byteAt_18 : decode cM_byteAt 18 = .ok (.goto 9, 3) := by decide +kernel
theorem dM_byteAt_21 : decode cM_byteAt 21 = .ok (.aload_n 0, 1) := by decide +kernel
theorem dM_byteAt_22 : decode cM_byteAt 22 = .ok (.getfield 120, 3) := by decide +kernel
theorem dM_byteAt_25 : decode cM_byteAt 25 = .ok (.iload_n 1, 1) := by decide +kernel
theorem dM_byteAt_26 : decode cM_byteAt 26 = .ok (.baload, 1) := by decide +kernel
theorem dM_byteAt_27 : decode cM_byteAt 27 = .ok (.ireturn, 1) := by decide +kernel
