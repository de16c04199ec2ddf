theorem dW_trim_0 : decode cW_trim 0 = .ok (.aload_n 0, 1) := by decide +kernel
theorem dW_trim_1 : decode cW_trim 1 = .ok (.iload_n 1, 1) := by decide +kernel
theorem dW_trim_2 : decode cW_trim 2 = .ok (.putfield 21, 3) := by decide +kernel
theorem dW_trim_5 : decode cW_trim 5 = .ok (.aload_n 0, 1) := by decide +kernel
theorem dW_trim_6 : decode cW_trim 6 = .ok (.getfield 21, 3) := by decide +kernel
theorem dW_trim_9 : decode cW_trim 9 = .ok (.ifCond .le 30, 3) := by decide +kernel
theorem dW_trim_12 : decode cW_trim 12 = .ok (.aload_n 0, 1) := by decide +kernel
theorem dW_trim_13 : decode cW_trim 13 = .ok (.getfield 7, 3) := by decide +kernel
theorem dW_trim_16 : decode cW_trim 16 = .ok (.aload_n 0, 1) := by decide +kernel
theorem dW_trim_17 : decode cW_trim 17 = .ok (.getfield 21, 3) := by decide +kernel
theorem dW_trim_20 : decode cW_trim 20 = .ok (.iconst 1, 1) := by decide +kernel
theorem dW_trim_21 : decode cW_trim 21 = .ok (.isub, 1) := by decide +kernel
theorem dW_trim_22 : decode cW_trim 22 = .ok (.iaload, 1) := by decide +kernel
theorem dW_trim_23 : decode cW_trim 23 = .ok (.ifCond .ne 16, 3) := by decide +kernel
theorem dW_trim_26 : decode cW_trim 26 = .ok (.aload_n 0, 1) := by decide +kernel
theorem dW_trim_27 : decode cW_trim 27 = .ok (.dup, 1) := by decide +kernel
theorem dW_trim_28 : decode cW_trim 28 = .ok (.getfield 21, 3) := by decide +kernel
theorem dW_trim_31 : decode cW_trim 31 = .ok (.iconst 1, 1) := by decide +kernel
theorem dW_trim_32 : decode cW_trim 32 = .ok (.isub, 1) := by decide +kernel
theorem dW_trim_33 : decode cW_trim 33 = .ok (.putfield 21, 3) := by decide +kernel
theorem dW_trim_36 : decode cW_trim 36 = .ok (.goto (-31), 3) := by decide +kernel
theorem dW_trim_39 : decode cW_trim 39 = .ok (.return_, 1) := by decide +kernel
theorem dW_set_0 : decode cW_set 0 = .ok (.aload_n 0, 1) := by decide +kernel
theorem dW_set_1 : decode cW_set 1 = .ok (.iload_n 1, 1) := by decide +kernel
theorem dW_set_2 : decode cW_set 2 = .ok (.ifCond .ge 7, 3) := by decide +kernel
theorem dW_set_5 : decode cW_set 5 = .ok (.iconst 1, 1) := by decide +kernel
theorem dW_set_6 : decode cW_set 6 = .ok (.goto 4, 3) := by decide +kernel
theorem dW_set_9 : decode cW_set 9 = .ok (.iconst 0, 1) := by decide +kernel
theorem dW_set_10 : decode cW_set 10 = .ok (.putfield 13, 3) := by decide +kernel
theorem dW_set_13 : decode cW_set 13 = .ok (.aload_n 0, 1) := by decide +kernel
theorem dW_set_14 : decode cW_set 14 = .ok (.getfield 7, 3) := by decide +kernel
theorem dW_set_17 : decode cW_set 17 = .ok (.iconst 0, 1) := by decide +kernel
theorem dW_set_18 : decode cW_set 18 = .ok (.aload_n 0, 1) := by decide +kernel
theorem dW_set_19 : decode cW_set 19 = .ok (.getfield 13, 3) := by decide +kernel
theorem dW_set_22 : decode cW_set 22 = .ok (.ifCond .eq 8, 3) := by decide +kernel
theorem dW_set_25 : decode cW_set 25 = .ok (.iload_n 1, 1) := by decide +kernel
theorem dW_set_26 : decode cW_set 26 = .ok (.ineg, 1) := by decide +kernel
theorem dW_set_27 : decode cW_set 27 = .ok (.goto 4, 3) := by decide +kernel
theorem dW_set_30 : decode cW_set 30 = .ok (.iload_n 1, 1) := by decide +kernel
theorem dW_set_31 : decode cW_set 31 = .ok (.iastore, 1) := by decide +kernel
theorem dW_set_32 : decode cW_set 32 = .ok (.aload_n 0, 1) := by decide +kernel
theorem dW_set_33 : decode cW_set 33 = .ok (.iconst 1, 1) := by decide +kernel
theorem dW_set_34 : decode cW_set 34 = .ok (.invokevirtual 17, 3) := by decide +kernel
theorem dW_set_37 : decode cW_set 37 = .ok (.return_, 1) := by decide +kernel
theorem dW_mostBits_0 : decode cW_mostBits 0 = .ok (.aload_n 0, 1) := by decide +kernel
theorem dW_mostBits_1 : decode cW_mostBits 1 = .ok (.getfield 7, 3) := by decide +kernel
theorem dW_mostBits_4 : decode cW_mostBits 4 = .ok (.arraylength, 1) := by decide +kernel
theorem dW_mostBits_5 : decode cW_mostBits 5 = .ok (.bipush 30, 2) := by decide +kernel
theorem dW_mostBits_7 : decode cW_mostBits 7 = .ok (.imul, 1) := by decide +kernel
theorem dW_mostBits_8 : decode cW_mostBits 8 = .ok (.ireturn, 1) := by decide +kernel
theorem dW_rest_0 : decode cW_rest 0 = .ok (.lconst 0, 1) := by decide +kernel
theorem dW_rest_1 : decode cW_rest 1 = .ok (.lstore_n 2, 1) := by decide +kernel
theorem dW_rest_2 : decode cW_rest 2 = .ok (.aload_n 0, 1) := by decide +kernel
theorem dW_rest_3 : decode cW_rest 3 = .ok (.getfield 21, 3) := by decide +kernel
theorem dW_rest_6 : decode cW_rest 6 = .ok (.iconst 1, 1) := by decide +kernel
theorem dW_rest_7 : decode cW_rest 7 = .ok (.isub, 1) := by decide +kernel
theorem dW_rest_8 : decode cW_rest 8 = .ok (.istore 4, 2) := by decide +kernel
theorem dW_rest_10 : decode cW_rest 10 = .ok (.iload 4, 2) := by decide +kernel
theorem dW_rest_12 : decode cW_rest 12 = .ok (.ifCond .lt 27, 3) := by decide +kernel
theorem dW_rest_15 : decode cW_rest 15 = .ok (.lload_n 2, 1) := by decide +kernel
theorem dW_rest_16 : decode cW_rest 16 = .ok (.ldc2_w 37, 3) := by decide +kernel
theorem dW_rest_19 : decode cW_rest 19 = .ok (.lmul, 1) := by decide +kernel
theorem dW_rest_20 : decode cW_rest 20 = .ok (.aload_n 0, 1) := by decide +kernel
theorem dW_rest_21 : decode cW_rest 21 = .ok (.getfield 7, 3) := by decide +kernel
theorem dW_rest_24 : decode cW_rest 24 = .ok (.iload 4, 2) := by decide +kernel
theorem dW_rest_26 : decode cW_rest 26 = .ok (.iaload, 1) := by decide +kernel
theorem dW_rest_27 : decode cW_rest 27 = .ok (.i2l, 1) := by decide +kernel
theorem dW_rest_28 : decode cW_rest 28 = .ok (.ladd, 1) := by decide +kernel
theorem dW_rest_29 : decode cW_rest 29 = .ok (.iload_n 1, 1) := by decide +kernel
theorem dW_rest_30 : decode cW_rest 30 = .ok (.i2l, 1) := by decide +kernel
theorem dW_rest_31 : decode cW_rest 31 = .ok (.lrem, 1) := by decide +kernel
theorem dW_rest_32 : decode cW_rest 32 = .ok (.lstore_n 2, 1) := by decide +kernel
theorem dW_rest_33 : decode cW_rest 33 = .ok (.iinc 4 (-1), 3) := by decide +kernel
theorem dW_rest_36 : decode cW_rest 36 = .ok (.goto (-26), 3) := by decide +kernel
theorem dW_rest_39 : decode cW_rest 39 = .ok (.lload_n 2, 1) := by decide +kernel
theorem dW_rest_40 : decode cW_rest 40 = .ok (.l2i, 1) := by decide +kernel
theorem dW_rest_41 : decode cW_rest 41 = .ok (.ireturn, 1) := by decide +kernel
theorem dR_divides_0 : decode cR_divides 0 = .ok (.aload_n 3, 1) := by decide +kernel
theorem dR_divides_1 : decode cR_divides 1 = .ok (.iload_n 0, 1) := by decide +kernel
theorem dR_divides_2 : decode cR_divides 2 = .ok (.invokevirtual 381, 3) := by decide +kernel
theorem dR_divides_5 : decode cR_divides 5 = .ok (.ifCond .ne 7, 3) := by decide +kernel
theorem dR_divides_8 : decode cR_divides 8 = .ok (.iconst 1, 1) := by decide +kernel
theorem dR_divides_9 : decode cR_divides 9 = .ok (.goto 4, 3) := by decide +kernel
theorem dR_divides_12 : decode cR_divides 12 = .ok (.iconst 0, 1) := by decide +kernel
theorem dR_divides_13 : decode cR_divides 13 = .ok (.istore 4, 2) := by decide +kernel
theorem dR_divides_15 : decode cR_divides 15 = .ok (.iconst 0, 1) := by decide +kernel
theorem dR_divides_16 : decode cR_divides 16 = .ok (.istore 5, 2) := by decide +kernel
theorem dR_divides_18 : decode cR_divides 18 = .ok (.iload 5, 2) := by decide +kernel
theorem dR_divides_20 : decode cR_divides 20 = .ok (.iload_n 2, 1) := by decide +kernel
theorem dR_divides_21 : decode cR_divides 21 = .ok (.if_icmp .ge 32, 3) := by decide +kernel
theorem dR_divides_24 : decode cR_divides 24 = .ok (.iload 4, 2) := by decide +kernel
theorem dR_divides_26 : decode cR_divides 26 = .ok (.ifCond .eq 27, 3) := by decide +kernel
theorem dR_divides_29 : decode cR_divides 29 = .ok (.aload_n 1, 1) := by decide +kernel
theorem dR_divides_30 : decode cR_divides 30 = .ok (.iload 5, 2) := by decide +kernel
theorem dR_divides_32 : decode cR_divides 32 = .ok (.aaload, 1) := by decide +kernel
theorem dR_divides_33 : decode cR_divides 33 = .ok (.iload_n 0, 1) := by decide +kernel
theorem dR_divides_34 : decode cR_divides 34 = .ok (.invokevirtual 381, 3) := by decide +kernel
theorem dR_divides_37 : decode cR_divides 37 = .ok (.ifCond .ne 7, 3) := by decide +kernel
theorem dR_divides_40 : decode cR_divides 40 = .ok (.iconst 1, 1) := by decide +kernel
theorem dR_divides_41 : decode cR_divides 41 = .ok (.goto 4, 3) := by decide +kernel
theorem dR_divides_44 : decode cR_divides 44 = .ok (.iconst 0, 1) := by decide +kernel
theorem dR_divides_45 : decode cR_divides 45 = .ok (.istore 4, 2) := by decide +kernel
theorem dR_divides_47 : decode cR_divides 47 = .ok (.iinc 5 1, 3) := by decide +kernel
theorem dR_divides_50 : decode cR_divides 50 = .ok (.goto (-32), 3) := by decide +kernel
theorem dR_divides_53 : decode cR_divides 53 = .ok (.iload 4, 2) := by decide +kernel
theorem dR_divides_55 : decode cR_divides 55 = .ok (.ireturn, 1) := by decide +kernel
