theorem dLg_bitCount_0 : decode cLg_bitCount 0 = .ok (.lload_n 0, 1) := by decide +kernel
theorem dLg_bitCount_1 : decode cLg_bitCount 1 = .ok (.lload_n 0, 1) := by decide +kernel
theorem dLg_bitCount_2 : decode cLg_bitCount 2 = .ok (.iconst 1, 1) := by decide +kernel
theorem dLg_bitCount_3 : decode cLg_bitCount 3 = .ok (.lushr, 1) := by decide +kernel
theorem dLg_bitCount_4 : decode cLg_bitCount 4 = .ok (.ldc2_w 314, 3) := by decide +kernel
theorem dLg_bitCount_7 : decode cLg_bitCount 7 = .ok (.land, 1) := by decide +kernel
theorem dLg_bitCount_8 : decode cLg_bitCount 8 = .ok (.lsub, 1) := by decide +kernel
theorem dLg_bitCount_9 : decode cLg_bitCount 9 = .ok (.lstore_n 0, 1) := by decide +kernel
theorem dLg_bitCount_10 : decode cLg_bitCount 10 = .ok (.lload_n 0, 1) := by decide +kernel
theorem dLg_bitCount_11 : decode cLg_bitCount 11 = .ok (.ldc2_w 316, 3) := by decide +kernel
theorem dLg_bitCount_14 : decode cLg_bitCount 14 = .ok (.land, 1) := by decide +kernel
theorem dLg_bitCount_15 : decode cLg_bitCount 15 = .ok (.lload_n 0, 1) := by decide +kernel
theorem dLg_bitCount_16 : decode cLg_bitCount 16 = .ok (.iconst 2, 1) := by decide +kernel
theorem dLg_bitCount_17 : decode cLg_bitCount 17 = .ok (.lushr, 1) := by decide +kernel
theorem dLg_bitCount_18 : decode cLg_bitCount 18 = .ok (.ldc2_w 316, 3) := by decide +kernel
theorem dLg_bitCount_21 : decode cLg_bitCount 21 = .ok (.land, 1) := by decide +kernel
theorem dLg_bitCount_22 : decode cLg_bitCount 22 = .ok (.ladd, 1) := by decide +kernel
theorem dLg_bitCount_23 : decode cLg_bitCount 23 = .ok (.lstore_n 0, 1) := by decide +kernel
theorem dLg_bitCount_24 : decode cLg_bitCount 24 = .ok (.lload_n 0, 1) := by decide +kernel
theorem dLg_bitCount_25 : decode cLg_bitCount 25 = .ok (.lload_n 0, 1) := by decide +kernel
theorem dLg_bitCount_26 : decode cLg_bitCount 26 = .ok (.iconst 4, 1) := by decide +kernel
theorem dLg_bitCount_27 : decode cLg_bitCount 27 = .ok (.lushr, 1) := by decide +kernel
theorem dLg_bitCount_28 : decode cLg_bitCount 28 = .ok (.ladd, 1) := by decide +kernel
theorem dLg_bitCount_29 : decode cLg_bitCount 29 = .ok (.ldc2_w 318, 3) := by decide +kernel
theorem dLg_bitCount_32 : decode cLg_bitCount 32 = .ok (.land, 1) := by decide +kernel
theorem dLg_bitCount_33 : decode cLg_bitCount 33 = .ok (.lstore_n 0, 1) := by decide +kernel
theorem dLg_bitCount_34 : decode cLg_bitCount 34 = .ok (.lload_n 0, 1) := by decide +kernel
theorem dLg_bitCount_35 : decode cLg_bitCount 35 = .ok (.lload_n 0, 1) := by decide +kernel
theorem dLg_bitCount_36 : decode cLg_bitCount 36 = .ok (.bipush 8, 2) := by decide +kernel
theorem dLg_bitCount_38 : decode cLg_bitCount 38 = .ok (.lushr, 1) := by decide +kernel
theorem dLg_bitCount_39 : decode cLg_bitCount 39 = .ok (.ladd, 1) := by decide +kernel
theorem dLg_bitCount_40 : decode cLg_bitCount 40 = .ok (.lstore_n 0, 1) := by decide +kernel
theorem dLg_bitCount_41 : decode cLg_bitCount 41 = .ok (.lload_n 0, 1) := by decide +kernel
theorem dLg_bitCount_42 : decode cLg_bitCount 42 = .ok (.lload_n 0, 1) := by decide +kernel
theorem dLg_bitCount_43 : decode cLg_bitCount 43 = .ok (.bipush 16, 2) := by decide +kernel
theorem dLg_bitCount_45 : decode cLg_bitCount 45 = .ok (.lushr, 1) := by decide +kernel
theorem dLg_bitCount_46 : decode cLg_bitCount 46 = .ok (.ladd, 1) := by decide +kernel
theorem dLg_bitCount_47 : decode cLg_bitCount 47 = .ok (.lstore_n 0, 1) := by decide +kernel
theorem dLg_bitCount_48 : decode cLg_bitCount 48 = .ok (.lload_n 0, 1) := by decide +kernel
theorem dLg_bitCount_49 : decode cLg_bitCount 49 = .ok (.lload_n 0, 1) := by decide +kernel
theorem dLg_bitCount_50 : decode cLg_bitCount 50 = .ok (.bipush 32, 2) := by decide +kernel
theorem dLg_bitCount_52 : decode cLg_bitCount 52 = .ok (.lushr, 1) := by decide +kernel
theorem dLg_bitCount_53 : decode cLg_bitCount 53 = .ok (.ladd, 1) := by decide +kernel
theorem dLg_bitCount_54 : decode cLg_bitCount 54 = .ok (.lstore_n 0, 1) := by decide +kernel
theorem dLg_bitCount_55 : decode cLg_bitCount 55 = .ok (.lload_n 0, 1) := by decide +kernel
theorem dLg_bitCount_56 : decode cLg_bitCount 56 = .ok (.l2i, 1) := by decide +kernel
theorem dLg_bitCount_57 : decode cLg_bitCount 57 = .ok (.bipush 127, 2) := by decide +kernel
theorem dLg_bitCount_59 : decode cLg_bitCount 59 = .ok (.iand, 1) := by decide +kernel
theorem dLg_bitCount_60 : decode cLg_bitCount 60 = .ok (.ireturn, 1) := by decide +kernel
theorem dT_newRow_0 : decode cT_newRow 0 = .ok (.aload_n 0, 1) := by decide +kernel
theorem dT_newRow_1 : decode cT_newRow 1 = .ok (.getfield 17, 3) := by decide +kernel
theorem dT_newRow_4 : decode cT_newRow 4 = .ok (.aload_n 0, 1) := by decide +kernel
theorem dT_newRow_5 : decode cT_newRow 5 = .ok (.getfield 26, 3) := by decide +kernel
theorem dT_newRow_8 : decode cT_newRow 8 = .ok (.iload_n 1, 1) := by decide +kernel
theorem dT_newRow_9 : decode cT_newRow 9 = .ok (.iastore, 1) := by decide +kernel
theorem dT_newRow_10 : decode cT_newRow 10 = .ok (.aload_n 0, 1) := by decide +kernel
theorem dT_newRow_11 : decode cT_newRow 11 = .ok (.getfield 11, 3) := by decide +kernel
theorem dT_newRow_14 : decode cT_newRow 14 = .ok (.astore_n 2, 1) := by decide +kernel
theorem dT_newRow_15 : decode cT_newRow 15 = .ok (.aload_n 2, 1) := by decide +kernel
theorem dT_newRow_16 : decode cT_newRow 16 = .ok (.arraylength, 1) := by decide +kernel
theorem dT_newRow_17 : decode cT_newRow 17 = .ok (.istore_n 3, 1) := by decide +kernel
theorem dT_newRow_18 : decode cT_newRow 18 = .ok (.iconst 0, 1) := by decide +kernel
theorem dT_newRow_19 : decode cT_newRow 19 = .ok (.istore 4, 2) := by decide +kernel
theorem dT_newRow_21 : decode cT_newRow 21 = .ok (.iload 4, 2) := by decide +kernel
theorem dT_newRow_23 : decode cT_newRow 23 = .ok (.iload_n 3, 1) := by decide +kernel
theorem dT_newRow_24 : decode cT_newRow 24 = .ok (.if_icmp .ge 27, 3) := by decide +kernel
theorem dT_newRow_27 : decode cT_newRow 27 = .ok (.aload_n 2, 1) := by decide +kernel
theorem dT_newRow_28 : decode cT_newRow 28 = .ok (.iload 4, 2) := by decide +kernel
theorem dT_newRow_30 : decode cT_newRow 30 = .ok (.aaload, 1) := by decide +kernel
theorem dT_newRow_31 : decode cT_newRow 31 = .ok (.astore 5, 2) := by decide +kernel
theorem dT_newRow_33 : decode cT_newRow 33 = .ok (.aload 5, 2) := by decide +kernel
theorem dT_newRow_35 : decode cT_newRow 35 = .ok (.getfield 33, 3) := by decide +kernel
theorem dT_newRow_38 : decode cT_newRow 38 = .ok (.aload_n 0, 1) := by decide +kernel
theorem dT_newRow_39 : decode cT_newRow 39 = .ok (.getfield 26, 3) := by decide +kernel
theorem dT_newRow_42 : decode cT_newRow 42 = .ok (.ldc 36, 2) := by decide +kernel
theorem dT_newRow_44 : decode cT_newRow 44 = .ok (.iastore, 1) := by decide +kernel
theorem dT_newRow_45 : decode cT_newRow 45 = .ok (.iinc 4 1, 3) := by decide +kernel
theorem dT_newRow_48 : decode cT_newRow 48 = .ok (.goto (-27), 3) := by decide +kernel
theorem dT_newRow_51 : decode cT_newRow 51 = .ok (.aload_n 0, 1) := by decide +kernel
theorem dT_newRow_52 : decode cT_newRow 52 = .ok (.dup, 1) := by decide +kernel
theorem dT_newRow_53 : decode cT_newRow 53 = .ok (.getfield 26, 3) := by decide +kernel
theorem dT_newRow_56 : decode cT_newRow 56 = .ok (.dup_x1, 1) := by decide +kernel
theorem dT_newRow_57 : decode cT_newRow 57 = .ok (.iconst 1, 1) := by decide +kernel
theorem dT_newRow_58 : decode cT_newRow 58 = .ok (.iadd, 1) := by decide +kernel
theorem dT_newRow_59 : decode cT_newRow 59 = .ok (.putfield 26, 3) := by decide +kernel
theorem dT_newRow_62 : decode cT_newRow 62 = .ok (.ireturn, 1) := by decide +kernel
theorem dR_sample_0 : decode cR_sample 0 = .ok (.aload_n 0, 1) := by decide +kernel
theorem dR_sample_1 : decode cR_sample 1 = .ok (.getfield 19, 3) := by decide +kernel
theorem dR_sample_4 : decode cR_sample 4 = .ok (.lload_n 1, 1) := by decide +kernel
theorem dR_sample_5 : decode cR_sample 5 = .ok (.putfield 171, 3) := by decide +kernel
theorem dR_sample_8 : decode cR_sample 8 = .ok (.aload_n 0, 1) := by decide +kernel
theorem dR_sample_9 : decode cR_sample 9 = .ok (.getfield 19, 3) := by decide +kernel
theorem dR_sample_12 : decode cR_sample 12 = .ok (.iload_n 3, 1) := by decide +kernel
theorem dR_sample_13 : decode cR_sample 13 = .ok (.putfield 175, 3) := by decide +kernel
theorem dR_sample_16 : decode cR_sample 16 = .ok (.lload_n 1, 1) := by decide +kernel
theorem dR_sample_17 : decode cR_sample 17 = .ok (.aload_n 0, 1) := by decide +kernel
theorem dR_sample_18 : decode cR_sample 18 = .ok (.getfield 12, 3) := by decide +kernel
theorem dR_sample_21 : decode cR_sample 21 = .ok (.invokevirtual 178, 3) := by decide +kernel
theorem dR_sample_24 : decode cR_sample 24 = .ok (.land, 1) := by decide +kernel
theorem dR_sample_25 : decode cR_sample 25 = .ok (.invokestatic 182, 3) := by decide +kernel
theorem dR_sample_28 : decode cR_sample 28 = .ok (.ireturn, 1) := by decide +kernel
theorem dR_byteAt_0 : decode cR_byteAt 0 = .ok (.iload_n 1, 1) := by decide +kernel
theorem dR_byteAt_1 : decode cR_byteAt 1 = .ok (.iconst 0, 1) := by decide +kernel
theorem dR_byteAt_2 : decode cR_byteAt 2 = .ok (.aload_n 0, 1) := by decide +kernel
theorem dR_byteAt_3 : decode cR_byteAt 3 = .ok (.getfield 50, 3) := by decide +kernel
theorem dR_byteAt_6 : decode cR_byteAt 6 = .ok (.getfield 253, 3) := by decide +kernel
theorem dR_byteAt_9 : decode cR_byteAt 9 = .ok (.iconst 1, 1) := by decide +kernel
theorem dR_byteAt_10 : decode cR_byteAt 10 = .ok (.isub, 1) := by decide +kernel
theorem dR_byteAt_11 : decode cR_byteAt 11 = .ok (.invokestatic 82, 3) := by decide +kernel
theorem dR_byteAt_14 : decode cR_byteAt 14 = .ok (.ifCond .eq 15, 3) := by decide +kernel
theorem dR_byteAt_17 : decode cR_byteAt 17 = .ok (.aload_n 0, 1) := by decide +kernel
theorem dR_byteAt_18 : decode cR_byteAt 18 = .ok (.getfield 50, 3) := by decide +kernel
theorem dR_byteAt_21 : decode cR_byteAt 21 = .ok (.getfield 321, 3) := by decide +kernel
theorem dR_byteAt_24 : decode cR_byteAt 24 = .ok (.iload_n 1, 1) := by decide +kernel
theorem dR_byteAt_25 : decode cR_byteAt 25 = .ok (.baload, 1) := by decide +kernel
theorem dR_byteAt_26 : decode cR_byteAt 26 = .ok (.goto 4, 3) := by decide +kernel
theorem dR_byteAt_29 : decode cR_byteAt 29 = .ok (.iconst (-1), 1) := by decide +kernel
theorem dR_byteAt_30 : decode cR_byteAt 30 = .ok (.ireturn, 1) := by decide +kernel
