theorem dLg_bitCount_0 : decode cLg_bitCount 0 = .ok (.lload_n 0, 1) := by decide +kernel
theorem dLg_bitCount_1 : decode cLg_bitCount 1 = .ok (.lload_n 0, 1) := by decide +kernel
theorem dLg_bitCount_2 : decode cLg_bitCount 2 = .ok (.iconst 1, 1) := by decide +kernel
theorem dLg_bitCount_3 : decode cLg_bitCount 3 = .ok (.lushr, 1) := by decide +kernel
theorem dLg_bitCount_4 : decode cLg_bitCount 4 = .ok (.ldc2_w 314, 3) := by decide +kernel
theorem dLg_bitCount_7 : decode cLg_bitCount 7 = .ok (.land, 1) := by decide +kernel
theorem dLg_bitCount_8 : decode cLg_bitCount 8 = .ok (.lsub, 1) := by decide +kernel
theorem dLg_bitCount_9 : decode cLg_bitCount 9 = .ok (.lstore_n 0, 1) := by decide +kernel
theorem dLg_bitCount_10 : decode cLg_bitCount 10 = .ok (.lload_n 0, 1) := by decide +kernel
theorem dLg_bitCount_11 : decode cLg_bitCount 11 = .ok (.ldc2_w 316, 3) := by decide +kernel
theorem dLg_bitCount_14 : decode cLg_bitCount 14 = .ok (.land, 1) := by decide +kernel
theorem dLg_bitCount_15 : decode cLg_bitCount 15 = .ok (.lload_n 0, 1) := by decide +kernel
theorem dLg_bitCount_16 : decode cLg_bitCount 16 = .ok (.iconst 2, 1) := by decide +kernel
theorem dLg_bitCount_17 : decode cLg_bitCount 17 = .ok (.lushr, 1) := by decide +kernel
theorem dLg_bitCount_18 : decode cLg_bitCount 18 = .ok (.ldc2_w 316, 3) := by decide +kernel
theorem dLg_bitCount_21 : decode cLg_bitCount 21 = .ok (.land, 1) := by decide +kernel
theorem dLg_bitCount_22 : decode cLg_bitCount 22 = .ok (.ladd, 1) := by decide +kernel
theorem dLg_bitCount_23 : decode cLg_bitCount 23 = .ok (.lstore_n 0, 1) := by decide +kernel
theorem dLg_bitCount_24 : decode cLg_bitCount 24 = .ok (.lload_n 0, 1) := by decide +kernel
theorem dLg_bitCount_25 : decode cLg_bitCount 25 = .ok (.lload_n 0, 1) := by decide +kernel
theorem dLg_bitCount_26 : decode cLg_bitCount 26 = .ok (.iconst 4, 1) := by decide +kernel
theorem dLg_bitCount_27 : decode cLg_bitCount 27 = .ok (.lushr, 1) := by decide +kernel
theorem dLg_bitCount_28 : decode cLg_bitCount 28 = .ok (.ladd, 1) := by decide +kernel
theorem dLg_bitCount_29 : decode cLg_bitCount 29 = .ok (.ldc2_w 318, 3) := by decide +kernel
theorem dLg_bitCount_32 : decode cLg_bitCount 32 = .ok (.land, 1) := by decide +kernel
theorem dLg_bitCount_33 : decode cLg_bitCount 33 = .ok (.lstore_n 0, 1) := by decide +kernel
theorem dLg_bitCount_34 : decode cLg_bitCount 34 = .ok (.lload_n 0, 1) := by decide +kernel
theorem dLg_bitCount_35 : decode cLg_bitCount 35 = .ok (.lload_n 0, 1) := by decide +kernel
theorem dLg_bitCount_36 : decode cLg_bitCount 36 = .ok (.bipush 8, 2) := by decide +kernel
theorem dLg_bitCount_38 : decode cLg_bitCount 38 = .ok (.lushr, 1) := by decide +kernel
theorem dLg_bitCount_39 : decode cLg_bitCount 39 = .ok (.ladd, 1) := by decide +kernel
theorem dLg_bitCount_40 : decode cLg_bitCount 40 = .ok (.lstore_n 0, 1) := by decide +kernel
theorem dLg_bitCount_41 : decode cLg_bitCount 41 = .ok (.lload_n 0, 1) := by decide +kernel
theorem dLg_bitCount_42 : decode cLg_bitCount 42 = .ok (.lload_n 0, 1) := by decide +kernel
theorem dLg_bitCount_43 : decode cLg_bitCount 43 = .ok (.bipush 16, 2) := by decide +kernel
theorem dLg_bitCount_45 : decode cLg_bitCount 45 = .ok (.lushr, 1) := by decide +kernel
theorem dLg_bitCount_46 : decode cLg_bitCount 46 = .ok (.ladd, 1) := by decide +kernel
theorem dLg_bitCount_47 : decode cLg_bitCount 47 = .ok (.lstore_n 0, 1) := by decide +kernel
theorem dLg_bitCount_48 : decode cLg_bitCount 48 = .ok (.lload_n 0, 1) := by decide +kernel
theorem dLg_bitCount_49 : decode cLg_bitCount 49 = .ok (.lload_n 0, 1) := by decide +kernel
theorem dLg_bitCount_50 : decode cLg_bitCount 50 = .ok (.bipush 32, 2) := by decide +kernel
theorem dLg_bitCount_52 : decode cLg_bitCount 52 = .ok (.lushr, 1) := by decide +kernel
theorem dLg_bitCount_53 : decode cLg_bitCount 53 = .ok (.ladd, 1) := by decide +kernel
theorem dLg_bitCount_54 : decode cLg_bitCount 54 = .ok (.lstore_n 0, 1) := by decide +kernel
theorem dLg_bitCount_55 : decode cLg_bitCount 55 = .ok (.lload_n 0, 1) := by decide +kernel
theorem dLg_bitCount_56 : decode cLg_bitCount 56 = .ok (.l2i, 1) := by decide +kernel
theorem dLg_bitCount_57 : decode cLg_bitCount 57 = .ok (.bipush 127, 2) := by decide +kernel
theorem dLg_bitCount_59 : decode cLg_bitCount 59 = .ok (.iand, 1) := by decide +kernel
theorem dLg_bitCount_60 : decode cLg_bitCount 60 = .ok (.ireturn, 1) := by decide +kernel
theorem dG_clear_0 : decode cG_clear 0 = .ok (.aload_n 0, 1) := by decide +kernel
theorem dG_clear_1 : decode cG_clear 1 = .ok (.lconst 0, 1) := by decide +kernel
theorem dG_clear_2 : decode cG_clear 2 = .ok (.putfield 20, 3) := by decide +kernel
theorem dG_clear_5 : decode cG_clear 5 = .ok (.aload_n 0, 1) := by decide +kernel
theorem dG_clear_6 : decode cG_clear 6 = .ok (.getfield 14, 3) := by decide +kernel
theorem dG_clear_9 : decode cG_clear 9 = .ok (.iconst 0, 1) := by decide +kernel
theorem dG_clear_10 : decode cG_clear 10 = .ok (.invokevirtual 24, 3) := by decide +kernel
theorem dG_clear_13 : decode cG_clear 13 = .ok (.return_, 1) := by decide +kernel
theorem dG_takeIn_0 : decode cG_takeIn 0 = .ok (.aload_n 0, 1) := by decide +kernel
theorem dG_takeIn_1 : decode cG_takeIn 1 = .ok (.dup, 1) := by decide +kernel
theorem dG_takeIn_2 : decode cG_takeIn 2 = .ok (.getfield 20, 3) := by decide +kernel
theorem dG_takeIn_5 : decode cG_takeIn 5 = .ok (.lload_n 1, 1) := by decide +kernel
theorem dG_takeIn_6 : decode cG_takeIn 6 = .ok (.lor, 1) := by decide +kernel
theorem dG_takeIn_7 : decode cG_takeIn 7 = .ok (.putfield 20, 3) := by decide +kernel
theorem dG_takeIn_10 : decode cG_takeIn 10 = .ok (.aload_n 0, 1) := by decide +kernel
theorem dG_takeIn_11 : decode cG_takeIn 11 = .ok (.getfield 14, 3) := by decide +kernel
theorem dG_takeIn_14 : decode cG_takeIn 14 = .ok (.aload_n 3, 1) := by decide +kernel
theorem dG_takeIn_15 : decode cG_takeIn 15 = .ok (.iconst 0, 1) := by decide +kernel
theorem dG_takeIn_16 : decode cG_takeIn 16 = .ok (.invokevirtual 27, 3) := by decide +kernel
theorem dG_takeIn_19 : decode cG_takeIn 19 = .ok (.return_, 1) := by decide +kernel
theorem dG_become_0 : decode cG_become 0 = .ok (.aload_n 0, 1) := by decide +kernel
theorem dG_become_1 : decode cG_become 1 = .ok (.aload_n 1, 1) := by decide +kernel
theorem dG_become_2 : decode cG_become 2 = .ok (.getfield 20, 3) := by decide +kernel
theorem dG_become_5 : decode cG_become 5 = .ok (.putfield 20, 3) := by decide +kernel
theorem dG_become_8 : decode cG_become 8 = .ok (.aload_n 0, 1) := by decide +kernel
theorem dG_become_9 : decode cG_become 9 = .ok (.getfield 14, 3) := by decide +kernel
theorem dG_become_12 : decode cG_become 12 = .ok (.aload_n 1, 1) := by decide +kernel
theorem dG_become_13 : decode cG_become 13 = .ok (.getfield 14, 3) := by decide +kernel
theorem dG_become_16 : decode cG_become 16 = .ok (.invokevirtual 31, 3) := by decide +kernel
theorem dG_become_19 : decode cG_become 19 = .ok (.return_, 1) := by decide +kernel
theorem dR_setToSides_0 : decode cR_setToSides 0 = .ok (.aload_n 0, 1) := by decide +kernel
theorem dR_setToSides_1 : decode cR_setToSides 1 = .ok (.aload_n 1, 1) := by decide +kernel
theorem dR_setToSides_2 : decode cR_setToSides 2 = .ok (.aload_n 1, 1) := by decide +kernel
theorem dR_setToSides_3 : decode cR_setToSides 3 = .ok (.invokevirtual 306, 3) := by decide +kernel
theorem dR_setToSides_6 : decode cR_setToSides 6 = .ok (.aload_n 0, 1) := by decide +kernel
theorem dR_setToSides_7 : decode cR_setToSides 7 = .ok (.iload 4, 2) := by decide +kernel
theorem dR_setToSides_9 : decode cR_setToSides 9 = .ok (.i2l, 1) := by decide +kernel
theorem dR_setToSides_10 : decode cR_setToSides 10 = .ok (.invokevirtual 280, 3) := by decide +kernel
theorem dR_setToSides_13 : decode cR_setToSides 13 = .ok (.aload 5, 2) := by decide +kernel
theorem dR_setToSides_15 : decode cR_setToSides 15 = .ok (.aload_n 3, 1) := by decide +kernel
theorem dR_setToSides_16 : decode cR_setToSides 16 = .ok (.aload_n 3, 1) := by decide +kernel
theorem dR_setToSides_17 : decode cR_setToSides 17 = .ok (.invokevirtual 306, 3) := by decide +kernel
theorem dR_setToSides_20 : decode cR_setToSides 20 = .ok (.aload 5, 2) := by decide +kernel
theorem dR_setToSides_22 : decode cR_setToSides 22 = .ok (.iload_n 2, 1) := by decide +kernel
theorem dR_setToSides_23 : decode cR_setToSides 23 = .ok (.i2l, 1) := by decide +kernel
theorem dR_setToSides_24 : decode cR_setToSides 24 = .ok (.invokevirtual 280, 3) := by decide +kernel
theorem dR_setToSides_27 : decode cR_setToSides 27 = .ok (.aload_n 0, 1) := by decide +kernel
theorem dR_setToSides_28 : decode cR_setToSides 28 = .ok (.aload 5, 2) := by decide +kernel
theorem dR_setToSides_30 : decode cR_setToSides 30 = .ok (.iconst 0, 1) := by decide +kernel
theorem dR_setToSides_31 : decode cR_setToSides 31 = .ok (.invokevirtual 353, 3) := by decide +kernel
theorem dR_setToSides_34 : decode cR_setToSides 34 = .ok (.return_, 1) := by decide +kernel
