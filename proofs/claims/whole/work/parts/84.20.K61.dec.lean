theorem dT_newRow_0 : decode cT_newRow 0 = .ok (.aload_n 0, 1) := by decide +kernel
theorem dT_newRow_1 : decode cT_newRow 1 = .ok (.getfield 17, 3) := by decide +kernel
theorem dT_newRow_4 : decode cT_newRow 4 = .ok (.aload_n 0, 1) := by decide +kernel
theorem dT_newRow_5 : decode cT_newRow 5 = .ok (.getfield 26, 3) := by decide +kernel
theorem dT_newRow_8 : decode cT_newRow 8 = .ok (.iload_n 1, 1) := by decide +kernel
theorem dT_newRow_9 : decode cT_newRow 9 = .ok (.iastore, 1) := by decide +kernel
theorem dT_newRow_10 : decode cT_newRow 10 = .ok (.aload_n 0, 1) := by decide +kernel
theorem dT_newRow_11 : decode cT_newRow 11 = .ok (.getfield 11, 3) := by decide +kernel
theorem dT_newRow_14 : decode cT_newRow 14 = .ok (.astore_n 2, 1) := by decide +kernel
theorem dT_newRow_15 : decode cT_newRow 15 = .ok (.aload_n 2, 1) := by decide +kernel
theorem dT_newRow_16 : decode cT_newRow 16 = .ok (.arraylength, 1) := by decide +kernel
theorem dT_newRow_17 : decode cT_newRow 17 = .ok (.istore_n 3, 1) := by decide +kernel
theorem dT_newRow_18 : decode cT_newRow 18 = .ok (.iconst 0, 1) := by decide +kernel
theorem dT_newRow_19 : decode cT_newRow 19 = .ok (.istore 4, 2) := by decide +kernel
theorem dT_newRow_21 : decode cT_newRow 21 = .ok (.iload 4, 2) := by decide +kernel
theorem dT_newRow_23 : decode cT_newRow 23 = .ok (.iload_n 3, 1) := by decide +kernel
theorem dT_newRow_24 : decode cT_newRow 24 = .ok (.if_icmp .ge 27, 3) := by decide +kernel
theorem dT_newRow_27 : decode cT_newRow 27 = .ok (.aload_n 2, 1) := by decide +kernel
theorem dT_newRow_28 : decode cT_newRow 28 = .ok (.iload 4, 2) := by decide +kernel
theorem dT_newRow_30 : decode cT_newRow 30 = .ok (.aaload, 1) := by decide +kernel
theorem dT_newRow_31 : decode cT_newRow 31 = .ok (.astore 5, 2) := by decide +kernel
theorem dT_newRow_33 : decode cT_newRow 33 = .ok (.aload 5, 2) := by decide +kernel
theorem dT_newRow_35 : decode cT_newRow 35 = .ok (.getfield 33, 3) := by decide +kernel
theorem dT_newRow_38 : decode cT_newRow 38 = .ok (.aload_n 0, 1) := by decide +kernel
theorem dT_newRow_39 : decode cT_newRow 39 = .ok (.getfield 26, 3) := by decide +kernel
theorem dT_newRow_42 : decode cT_newRow 42 = .ok (.ldc 36, 2) := by decide +kernel
theorem dT_newRow_44 : decode cT_newRow 44 = .ok (.iastore, 1) := by decide +kernel
theorem dT_newRow_45 : decode cT_newRow 45 = .ok (.iinc 4 1, 3) := by decide +kernel
theorem dT_newRow_48 : decode cT_newRow 48 = .ok (.goto (-27), 3) := by decide +kernel
theorem dT_newRow_51 : decode cT_newRow 51 = .ok (.aload_n 0, 1) := by decide +kernel
theorem dT_newRow_52 : decode cT_newRow 52 = .ok (.dup, 1) := by decide +kernel
theorem dT_newRow_53 : decode cT_newRow 53 = .ok (.getfield 26, 3) := by decide +kernel
theorem dT_newRow_56 : decode cT_newRow 56 = .ok (.dup_x1, 1) := by decide +kernel
theorem dT_newRow_57 : decode cT_newRow 57 = .ok (.iconst 1, 1) := by decide +kernel
theorem dT_newRow_58 : decode cT_newRow 58 = .ok (.iadd, 1) := by decide +kernel
theorem dT_newRow_59 : decode cT_newRow 59 = .ok (.putfield 26, 3) := by decide +kernel
theorem dT_newRow_62 : decode cT_newRow 62 = .ok (.ireturn, 1) := by decide +kernel
theorem dR_add_0 : decode cR_add 0 = .ok (.iload_n 1, 1) := by decide +kernel
theorem dR_add_1 : decode cR_add 1 = .ok (.invokestatic 90, 3) := by decide +kernel
theorem dR_add_4 : decode cR_add 4 = .ok (.invokestatic 86, 3) := by decide +kernel
theorem dR_add_7 : decode cR_add 7 = .ok (.aload_n 0, 1) := by decide +kernel
theorem dR_add_8 : decode cR_add 8 = .ok (.getfield 12, 3) := by decide +kernel
theorem dR_add_11 : decode cR_add 11 = .ok (.getfield 94, 3) := by decide +kernel
theorem dR_add_14 : decode cR_add 14 = .ok (.bipush 48, 2) := by decide +kernel
theorem dR_add_16 : decode cR_add 16 = .ok (.if_icmp .ge 7, 3) := by decide +kernel
theorem dR_add_19 : decode cR_add 19 = .ok (.iconst 1, 1) := by decide +kernel
theorem dR_add_20 : decode cR_add 20 = .ok (.goto 4, 3) := by decide +kernel
theorem dR_add_23 : decode cR_add 23 = .ok (.iconst 0, 1) := by decide +kernel
theorem dR_add_24 : decode cR_add 24 = .ok (.invokestatic 98, 3) := by decide +kernel
theorem dR_add_27 : decode cR_add 27 = .ok (.aload_n 0, 1) := by decide +kernel
theorem dR_add_28 : decode cR_add 28 = .ok (.getfield 12, 3) := by decide +kernel
theorem dR_add_31 : decode cR_add 31 = .ok (.iload_n 1, 1) := by decide +kernel
theorem dR_add_32 : decode cR_add 32 = .ok (.invokevirtual 101, 3) := by decide +kernel
theorem dR_add_35 : decode cR_add 35 = .ok (.ireturn, 1) := by decide +kernel
theorem dT_clear_0 : decode cT_clear 0 = .ok (.aload_n 0, 1) := by decide +kernel
theorem dT_clear_1 : decode cT_clear 1 = .ok (.iload_n 1, 1) := by decide +kernel
theorem dT_clear_2 : decode cT_clear 2 = .ok (.putfield 22, 3) := by decide +kernel
theorem dT_clear_5 : decode cT_clear 5 = .ok (.aload_n 0, 1) := by decide +kernel
theorem dT_clear_6 : decode cT_clear 6 = .ok (.iconst 0, 1) := by decide +kernel
theorem dT_clear_7 : decode cT_clear 7 = .ok (.putfield 26, 3) := by decide +kernel
theorem dT_clear_10 : decode cT_clear 10 = .ok (.aload_n 0, 1) := by decide +kernel
theorem dT_clear_11 : decode cT_clear 11 = .ok (.getfield 11, 3) := by decide +kernel
theorem dT_clear_14 : decode cT_clear 14 = .ok (.astore_n 2, 1) := by decide +kernel
theorem dT_clear_15 : decode cT_clear 15 = .ok (.aload_n 2, 1) := by decide +kernel
theorem dT_clear_16 : decode cT_clear 16 = .ok (.arraylength, 1) := by decide +kernel
theorem dT_clear_17 : decode cT_clear 17 = .ok (.istore_n 3, 1) := by decide +kernel
theorem dT_clear_18 : decode cT_clear 18 = .ok (.iconst 0, 1) := by decide +kernel
theorem dT_clear_19 : decode cT_clear 19 = .ok (.istore 4, 2) := by decide +kernel
theorem dT_clear_21 : decode cT_clear 21 = .ok (.iload 4, 2) := by decide +kernel
theorem dT_clear_23 : decode cT_clear 23 = .ok (.iload_n 3, 1) := by decide +kernel
theorem dT_clear_24 : decode cT_clear 24 = .ok (.if_icmp .ge 32, 3) := by decide +kernel
theorem dT_clear_27 : decode cT_clear 27 = .ok (.aload_n 2, 1) := by decide +kernel
theorem dT_clear_28 : decode cT_clear 28 = .ok (.iload 4, 2) := by decide +kernel
theorem dT_clear_30 : decode cT_clear 30 = .ok (.aaload, 1) := by decide +kernel
theorem dT_clear_31 : decode cT_clear 31 = .ok (.astore 5, 2) := by decide +kernel
theorem dT_clear_33 : decode cT_clear 33 = .ok (.aload 5, 2) := by decide +kernel
theorem dT_clear_35 : decode cT_clear 35 = .ok (.iconst 0, 1) := by decide +kernel
theorem dT_clear_36 : decode cT_clear 36 = .ok (.invokevirtual 29, 3) := by decide +kernel
theorem dT_clear_39 : decode cT_clear 39 = .ok (.pop, 1) := by decide +kernel
theorem dT_clear_40 : decode cT_clear 40 = .ok (.aload 5, 2) := by decide +kernel
theorem dT_clear_42 : decode cT_clear 42 = .ok (.getfield 33, 3) := by decide +kernel
theorem dT_clear_45 : decode cT_clear 45 = .ok (.bipush 48, 2) := by decide +kernel
theorem dT_clear_47 : decode cT_clear 47 = .ok (.ldc 36, 2) := by decide +kernel
theorem dT_clear_49 : decode cT_clear 49 = .ok (.iastore, 1) := by decide +kernel
theorem dT_clear_50 : decode cT_clear 50 = .ok (.iinc 4 1, 3) := by decide +kernel
theorem dT_clear_53 : decode cT_clear 53 = .ok (.goto (-32), 3) := by decide +kernel
theorem dT_clear_56 : decode cT_clear 56 = .ok (.return_, 1) := by decide +kernel
theorem dR_startOver_0 : decode cR_startOver 0 = .ok (.aload_n 0, 1) := by decide +kernel
theorem dR_startOver_1 : decode cR_startOver 1 = .ok (.getfield 12, 3) := by decide +kernel
theorem dR_startOver_4 : decode cR_startOver 4 = .ok (.iload_n 1, 1) := by decide +kernel
theorem dR_startOver_5 : decode cR_startOver 5 = .ok (.invokevirtual 325, 3) := by decide +kernel
theorem dR_startOver_8 : decode cR_startOver 8 = .ok (.aload_n 0, 1) := by decide +kernel
theorem dR_startOver_9 : decode cR_startOver 9 = .ok (.getfield 19, 3) := by decide +kernel
theorem dR_startOver_12 : decode cR_startOver 12 = .ok (.invokevirtual 328, 3) := by decide +kernel
theorem dR_startOver_15 : decode cR_startOver 15 = .ok (.aload_n 0, 1) := by decide +kernel
theorem dR_startOver_16 : decode cR_startOver 16 = .ok (.iconst 0, 1) := by decide +kernel
theorem dR_startOver_17 : decode cR_startOver 17 = .ok (.putfield 192, 3) := by decide +kernel
theorem dR_startOver_20 : decode cR_startOver 20 = .ok (.aload_n 0, 1) := by decide +kernel
theorem dR_startOver_21 : decode cR_startOver 21 = .ok (.getfield 50, 3) := by decide +kernel
theorem dR_startOver_24 : decode cR_startOver 24 = .ok (.iconst 0, 1) := by decide +kernel
theorem dR_startOver_25 : decode cR_startOver 25 = .ok (.putfield 253, 3) := by decide +kernel
theorem dR_startOver_28 : decode cR_startOver 28 = .ok (.return_, 1) := by decide +kernel
theorem dR_begin_0 : decode cR_begin 0 = .ok (.iload_n 1, 1) := by decide +kernel
theorem dR_begin_1 : decode cR_begin 1 = .ok (.iconst 1, 1) := by decide +kernel
theorem dR_begin_2 : decode cR_begin 2 = .ok (.bipush 6, 2) := by decide +kernel
theorem dR_begin_4 : decode cR_begin 4 = .ok (.invokestatic 82, 3) := by decide +kernel
theorem dR_begin_7 : decode cR_begin 7 = .ok (.invokestatic 86, 3) := by decide +kernel
theorem dR_begin_10 : decode cR_begin 10 = .ok (.aload_n 0, 1) := by decide +kernel
theorem dR_begin_11 : decode cR_begin 11 = .ok (.iload_n 1, 1) := by decide +kernel
theorem dR_begin_12 : decode cR_begin 12 = .ok (.invokevirtual 79, 3) := by decide +kernel
theorem dR_begin_15 : decode cR_begin 15 = .ok (.return_, 1) := by decide +kernel
