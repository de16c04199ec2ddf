theorem dM_isValue_0 : decode cM_isValue 0 = .ok (.aload_n 0, 1) := by decide +kernel
theorem dM_isValue_1 : decode cM_isValue 1 = .ok (.getfield 19, 3) := by decide +kernel
theorem dM_isValue_4 : decode cM_isValue 4 = .ok (.iload_n 1, 1) := by decide +kernel
theorem dM_isValue_5 : decode cM_isValue 5 = .ok (.baload, 1) := by decide +kernel
theorem dM_isValue_6 : decode cM_isValue 6 = .ok (.ifCond .eq 13, 3) := by decide +kernel
theorem dM_isValue_9 : decode cM_isValue 9 = .ok (.iload_n 2, 1) := by decide +kernel
theorem dM_isValue_10 : decode cM_isValue 10 = .ok (.iconst 0, 1) := by decide +kernel
theorem dM_isValue_11 : decode cM_isValue 11 = .ok (.bipush 11, 2) := by decide +kernel
theorem dM_isValue_13 : decode cM_isValue 13 = .ok (.invokestatic 227, 3) := by decide +kernel
theorem dM_isValue_16 : decode cM_isValue 16 = .ok (.goto 7, 3) := by decide +kernel
theorem dM_isValue_19 : decode cM_isValue 19 = .ok (.iload_n 2, 1) := by decide +kernel
theorem dM_isValue_20 : decode cM_isValue 20 = .ok (.invokestatic 237, 3) := by decide +kernel
theorem dM_isValue_23 : decode cM_isValue 23 = .ok (.ireturn, 1) := by decide +kernel
theorem dM_put_0 : decode cM_put 0 = .ok (.aload_n 0, 1) := by decide +kernel
theorem dM_put_1 : decode cM_put 1 = .ok (.aload_n 0, 1) := by decide +kernel
theorem dM_put_2 : decode cM_put 2 = .ok (.iload_n 1, 1) := by decide +kernel
theorem dM_put_3 : decode cM_put 3 = .ok (.invokevirtual 240, 3) := by decide +kernel
theorem dM_put_6 : decode cM_put 6 = .ok (.ifCond .ne 26, 3) := by decide +kernel
theorem dM_put_9 : decode cM_put 9 = .ok (.aload_n 0, 1) := by decide +kernel
theorem dM_put_10 : decode cM_put 10 = .ok (.iload_n 2, 1) := by decide +kernel
theorem dM_put_11 : decode cM_put 11 = .ok (.invokevirtual 243, 3) := by decide +kernel
theorem dM_put_14 : decode cM_put 14 = .ok (.ifCond .ne 18, 3) := by decide +kernel
theorem dM_put_17 : decode cM_put 17 = .ok (.iload_n 3, 1) := by decide +kernel
theorem dM_put_18 : decode cM_put 18 = .ok (.ldc 226, 2) := by decide +kernel
theorem dM_put_20 : decode cM_put 20 = .ok (.if_icmp .eq 16, 3) := by decide +kernel
theorem dM_put_23 : decode cM_put 23 = .ok (.aload_n 0, 1) := by decide +kernel
theorem dM_put_24 : decode cM_put 24 = .ok (.iload_n 2, 1) := by decide +kernel
theorem dM_put_25 : decode cM_put 25 = .ok (.iload_n 3, 1) := by decide +kernel
theorem dM_put_26 : decode cM_put 26 = .ok (.invokevirtual 246, 3) := by decide +kernel
theorem dM_put_29 : decode cM_put 29 = .ok (.ifCond .ne 7, 3) := by decide +kernel
theorem dM_put_32 : decode cM_put 32 = .ok (.iconst 1, 1) := by decide +kernel
theorem dM_put_33 : decode cM_put 33 = .ok (.goto 4, 3) := by decide +kernel
theorem dM_put_36 : decode cM_put 36 = .ok (.iconst 0, 1) := by decide +kernel
theorem dM_put_37 : decode cM_put 37 = .ok (.invokevirtual 231, 3) := by decide +kernel
theorem dM_put_40 : decode cM_put 40 = .ok (.ifCond .eq 5, 3) := by decide +kernel
theorem dM_put_43 : decode cM_put 43 = .ok (.iconst 0, 1) := by decide +kernel
theorem dM_put_44 : decode cM_put 44 = .ok (.ireturn, 1) := by decide +kernel
theorem dM_put_45 : decode cM_put 45 = .ok (.aload_n 0, 1) := by decide +kernel
theorem dM_put_46 : decode cM_put 46 = .ok (.getfield 16, 3) := by decide +kernel
theorem dM_put_49 : decode cM_put 49 = .ok (.bipush 6, 2) := by decide +kernel
theorem dM_put_51 : decode cM_put 51 = .ok (.iload_n 1, 1) := by decide +kernel
theorem dM_put_52 : decode cM_put 52 = .ok (.imul, 1) := by decide +kernel
theorem dM_put_53 : decode cM_put 53 = .ok (.iload_n 2, 1) := by decide +kernel
theorem dM_put_54 : decode cM_put 54 = .ok (.iadd, 1) := by decide +kernel
theorem dM_put_55 : decode cM_put 55 = .ok (.iaload, 1) := by decide +kernel
theorem dM_put_56 : decode cM_put 56 = .ok (.istore 4, 2) := by decide +kernel
theorem dM_put_58 : decode cM_put 58 = .ok (.aload_n 0, 1) := by decide +kernel
theorem dM_put_59 : decode cM_put 59 = .ok (.getfield 16, 3) := by decide +kernel
theorem dM_put_62 : decode cM_put 62 = .ok (.bipush 6, 2) := by decide +kernel
theorem dM_put_64 : decode cM_put 64 = .ok (.iload_n 1, 1) := by decide +kernel
theorem dM_put_65 : decode cM_put 65 = .ok (.imul, 1) := by decide +kernel
theorem dM_put_66 : decode cM_put 66 = .ok (.iload_n 2, 1) := by decide +kernel
theorem dM_put_67 : decode cM_put 67 = .ok (.iadd, 1) := by decide +kernel
theorem dM_put_68 : decode cM_put 68 = .ok (.iload_n 3, 1) := by decide +kernel
theorem dM_put_69 : decode cM_put 69 = .ok (.iastore, 1) := by decide +kernel
theorem dM_put_70 : decode cM_put 70 = .ok (.iload 4, 2) := by decide +kernel
theorem dM_put_72 : decode cM_put 72 = .ok (.ireturn, 1) := by decide +kernel
theorem dM_clear_0 : decode cM_clear 0 = .ok (.aload_n 0, 1) := by decide +kernel
theorem dM_clear_1 : decode cM_clear 1 = .ok (.iload_n 1, 1) := by decide +kernel
theorem dM_clear_2 : decode cM_clear 2 = .ok (.putfield 190, 3) := by decide +kernel
theorem dM_clear_5 : decode cM_clear 5 = .ok (.aload_n 0, 1) := by decide +kernel
theorem dM_clear_6 : decode cM_clear 6 = .ok (.iconst 0, 1) := by decide +kernel
theorem dM_clear_7 : decode cM_clear 7 = .ok (.putfield 193, 3) := by decide +kernel
theorem dM_clear_10 : decode cM_clear 10 = .ok (.aload_n 0, 1) := by decide +kernel
theorem dM_clear_11 : decode cM_clear 11 = .ok (.iconst 0, 1) := by decide +kernel
theorem dM_clear_12 : decode cM_clear 12 = .ok (.putfield 196, 3) := by decide +kernel
theorem dM_clear_15 : decode cM_clear 15 = .ok (.aload_n 0, 1) := by decide +kernel
theorem dM_clear_16 : decode cM_clear 16 = .ok (.iconst 0, 1) := by decide +kernel
theorem dM_clear_17 : decode cM_clear 17 = .ok (.putfield 199, 3) := by decide +kernel
theorem dM_clear_20 : decode cM_clear 20 = .ok (.aload_n 0, 1) := by decide +kernel
theorem dM_clear_21 : decode cM_clear 21 = .ok (.iconst 2, 1) := by decide +kernel
theorem dM_clear_22 : decode cM_clear 22 = .ok (.putfield 202, 3) := by decide +kernel
theorem dM_clear_25 : decode cM_clear 25 = .ok (.aload_n 0, 1) := by decide +kernel
theorem dM_clear_26 : decode cM_clear 26 = .ok (.iconst 1, 1) := by decide +kernel
theorem dM_clear_27 : decode cM_clear 27 = .ok (.putfield 205, 3) := by decide +kernel
theorem dM_clear_30 : decode cM_clear 30 = .ok (.aload_n 0, 1) := by decide +kernel
theorem dM_clear_31 : decode cM_clear 31 = .ok (.iconst 0, 1) := by decide +kernel
theorem dM_clear_32 : decode cM_clear 32 = .ok (.putfield 208, 3) := by decide +kernel
theorem dM_clear_35 : decode cM_clear 35 = .ok (.aload_n 0, 1) := by decide +kernel
theorem dM_clear_36 : decode cM_clear 36 = .ok (.iconst 1, 1) := by decide +kernel
theorem dM_clear_37 : decode cM_clear 37 = .ok (.putfield 211, 3) := by decide +kernel
theorem dM_clear_40 : decode cM_clear 40 = .ok (.aload_n 0, 1) := by decide +kernel
theorem dM_clear_41 : decode cM_clear 41 = .ok (.iconst 2, 1) := by decide +kernel
theorem dM_clear_42 : decode cM_clear 42 = .ok (.putfield 214, 3) := by decide +kernel
theorem dM_clear_45 : decode cM_clear 45 = .ok (.aload_n 0, 1) := by decide +kernel
theorem dM_clear_46 : decode cM_clear 46 = .ok (.ldc2_w 217, 3) := by decide +kernel
theorem dM_clear_49 : decode cM_clear 49 = .ok (.putfield 219, 3) := by decide +kernel
theorem dM_clear_52 : decode cM_clear 52 = .ok (.aload_n 0, 1) := by decide +kernel
theorem dM_clear_53 : decode cM_clear 53 = .ok (.iconst (-1), 1) := by decide +kernel
theorem dM_clear_54 : decode cM_clear 54 = .ok (.putfield 223, 3) := by decide +kernel
theorem dM_clear_57 : decode cM_clear 57 = .ok (.iconst 0, 1) := by decide +kernel
theorem dM_clear_58 : decode cM_clear 58 = .ok (.istore_n 2, 1) := by decide +kernel
theorem dM_clear_59 : decode cM_clear 59 = .ok (.iload_n 2, 1) := by decide +kernel
theorem dM_clear_60 : decode cM_clear 60 = .ok (.bipush 6, 2) := by decide +kernel
theorem dM_clear_62 : decode cM_clear 62 = .ok (.if_icmp .ge 31, 3) := by decide +kernel
theorem dM_clear_65 : decode cM_clear 65 = .ok (.aload_n 0, 1) := by decide +kernel
theorem dM_clear_66 : decode cM_clear 66 = .ok (.getfield 19, 3) := by decide +kernel
theorem dM_clear_69 : decode cM_clear 69 = .ok (.iload_n 2, 1) := by decide +kernel
theorem dM_clear_70 : decode cM_clear 70 = .ok (.iconst 0, 1) := by decide +kernel
theorem dM_clear_71 : decode cM_clear 71 = .ok (.bastore, 1) := by decide +kernel
theorem dM_clear_72 : decode cM_clear 72 = .ok (.aload_n 0, 1) := by decide +kernel
theorem dM_clear_73 : decode cM_clear 73 = .ok (.getfield 26, 3) := by decide +kernel
theorem dM_clear_76 : decode cM_clear 76 = .ok (.iload_n 2, 1) := by decide +kernel
theorem dM_clear_77 : decode cM_clear 77 = .ok (.iconst 0, 1) := by decide +kernel
theorem dM_clear_78 : decode cM_clear 78 = .ok (.iastore, 1) := by decide +kernel
theorem dM_clear_79 : decode cM_clear 79 = .ok (.aload_n 0, 1) := by decide +kernel
theorem dM_clear_80 : decode cM_clear 80 = .ok (.getfield 29, 3) := by decide +kernel
theorem dM_clear_83 : decode cM_clear 83 = .ok (.iload_n 2, 1) := by decide +kernel
theorem dM_clear_84 : decode cM_clear 84 = .ok (.ldc 226, 2) := by decide +kernel
theorem dM_clear_86 : decode cM_clear 86 = .ok (.iastore, 1) := by decide +kernel
theorem dM_clear_87 : decode cM_clear 87 = .ok (.iinc 2 1, 3) := by decide +kernel
theorem dM_clear_90 : decode cM_clear 90 = .ok (.goto (-31), 3) := by decide +kernel
theorem dM_clear_93 : decode cM_clear 93 = .ok (.return_, 1) := by decide +kernel
theorem dM_begin_0 : decode cM_begin 0 = .ok (.aload_n 0, 1) := by decide +kernel
theorem dM_begin_1 : decode cM_begin 1 = .ok (.iload_n 1, 1) := by decide +kernel
theorem dM_begin_2 : decode cM_begin 2 = .ok (.iconst 1, 1) := by decide +kernel
theorem dM_begin_3 : decode cM_begin 3 = .ok (.bipush 6, 2) := by decide +kernel
theorem dM_begin_5 : decode cM_begin 5 = .ok (.invokestatic 227, 3) := by decide +kernel
theorem dM_begin_8 : decode cM_begin 8 = .ok (.ifCond .eq 7, 3) := by decide +kernel
theorem dM_begin_11 : decode cM_begin 11 = .ok (.iconst 0, 1) := by decide +kernel
theorem dM_begin_12 : decode cM_begin 12 = .ok (.goto 4, 3) := by decide +kernel
theorem dM_begin_15 : decode cM_begin 15 = .ok (.iconst 1, 1) := by decide +kernel
theorem dM_begin_16 : decode cM_begin 16 = .ok (.invokevirtual 231, 3) := by decide +kernel
theorem dM_begin_19 : decode cM_begin 19 = .ok (.ifCond .ne 8, 3) := by decide +kernel
theorem dM_begin_22 : decode cM_begin 22 = .ok (.aload_n 0, 1) := by decide +kernel
theorem dM_begin_23 : decode cM_begin 23 = .ok (.iload_n 1, 1) := by decide +kernel
theorem dM_begin_24 : decode cM_begin 24 = .ok (.invokevirtual 140, 3) := by decide +kernel
theorem dM_begin_27 : decode cM_begin 27 = .ok (.return_, 1) := by decide +kernel
theorem dM_addb_0 : decode cM_addb 0 = .ok (.aload_n 0, 1) := by decide +kernel
theorem dM_addb_1 : decode cM_addb 1 = .ok (.iload_n 1, 1) := by decide +kernel
theorem dM_addb_2 : decode cM_addb 2 = .ok (.sipush (-1000), 3) := by decide +kernel
theorem dM_addb_5 : decode cM_addb 5 = .ok (.sipush 1000, 3) := by decide +kernel
theorem dM_addb_8 : decode cM_addb 8 = .ok (.invokestatic 227, 3) := by decide +kernel
theorem dM_addb_11 : decode cM_addb 11 = .ok (.ifCond .ne 7, 3) := by decide +kernel
theorem dM_addb_14 : decode cM_addb 14 = .ok (.iconst 1, 1) := by decide +kernel
theorem dM_addb_15 : decode cM_addb 15 = .ok (.goto 17, 3) := by decide +kernel
theorem dM_addb_18 : decode cM_addb 18 = .ok (.aload_n 0, 1) := by decide +kernel
theorem dM_addb_19 : decode cM_addb 19 = .ok (.getfield 193, 3) := by decide +kernel
theorem dM_addb_22 : decode cM_addb 22 = .ok (.bipush 48, 2) := by decide +kernel
theorem dM_addb_24 : decode cM_addb 24 = .ok (.if_icmp .ne 7, 3) := by decide +kernel
theorem dM_addb_27 : decode cM_addb 27 = .ok (.iconst 2, 1) := by decide +kernel
theorem dM_addb_28 : decode cM_addb 28 = .ok (.goto 4, 3) := by decide +kernel
theorem dM_addb_31 : decode cM_addb 31 = .ok (.iconst 0, 1) := by decide +kernel
theorem dM_addb_32 : decode cM_addb 32 = .ok (.invokevirtual 231, 3) := by decide +kernel
theorem dM_addb_35 : decode cM_addb 35 = .ok (.ifCond .eq 5, 3) := by decide +kernel
theorem dM_addb_38 : decode cM_addb 38 = .ok (.iconst 0, 1) := by decide +kernel
theorem dM_addb_39 : decode cM_addb 39 = .ok (.ireturn, 1) := by decide +kernel
theorem dM_addb_40 : decode cM_addb 40 = .ok (.aload_n 0, 1) := by decide +kernel
theorem dM_addb_41 : decode cM_addb 41 = .ok (.getfield 13, 3) := by decide +kernel
theorem dM_addb_44 : decode cM_addb 44 = .ok (.aload_n 0, 1) := by decide +kernel
theorem dM_addb_45 : decode cM_addb 45 = .ok (.getfield 193, 3) := by decide +kernel
theorem dM_addb_48 : decode cM_addb 48 = .ok (.iload_n 1, 1) := by decide +kernel
theorem dM_addb_49 : decode cM_addb 49 = .ok (.iastore, 1) := by decide +kernel
theorem dM_addb_50 : decode cM_addb 50 = .ok (.iconst 0, 1) := by decide +kernel
theorem dM_addb_51 : decode cM_addb 51 = .ok (.istore_n 2, 1) := by decide +kernel
theorem dM_addb_52 : decode cM_addb 52 = .ok (.iload_n 2, 1) := by decide +kernel
theorem dM_addb_53 : decode cM_addb 53 = .ok (.bipush 6, 2) := by decide +kernel
theorem dM_addb_55 : decode cM_addb 55 = .ok (.if_icmp .ge 25, 3) := by decide +kernel
theorem dM_addb_58 : decode cM_addb 58 = .ok (.aload_n 0, 1) := by decide +kernel
theorem dM_addb_59 : decode cM_addb 59 = .ok (.getfield 16, 3) := by decide +kernel
theorem dM_addb_62 : decode cM_addb 62 = .ok (.bipush 6, 2) := by decide +kernel
theorem dM_addb_64 : decode cM_addb 64 = .ok (.aload_n 0, 1) := by decide +kernel
theorem dM_addb_65 : decode cM_addb 65 = .ok (.getfield 193, 3) := by decide +kernel
theorem dM_addb_68 : decode cM_addb 68 = .ok (.imul, 1) := by decide +kernel
theorem dM_addb_69 : decode cM_addb 69 = .ok (.iload_n 2, 1) := by decide +kernel
theorem dM_addb_70 : decode cM_addb 70 = .ok (.iadd, 1) := by decide +kernel
theorem dM_addb_71 : decode cM_addb 71 = .ok (.ldc 226, 2) := by decide +kernel
theorem dM_addb_73 : decode cM_addb 73 = .ok (.iastore, 1) := by decide +kernel
theorem dM_addb_74 : decode cM_addb 74 = .ok (.iinc 2 1, 3) := by decide +kernel
theorem dM_addb_77 : decode cM_addb 77 = .ok (.goto (-25), 3) := by decide +kernel
theorem dM_addb_80 : decode cM_addb 80 = .ok (.aload_n 0, 1) := by decide +kernel
theorem dM_addb_81 : decode cM_addb 81 = .ok (.dup, 1) := by decide +kernel
theorem dM_addb_82 : decode cM_addb 82 = .ok (.getfield 193, 3) := by decide +kernel
theorem dM_addb_85 : decode cM_addb 85 = .ok (.iconst 1, 1) := by decide +kernel
theorem dM_addb_86 : decode cM_addb 86 = .ok (.iadd, 1) := by decide +kernel
theorem dM_addb_87 : decode cM_addb 87 = .ok (.putfield 193, 3) := by decide +kernel
theorem dM_addb_90 : decode cM_addb 90 = .ok (.aload_n 0, 1) := by decide +kernel
theorem dM_addb_91 : decode cM_addb 91 = .ok (.getfield 193, 3) := by decide +kernel
theorem dM_addb_94 : decode cM_addb 94 = .ok (.iconst 1, 1) := by decide +kernel
theorem dM_addb_95 : decode cM_addb 95 = .ok (.isub, 1) := by decide +kernel
theorem dM_addb_96 : decode cM_addb 96 = .ok (.ireturn, 1) := by decide +kernel
