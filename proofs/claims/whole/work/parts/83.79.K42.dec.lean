theorem dGr_isBefore_0 : decode cGr_isBefore 0 = .ok (.aload_n 0, 1) := by decide +kernel
theorem dGr_isBefore_1 : decode cGr_isBefore 1 = .ok (.getfield 41, 3) := by decide +kernel
theorem dGr_isBefore_4 : decode cGr_isBefore 4 = .ok (.aload_n 1, 1) := by decide +kernel
theorem dGr_isBefore_5 : decode cGr_isBefore 5 = .ok (.getfield 211, 3) := by decide +kernel
theorem dGr_isBefore_8 : decode cGr_isBefore 8 = .ok (.invokevirtual 162, 3) := by decide +kernel
theorem dGr_isBefore_11 : decode cGr_isBefore 11 = .ok (.aload_n 0, 1) := by decide +kernel
theorem dGr_isBefore_12 : decode cGr_isBefore 12 = .ok (.getfield 41, 3) := by decide +kernel
theorem dGr_isBefore_15 : decode cGr_isBefore 15 = .ok (.aload_n 2, 1) := by decide +kernel
theorem dGr_isBefore_16 : decode cGr_isBefore 16 = .ok (.getfield 209, 3) := by decide +kernel
theorem dGr_isBefore_19 : decode cGr_isBefore 19 = .ok (.invokestatic 69, 3) := by decide +kernel
theorem dGr_isBefore_22 : decode cGr_isBefore 22 = .ok (.aload_n 0, 1) := by decide +kernel
theorem dGr_isBefore_23 : decode cGr_isBefore 23 = .ok (.getfield 61, 3) := by decide +kernel
theorem dGr_isBefore_26 : decode cGr_isBefore 26 = .ok (.getfield 166, 3) := by decide +kernel
theorem dGr_isBefore_29 : decode cGr_isBefore 29 = .ok (.iadd, 1) := by decide +kernel
theorem dGr_isBefore_30 : decode cGr_isBefore 30 = .ok (.i2l, 1) := by decide +kernel
theorem dGr_isBefore_31 : decode cGr_isBefore 31 = .ok (.invokevirtual 169, 3) := by decide +kernel
theorem dGr_isBefore_34 : decode cGr_isBefore 34 = .ok (.aload_n 0, 1) := by decide +kernel
theorem dGr_isBefore_35 : decode cGr_isBefore 35 = .ok (.getfield 44, 3) := by decide +kernel
theorem dGr_isBefore_38 : decode cGr_isBefore 38 = .ok (.aload_n 2, 1) := by decide +kernel
theorem dGr_isBefore_39 : decode cGr_isBefore 39 = .ok (.getfield 211, 3) := by decide +kernel
theorem dGr_isBefore_42 : decode cGr_isBefore 42 = .ok (.invokevirtual 162, 3) := by decide +kernel
theorem dGr_isBefore_45 : decode cGr_isBefore 45 = .ok (.aload_n 0, 1) := by decide +kernel
theorem dGr_isBefore_46 : decode cGr_isBefore 46 = .ok (.getfield 44, 3) := by decide +kernel
theorem dGr_isBefore_49 : decode cGr_isBefore 49 = .ok (.aload_n 1, 1) := by decide +kernel
theorem dGr_isBefore_50 : decode cGr_isBefore 50 = .ok (.getfield 209, 3) := by decide +kernel
theorem dGr_isBefore_53 : decode cGr_isBefore 53 = .ok (.invokestatic 69, 3) := by decide +kernel
theorem dGr_isBefore_56 : decode cGr_isBefore 56 = .ok (.aload_n 0, 1) := by decide +kernel
theorem dGr_isBefore_57 : decode cGr_isBefore 57 = .ok (.getfield 61, 3) := by decide +kernel
theorem dGr_isBefore_60 : decode cGr_isBefore 60 = .ok (.getfield 166, 3) := by decide +kernel
theorem dGr_isBefore_63 : decode cGr_isBefore 63 = .ok (.iadd, 1) := by decide +kernel
theorem dGr_isBefore_64 : decode cGr_isBefore 64 = .ok (.i2l, 1) := by decide +kernel
theorem dGr_isBefore_65 : decode cGr_isBefore 65 = .ok (.invokevirtual 169, 3) := by decide +kernel
theorem dGr_isBefore_68 : decode cGr_isBefore 68 = .ok (.aload_n 0, 1) := by decide +kernel
theorem dGr_isBefore_69 : decode cGr_isBefore 69 = .ok (.getfield 41, 3) := by decide +kernel
theorem dGr_isBefore_72 : decode cGr_isBefore 72 = .ok (.aload_n 0, 1) := by decide +kernel
theorem dGr_isBefore_73 : decode cGr_isBefore 73 = .ok (.getfield 44, 3) := by decide +kernel
theorem dGr_isBefore_76 : decode cGr_isBefore 76 = .ok (.invokevirtual 180, 3) := by decide +kernel
theorem dGr_isBefore_79 : decode cGr_isBefore 79 = .ok (.ifCond .ge 7, 3) := by decide +kernel
theorem dGr_isBefore_82 : decode cGr_isBefore 82 = .ok (.iconst 1, 1) := by decide +kernel
theorem dGr_isBefore_83 : decode cGr_isBefore 83 = .ok (.goto 4, 3) := by decide +kernel
theorem dGr_isBefore_86 : decode cGr_isBefore 86 = .ok (.iconst 0, 1) := by decide +kernel
theorem dGr_isBefore_87 : decode cGr_isBefore 87 = .ok (.ireturn, 1) := by decide +kernel
theorem dGr_isBetter_0 : decode cGr_isBetter 0 = .ok (.aload_n 0, 1) := by decide +kernel
theorem dGr_isBetter_1 : decode cGr_isBetter 1 = .ok (.getfield 41, 3) := by decide +kernel
theorem dGr_isBetter_4 : decode cGr_isBetter 4 = .ok (.aload_n 0, 1) := by decide +kernel
theorem dGr_isBetter_5 : decode cGr_isBetter 5 = .ok (.getfield 54, 3) := by decide +kernel
theorem dGr_isBetter_8 : decode cGr_isBetter 8 = .ok (.getfield 159, 3) := by decide +kernel
theorem dGr_isBetter_11 : decode cGr_isBetter 11 = .ok (.invokevirtual 162, 3) := by decide +kernel
theorem dGr_isBetter_14 : decode cGr_isBetter 14 = .ok (.aload_n 0, 1) := by decide +kernel
theorem dGr_isBetter_15 : decode cGr_isBetter 15 = .ok (.getfield 41, 3) := by decide +kernel
theorem dGr_isBetter_18 : decode cGr_isBetter 18 = .ok (.aload_n 0, 1) := by decide +kernel
theorem dGr_isBetter_19 : decode cGr_isBetter 19 = .ok (.getfield 50, 3) := by decide +kernel
theorem dGr_isBetter_22 : decode cGr_isBetter 22 = .ok (.getfield 177, 3) := by decide +kernel
theorem dGr_isBetter_25 : decode cGr_isBetter 25 = .ok (.i2l, 1) := by decide +kernel
theorem dGr_isBetter_26 : decode cGr_isBetter 26 = .ok (.invokevirtual 169, 3) := by decide +kernel
theorem dGr_isBetter_29 : decode cGr_isBetter 29 = .ok (.aload_n 0, 1) := by decide +kernel
theorem dGr_isBetter_30 : decode cGr_isBetter 30 = .ok (.getfield 44, 3) := by decide +kernel
theorem dGr_isBetter_33 : decode cGr_isBetter 33 = .ok (.aload_n 0, 1) := by decide +kernel
theorem dGr_isBetter_34 : decode cGr_isBetter 34 = .ok (.getfield 50, 3) := by decide +kernel
theorem dGr_isBetter_37 : decode cGr_isBetter 37 = .ok (.getfield 159, 3) := by decide +kernel
theorem dGr_isBetter_40 : decode cGr_isBetter 40 = .ok (.invokevirtual 162, 3) := by decide +kernel
theorem dGr_isBetter_43 : decode cGr_isBetter 43 = .ok (.aload_n 0, 1) := by decide +kernel
theorem dGr_isBetter_44 : decode cGr_isBetter 44 = .ok (.getfield 44, 3) := by decide +kernel
theorem dGr_isBetter_47 : decode cGr_isBetter 47 = .ok (.aload_n 0, 1) := by decide +kernel
theorem dGr_isBetter_48 : decode cGr_isBetter 48 = .ok (.getfield 54, 3) := by decide +kernel
theorem dGr_isBetter_51 : decode cGr_isBetter 51 = .ok (.getfield 177, 3) := by decide +kernel
theorem dGr_isBetter_54 : decode cGr_isBetter 54 = .ok (.i2l, 1) := by decide +kernel
theorem dGr_isBetter_55 : decode cGr_isBetter 55 = .ok (.invokevirtual 169, 3) := by decide +kernel
theorem dGr_isBetter_58 : decode cGr_isBetter 58 = .ok (.aload_n 0, 1) := by decide +kernel
theorem dGr_isBetter_59 : decode cGr_isBetter 59 = .ok (.getfield 41, 3) := by decide +kernel
theorem dGr_isBetter_62 : decode cGr_isBetter 62 = .ok (.aload_n 0, 1) := by decide +kernel
theorem dGr_isBetter_63 : decode cGr_isBetter 63 = .ok (.getfield 44, 3) := by decide +kernel
theorem dGr_isBetter_66 : decode cGr_isBetter 66 = .ok (.invokevirtual 180, 3) := by decide +kernel
theorem dGr_isBetter_69 : decode cGr_isBetter 69 = .ok (.ifCond .le 7, 3) := by decide +kernel
theorem dGr_isBetter_72 : decode cGr_isBetter 72 = .ok (.iconst 1, 1) := by decide +kernel
theorem dGr_isBetter_73 : decode cGr_isBetter 73 = .ok (.goto 4, 3) := by decide +kernel
theorem dGr_isBetter_76 : decode cGr_isBetter 76 = .ok (.iconst 0, 1) := by decide +kernel
theorem dGr_isBetter_77 : decode cGr_isBetter 77 = .ok (.ireturn, 1) := by decide +kernel
