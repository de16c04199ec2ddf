theorem dO_appendDigits_0 : decode cO_appendDigits 0 = .ok (.aload_n 0, 1) := by decide +kernel
theorem dO_appendDigits_1 : decode cO_appendDigits 1 = .ok (.getfield 32, 3) := by decide +kernel
theorem dO_appendDigits_4 : decode cO_appendDigits 4 = .ok (.istore_n 2, 1) := by decide +kernel
theorem dO_appendDigits_5 : decode cO_appendDigits 5 = .ok (.aload_n 1, 1) := by decide +kernel
theorem dO_appendDigits_6 : decode cO_appendDigits 6 = .ok (.getfield 47, 3) := by decide +kernel
theorem dO_appendDigits_9 : decode cO_appendDigits 9 = .ok (.iconst 1, 1) := by decide +kernel
theorem dO_appendDigits_10 : decode cO_appendDigits 10 = .ok (.isub, 1) := by decide +kernel
theorem dO_appendDigits_11 : decode cO_appendDigits 11 = .ok (.istore_n 3, 1) := by decide +kernel
theorem dO_appendDigits_12 : decode cO_appendDigits 12 = .ok (.iload_n 3, 1) := by decide +kernel
theorem dO_appendDigits_13 : decode cO_appendDigits 13 = .ok (.ifCond .lt 64, 3) := by decide +kernel
theorem dO_appendDigits_16 : decode cO_appendDigits 16 = .ok (.ldc 52, 2) := by decide +kernel
theorem dO_appendDigits_18 : decode cO_appendDigits 18 = .ok (.istore 4, 2) := by decide +kernel
theorem dO_appendDigits_20 : decode cO_appendDigits 20 = .ok (.iload 4, 2) := by decide +kernel
theorem dO_appendDigits_22 : decode cO_appendDigits 22 = .ok (.ifCond .le 49, 3) := by decide +kernel
theorem dO_appendDigits_25 : decode cO_appendDigits 25 = .ok (.aload_n 1, 1) := by decide +kernel
theorem dO_appendDigits_26 : decode cO_appendDigits 26 = .ok (.getfield 48, 3) := by decide +kernel
theorem dO_appendDigits_29 : decode cO_appendDigits 29 = .ok (.iload_n 3, 1) := by decide +kernel
theorem dO_appendDigits_30 : decode cO_appendDigits 30 = .ok (.iaload, 1) := by decide +kernel
theorem dO_appendDigits_31 : decode cO_appendDigits 31 = .ok (.iload 4, 2) := by decide +kernel
theorem dO_appendDigits_33 : decode cO_appendDigits 33 = .ok (.idiv, 1) := by decide +kernel
theorem dO_appendDigits_34 : decode cO_appendDigits 34 = .ok (.bipush 10, 2) := by decide +kernel
theorem dO_appendDigits_36 : decode cO_appendDigits 36 = .ok (.irem, 1) := by decide +kernel
theorem dO_appendDigits_37 : decode cO_appendDigits 37 = .ok (.istore 5, 2) := by decide +kernel
theorem dO_appendDigits_39 : decode cO_appendDigits 39 = .ok (.iload 5, 2) := by decide +kernel
theorem dO_appendDigits_41 : decode cO_appendDigits 41 = .ok (.ifCond .ne 11, 3) := by decide +kernel
theorem dO_appendDigits_44 : decode cO_appendDigits 44 = .ok (.aload_n 0, 1) := by decide +kernel
theorem dO_appendDigits_45 : decode cO_appendDigits 45 = .ok (.getfield 32, 3) := by decide +kernel
theorem dO_appendDigits_48 : decode cO_appendDigits 48 = .ok (.iload_n 2, 1) := by decide +kernel
theorem dO_appendDigits_49 : decode cO_appendDigits 49 = .ok (.if_icmp .le 12, 3) := by decide +kernel
theorem dO_appendDigits_52 : decode cO_appendDigits 52 = .ok (.aload_n 0, 1) := by decide +kernel
theorem dO_appendDigits_53 : decode cO_appendDigits 53 = .ok (.bipush 48, 2) := by decide +kernel
theorem dO_appendDigits_55 : decode cO_appendDigits 55 = .ok (.iload 5, 2) := by decide +kernel
theorem dO_appendDigits_57 : decode cO_appendDigits 57 = .ok (.iadd, 1) := by decide +kernel
theorem dO_appendDigits_58 : decode cO_appendDigits 58 = .ok (.invokevirtual 40, 3) := by decide +kernel
theorem dO_appendDigits_61 : decode cO_appendDigits 61 = .ok (.iload 4, 2) := by decide +kernel
theorem dO_appendDigits_63 : decode cO_appendDigits 63 = .ok (.bipush 10, 2) := by decide +kernel
theorem dO_appendDigits_65 : decode cO_appendDigits 65 = .ok (.idiv, 1) := by decide +kernel
theorem dO_appendDigits_66 : decode cO_appendDigits 66 = .ok (.istore 4, 2) := by decide +kernel
theorem dO_appendDigits_68 : decode cO_appendDigits 68 = .ok (.goto (-48), 3) := by decide +kernel
theorem dO_appendDigits_71 : decode cO_appendDigits 71 = .ok (.iinc 3 (-1), 3) := by decide +kernel
theorem dO_appendDigits_74 : decode cO_appendDigits 74 = .ok (.goto (-62), 3) := by decide +kernel
theorem dO_appendDigits_77 : decode cO_appendDigits 77 = .ok (.aload_n 0, 1) := by decide +kernel
theorem dO_appendDigits_78 : decode cO_appendDigits 78 = .ok (.getfield 32, 3) := by decide +kernel
theorem dO_appendDigits_81 : decode cO_appendDigits 81 = .ok (.iload_n 2, 1) := by decide +kernel
theorem dO_appendDigits_82 : decode cO_appendDigits 82 = .ok (.if_icmp .ne 9, 3) := by decide +kernel
theorem dO_appendDigits_85 : decode cO_appendDigits 85 = .ok (.aload_n 0, 1) := by decide +kernel
theorem dO_appendDigits_86 : decode cO_appendDigits 86 = .ok (.bipush 48, 2) := by decide +kernel
theorem dO_appendDigits_88 : decode cO_appendDigits 88 = .ok (.invokevirtual 40, 3) := by decide +kernel
theorem dO_appendDigits_91 : decode cO_appendDigits 91 = .ok (.return_, 1) := by decide +kernel
