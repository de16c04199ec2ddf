theorem dM_nextKind_0 : decode cM_nextKind 0 = .ok (.iconst (-1), 1) := by decide +kernel
theorem dM_nextKind_1 : decode cM_nextKind 1 = .ok (.istore 5, 2) := by decide +kernel
theorem dM_nextKind_3 : decode cM_nextKind 3 = .ok (.iconst 0, 1) := by decide +kernel
theorem dM_nextKind_4 : decode cM_nextKind 4 = .ok (.istore 6, 2) := by decide +kernel
theorem dM_nextKind_6 : decode cM_nextKind 6 = .ok (.iload 6, 2) := by decide +kernel
theorem dM_nextKind_8 : decode cM_nextKind 8 = .ok (.bipush 12, 2) := by decide +kernel
theorem dM_nextKind_10 : decode cM_nextKind 10 = .ok (.if_icmp .ge 71, 3) := by decide +kernel
theorem dM_nextKind_13 : decode cM_nextKind 13 = .ok (.aload_n 0, 1) := by decide +kernel
theorem dM_nextKind_14 : decode cM_nextKind 14 = .ok (.lload_n 1, 1) := by decide +kernel
theorem dM_nextKind_15 : decode cM_nextKind 15 = .ok (.iload_n 3, 1) := by decide +kernel
theorem dM_nextKind_16 : decode cM_nextKind 16 = .ok (.iload 6, 2) := by decide +kernel
theorem dM_nextKind_18 : decode cM_nextKind 18 = .ok (.invokevirtual 374, 3) := by decide +kernel
theorem dM_nextKind_21 : decode cM_nextKind 21 = .ok (.lstore 7, 2) := by decide +kernel
theorem dM_nextKind_23 : decode cM_nextKind 23 = .ok (.iload 4, 2) := by decide +kernel
theorem dM_nextKind_25 : decode cM_nextKind 25 = .ok (.iload 6, 2) := by decide +kernel
theorem dM_nextKind_27 : decode cM_nextKind 27 = .ok (.ishr, 1) := by decide +kernel
theorem dM_nextKind_28 : decode cM_nextKind 28 = .ok (.iconst 1, 1) := by decide +kernel
theorem dM_nextKind_29 : decode cM_nextKind 29 = .ok (.iand, 1) := by decide +kernel
theorem dM_nextKind_30 : decode cM_nextKind 30 = .ok (.ifCond .ne 45, 3) := by decide +kernel
theorem dM_nextKind_33 : decode cM_nextKind 33 = .ok (.lload 7, 2) := by decide +kernel
theorem dM_nextKind_35 : decode cM_nextKind 35 = .ok (.lconst 0, 1) := by decide +kernel
theorem dM_nextKind_36 : decode cM_nextKind 36 = .ok (.lcmp, 1) := by decide +kernel
theorem dM_nextKind_37 : decode cM_nextKind 37 = .ok (.ifCond .eq 38, 3) := by decide +kernel
theorem dM_nextKind_40 : decode cM_nextKind 40 = .ok (.iload 5, 2) := by decide +kernel
theorem dM_nextKind_42 : decode cM_nextKind 42 = .ok (.ifCond .lt 24, 3) := by decide +kernel
theorem dM_nextKind_45 : decode cM_nextKind 45 = .ok (.aload_n 0, 1) := by decide +kernel
theorem dM_nextKind_46 : decode cM_nextKind 46 = .ok (.lload 7, 2) := by decide +kernel
theorem dM_nextKind_48 : decode cM_nextKind 48 = .ok (.iload 6, 2) := by decide +kernel
theorem dM_nextKind_50 : decode cM_nextKind 50 = .ok (.aload_n 0, 1) := by decide +kernel
theorem dM_nextKind_51 : decode cM_nextKind 51 = .ok (.lload_n 1, 1) := by decide +kernel
theorem dM_nextKind_52 : decode cM_nextKind 52 = .ok (.iload_n 3, 1) := by decide +kernel
theorem dM_nextKind_53 : decode cM_nextKind 53 = .ok (.iload 5, 2) := by decide +kernel
theorem dM_nextKind_55 : decode cM_nextKind 55 = .ok (.invokevirtual 374, 3) := by decide +kernel
theorem dM_nextKind_58 : decode cM_nextKind 58 = .ok (.iload 5, 2) := by decide +kernel
theorem dM_nextKind_60 : decode cM_nextKind 60 = .ok (.invokevirtual 378, 3) := by decide +kernel
theorem dM_nextKind_63 : decode cM_nextKind 63 = .ok (.ifCond .eq 8, 3) := by decide +kernel
theorem dM_nextKind_66 : decode cM_nextKind 66 = .ok (.iload 6, 2) := by decide +kernel
theorem dM_nextKind_68 : decode cM_nextKind 68 = .ok (.goto 5, 3) := by decide +kernel
theorem dM_nextKind_71 : decode cM_nextKind 71 = .ok (.iload 5, 2) := by decide +kernel
theorem dM_nextKind_73 : decode cM_nextKind 73 = .ok (.istore 5, 2) := by decide +kernel
theorem dM_nextKind_75 : decode cM_nextKind 75 = .ok (.iinc 6 1, 3) := by decide +kernel
theorem dM_nextKind_78 : decode cM_nextKind 78 = .ok (.goto (-72), 3) := by decide +kernel
theorem dM_nextKind_81 : decode cM_nextKind 81 = .ok (.iload 5, 2) := by decide +kernel
theorem dM_nextKind_83 : decode cM_nextKind 83 = .ok (.ireturn, 1) := by decide +kernel
