theorem dR_cut_0 : decode cR_cut 0 = .ok (.aload_n 0, 1) := by decide +kernel
theorem dR_cut_1 : decode cR_cut 1 = .ok (.getfield 12, 3) := by decide +kernel
theorem dR_cut_4 : decode cR_cut 4 = .ok (.iload_n 1, 1) := by decide +kernel
theorem dR_cut_5 : decode cR_cut 5 = .ok (.invokevirtual 108, 3) := by decide +kernel
theorem dR_cut_8 : decode cR_cut 8 = .ok (.ifCond .eq 17, 3) := by decide +kernel
theorem dR_cut_11 : decode cR_cut 11 = .ok (.iload_n 3, 1) := by decide +kernel
theorem dR_cut_12 : decode cR_cut 12 = .ok (.iconst 2, 1) := by decide +kernel
theorem dR_cut_13 : decode cR_cut 13 = .ok (.bipush 12, 2) := by decide +kernel
theorem dR_cut_15 : decode cR_cut 15 = .ok (.invokestatic 82, 3) := by decide +kernel
theorem dR_cut_18 : decode cR_cut 18 = .ok (.ifCond .eq 7, 3) := by decide +kernel
theorem dR_cut_21 : decode cR_cut 21 = .ok (.iconst 1, 1) := by decide +kernel
theorem dR_cut_22 : decode cR_cut 22 = .ok (.goto 4, 3) := by decide +kernel
theorem dR_cut_25 : decode cR_cut 25 = .ok (.iconst 0, 1) := by decide +kernel
theorem dR_cut_26 : decode cR_cut 26 = .ok (.invokestatic 86, 3) := by decide +kernel
theorem dR_cut_29 : decode cR_cut 29 = .ok (.aload_n 0, 1) := by decide +kernel
theorem dR_cut_30 : decode cR_cut 30 = .ok (.getfield 12, 3) := by decide +kernel
theorem dR_cut_33 : decode cR_cut 33 = .ok (.getfield 111, 3) := by decide +kernel
theorem dR_cut_36 : decode cR_cut 36 = .ok (.iload_n 1, 1) := by decide +kernel
theorem dR_cut_37 : decode cR_cut 37 = .ok (.aaload, 1) := by decide +kernel
theorem dR_cut_38 : decode cR_cut 38 = .ok (.getfield 134, 3) := by decide +kernel
theorem dR_cut_41 : decode cR_cut 41 = .ok (.ifCond .ne 7, 3) := by decide +kernel
theorem dR_cut_44 : decode cR_cut 44 = .ok (.iconst 1, 1) := by decide +kernel
theorem dR_cut_45 : decode cR_cut 45 = .ok (.goto 4, 3) := by decide +kernel
theorem dR_cut_48 : decode cR_cut 48 = .ok (.iconst 0, 1) := by decide +kernel
theorem dR_cut_49 : decode cR_cut 49 = .ok (.invokestatic 98, 3) := by decide +kernel
theorem dR_cut_52 : decode cR_cut 52 = .ok (.aload_n 0, 1) := by decide +kernel
theorem dR_cut_53 : decode cR_cut 53 = .ok (.getfield 12, 3) := by decide +kernel
theorem dR_cut_56 : decode cR_cut 56 = .ok (.getfield 111, 3) := by decide +kernel
theorem dR_cut_59 : decode cR_cut 59 = .ok (.iload_n 1, 1) := by decide +kernel
theorem dR_cut_60 : decode cR_cut 60 = .ok (.aaload, 1) := by decide +kernel
theorem dR_cut_61 : decode cR_cut 61 = .ok (.aload_n 0, 1) := by decide +kernel
theorem dR_cut_62 : decode cR_cut 62 = .ok (.getfield 54, 3) := by decide +kernel
theorem dR_cut_65 : decode cR_cut 65 = .ok (.aload_n 0, 1) := by decide +kernel
theorem dR_cut_66 : decode cR_cut 66 = .ok (.getfield 12, 3) := by decide +kernel
theorem dR_cut_69 : decode cR_cut 69 = .ok (.getfield 94, 3) := by decide +kernel
theorem dR_cut_72 : decode cR_cut 72 = .ok (.invokevirtual 138, 3) := by decide +kernel
theorem dR_cut_75 : decode cR_cut 75 = .ok (.istore 4, 2) := by decide +kernel
theorem dR_cut_77 : decode cR_cut 77 = .ok (.aload_n 0, 1) := by decide +kernel
theorem dR_cut_78 : decode cR_cut 78 = .ok (.getfield 12, 3) := by decide +kernel
theorem dR_cut_81 : decode cR_cut 81 = .ok (.getfield 111, 3) := by decide +kernel
theorem dR_cut_84 : decode cR_cut 84 = .ok (.iload_n 1, 1) := by decide +kernel
theorem dR_cut_85 : decode cR_cut 85 = .ok (.aaload, 1) := by decide +kernel
theorem dR_cut_86 : decode cR_cut 86 = .ok (.iload_n 2, 1) := by decide +kernel
theorem dR_cut_87 : decode cR_cut 87 = .ok (.iload_n 3, 1) := by decide +kernel
theorem dR_cut_88 : decode cR_cut 88 = .ok (.aload_n 0, 1) := by decide +kernel
theorem dR_cut_89 : decode cR_cut 89 = .ok (.getfield 54, 3) := by decide +kernel
theorem dR_cut_92 : decode cR_cut 92 = .ok (.iload 4, 2) := by decide +kernel
theorem dR_cut_94 : decode cR_cut 94 = .ok (.invokevirtual 142, 3) := by decide +kernel
theorem dR_cut_97 : decode cR_cut 97 = .ok (.ireturn, 1) := by decide +kernel
