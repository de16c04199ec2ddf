theorem dGr_orderKinds_0 : decode cGr_orderKinds 0 = .ok (.iconst 0, 1) := by decide +kernel
theorem dGr_orderKinds_1 : decode cGr_orderKinds 1 = .ok (.istore_n 1, 1) := by decide +kernel
theorem dGr_orderKinds_2 : decode cGr_orderKinds 2 = .ok (.iconst 0, 1) := by decide +kernel
theorem dGr_orderKinds_3 : decode cGr_orderKinds 3 = .ok (.istore_n 2, 1) := by decide +kernel
theorem dGr_orderKinds_4 : decode cGr_orderKinds 4 = .ok (.iload_n 2, 1) := by decide +kernel
theorem dGr_orderKinds_5 : decode cGr_orderKinds 5 = .ok (.bipush 12, 2) := by decide +kernel
theorem dGr_orderKinds_7 : decode cGr_orderKinds 7 = .ok (.if_icmp .ge 85, 3) := by decide +kernel
theorem dGr_orderKinds_10 : decode cGr_orderKinds 10 = .ok (.aload_n 0, 1) := by decide +kernel
theorem dGr_orderKinds_11 : decode cGr_orderKinds 11 = .ok (.getfield 11, 3) := by decide +kernel
theorem dGr_orderKinds_14 : decode cGr_orderKinds 14 = .ok (.iload_n 2, 1) := by decide +kernel
theorem dGr_orderKinds_15 : decode cGr_orderKinds 15 = .ok (.aaload, 1) := by decide +kernel
theorem dGr_orderKinds_16 : decode cGr_orderKinds 16 = .ok (.getfield 209, 3) := by decide +kernel
theorem dGr_orderKinds_19 : decode cGr_orderKinds 19 = .ok (.lconst 0, 1) := by decide +kernel
theorem dGr_orderKinds_20 : decode cGr_orderKinds 20 = .ok (.lcmp, 1) := by decide +kernel
theorem dGr_orderKinds_21 : decode cGr_orderKinds 21 = .ok (.ifCond .eq 65, 3) := by decide +kernel
theorem dGr_orderKinds_24 : decode cGr_orderKinds 24 = .ok (.iload_n 1, 1) := by decide +kernel
theorem dGr_orderKinds_25 : decode cGr_orderKinds 25 = .ok (.iinc 1 1, 3) := by decide +kernel
theorem dGr_orderKinds_28 : decode cGr_orderKinds 28 = .ok (.istore_n 3, 1) := by decide +kernel
theorem dGr_orderKinds_29 : decode cGr_orderKinds 29 = .ok (.iload_n 3, 1) := by decide +kernel
theorem dGr_orderKinds_30 : decode cGr_orderKinds 30 = .ok (.ifCond .le 49, 3) := by decide +kernel
theorem dGr_orderKinds_33 : decode cGr_orderKinds 33 = .ok (.aload_n 0, 1) := by decide +kernel
theorem dGr_orderKinds_34 : decode cGr_orderKinds 34 = .ok (.aload_n 0, 1) := by decide +kernel
theorem dGr_orderKinds_35 : decode cGr_orderKinds 35 = .ok (.getfield 11, 3) := by decide +kernel
theorem dGr_orderKinds_38 : decode cGr_orderKinds 38 = .ok (.iload_n 2, 1) := by decide +kernel
theorem dGr_orderKinds_39 : decode cGr_orderKinds 39 = .ok (.aaload, 1) := by decide +kernel
theorem dGr_orderKinds_40 : decode cGr_orderKinds 40 = .ok (.aload_n 0, 1) := by decide +kernel
theorem dGr_orderKinds_41 : decode cGr_orderKinds 41 = .ok (.getfield 11, 3) := by decide +kernel
theorem dGr_orderKinds_44 : decode cGr_orderKinds 44 = .ok (.aload_n 0, 1) := by decide +kernel
theorem dGr_orderKinds_45 : decode cGr_orderKinds 45 = .ok (.getfield 17, 3) := by decide +kernel
theorem dGr_orderKinds_48 : decode cGr_orderKinds 48 = .ok (.iload_n 3, 1) := by decide +kernel
theorem dGr_orderKinds_49 : decode cGr_orderKinds 49 = .ok (.iconst 1, 1) := by decide +kernel
theorem dGr_orderKinds_50 : decode cGr_orderKinds 50 = .ok (.isub, 1) := by decide +kernel
theorem dGr_orderKinds_51 : decode cGr_orderKinds 51 = .ok (.iaload, 1) := by decide +kernel
theorem dGr_orderKinds_52 : decode cGr_orderKinds 52 = .ok (.aaload, 1) := by decide +kernel
theorem dGr_orderKinds_53 : decode cGr_orderKinds 53 = .ok (.invokevirtual 233, 3) := by decide +kernel
theorem dGr_orderKinds_56 : decode cGr_orderKinds 56 = .ok (.ifCond .eq 23, 3) := by decide +kernel
theorem dGr_orderKinds_59 : decode cGr_orderKinds 59 = .ok (.aload_n 0, 1) := by decide +kernel
theorem dGr_orderKinds_60 : decode cGr_orderKinds 60 = .ok (.getfield 17, 3) := by decide +kernel
theorem dGr_orderKinds_63 : decode cGr_orderKinds 63 = .ok (.iload_n 3, 1) := by decide +kernel
theorem dGr_orderKinds_64 : decode cGr_orderKinds 64 = .ok (.aload_n 0, 1) := by decide +kernel
theorem dGr_orderKinds_65 : decode cGr_orderKinds 65 = .ok (.getfield 17, 3) := by decide +kernel
theorem dGr_orderKinds_68 : decode cGr_orderKinds 68 = .ok (.iload_n 3, 1) := by decide +kernel
theorem dGr_orderKinds_69 : decode cGr_orderKinds 69 = .ok (.iconst 1, 1) := by decide +kernel
theorem dGr_orderKinds_70 : decode cGr_orderKinds 70 = .ok (.isub, 1) := by decide +kernel
theorem dGr_orderKinds_71 : decode cGr_orderKinds 71 = .ok (.iaload, 1) := by decide +kernel
theorem dGr_orderKinds_72 : decode cGr_orderKinds 72 = .ok (.iastore, 1) := by decide +kernel
theorem dGr_orderKinds_73 : decode cGr_orderKinds 73 = .ok (.iinc 3 (-1), 3) := by decide +kernel
theorem dGr_orderKinds_76 : decode cGr_orderKinds 76 = .ok (.goto (-47), 3) := by decide +kernel
theorem dGr_orderKinds_79 : decode cGr_orderKinds 79 = .ok (.aload_n 0, 1) := by decide +kernel
theorem dGr_orderKinds_80 : decode cGr_orderKinds 80 = .ok (.getfield 17, 3) := by decide +kernel
theorem dGr_orderKinds_83 : decode cGr_orderKinds 83 = .ok (.iload_n 3, 1) := by decide +kernel
theorem dGr_orderKinds_84 : decode cGr_orderKinds 84 = .ok (.iload_n 2, 1) := by decide +kernel
theorem dGr_orderKinds_85 : decode cGr_orderKinds 85 = .ok (.iastore, 1) := by decide +kernel
theorem dGr_orderKinds_86 : decode cGr_orderKinds 86 = .ok (.iinc 2 1, 3) := by decide +kernel
theorem dGr_orderKinds_89 : decode cGr_orderKinds 89 = .ok (.goto (-85), 3) := by decide +kernel
theorem dGr_orderKinds_92 : decode cGr_orderKinds 92 = .ok (.iload_n 1, 1) := by decide +kernel
theorem dGr_orderKinds_93 : decode cGr_orderKinds 93 = .ok (.ireturn, 1) := by decide +kernel
