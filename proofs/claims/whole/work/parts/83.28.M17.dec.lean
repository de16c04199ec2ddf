theorem dM_lookAtKinds_0 : decode cM_lookAtKinds 0 = .ok (.iconst 0, 1) := by decide +kernel
theorem dM_lookAtKinds_1 : decode cM_lookAtKinds 1 = .ok (.istore 6, 2) := by decide +kernel
theorem dM_lookAtKinds_3 : decode cM_lookAtKinds 3 = .ok (.lconst 0, 1) := by decide +kernel
theorem dM_lookAtKinds_4 : decode cM_lookAtKinds 4 = .ok (.lstore 7, 2) := by decide +kernel
theorem dM_lookAtKinds_6 : decode cM_lookAtKinds 6 = .ok (.aload_n 0, 1) := by decide +kernel
theorem dM_lookAtKinds_7 : decode cM_lookAtKinds 7 = .ok (.lload_n 1, 1) := by decide +kernel
theorem dM_lookAtKinds_8 : decode cM_lookAtKinds 8 = .ok (.iload 5, 2) := by decide +kernel
theorem dM_lookAtKinds_10 : decode cM_lookAtKinds 10 = .ok (.iload 6, 2) := by decide +kernel
theorem dM_lookAtKinds_12 : decode cM_lookAtKinds 12 = .ok (.invokevirtual 370, 3) := by decide +kernel
theorem dM_lookAtKinds_15 : decode cM_lookAtKinds 15 = .ok (.istore 9, 2) := by decide +kernel
theorem dM_lookAtKinds_17 : decode cM_lookAtKinds 17 = .ok (.iload 9, 2) := by decide +kernel
theorem dM_lookAtKinds_19 : decode cM_lookAtKinds 19 = .ok (.ifCond .lt 57, 3) := by decide +kernel
theorem dM_lookAtKinds_22 : decode cM_lookAtKinds 22 = .ok (.iload 6, 2) := by decide +kernel
theorem dM_lookAtKinds_24 : decode cM_lookAtKinds 24 = .ok (.iconst 1, 1) := by decide +kernel
theorem dM_lookAtKinds_25 : decode cM_lookAtKinds 25 = .ok (.iload 9, 2) := by decide +kernel
theorem dM_lookAtKinds_27 : decode cM_lookAtKinds 27 = .ok (.ishl, 1) := by decide +kernel
theorem dM_lookAtKinds_28 : decode cM_lookAtKinds 28 = .ok (.ior, 1) := by decide +kernel
theorem dM_lookAtKinds_29 : decode cM_lookAtKinds 29 = .ok (.istore 6, 2) := by decide +kernel
theorem dM_lookAtKinds_31 : decode cM_lookAtKinds 31 = .ok (.lload 7, 2) := by decide +kernel
theorem dM_lookAtKinds_33 : decode cM_lookAtKinds 33 = .ok (.aload_n 0, 1) := by decide +kernel
theorem dM_lookAtKinds_34 : decode cM_lookAtKinds 34 = .ok (.lload_n 1, 1) := by decide +kernel
theorem dM_lookAtKinds_35 : decode cM_lookAtKinds 35 = .ok (.iload 5, 2) := by decide +kernel
theorem dM_lookAtKinds_37 : decode cM_lookAtKinds 37 = .ok (.iload 9, 2) := by decide +kernel
theorem dM_lookAtKinds_39 : decode cM_lookAtKinds 39 = .ok (.invokevirtual 374, 3) := by decide +kernel
theorem dM_lookAtKinds_42 : decode cM_lookAtKinds 42 = .ok (.lor, 1) := by decide +kernel
theorem dM_lookAtKinds_43 : decode cM_lookAtKinds 43 = .ok (.lstore 7, 2) := by decide +kernel
theorem dM_lookAtKinds_45 : decode cM_lookAtKinds 45 = .ok (.aload_n 0, 1) := by decide +kernel
theorem dM_lookAtKinds_46 : decode cM_lookAtKinds 46 = .ok (.lload_n 1, 1) := by decide +kernel
theorem dM_lookAtKinds_47 : decode cM_lookAtKinds 47 = .ok (.iload 5, 2) := by decide +kernel
theorem dM_lookAtKinds_49 : decode cM_lookAtKinds 49 = .ok (.iload 6, 2) := by decide +kernel
theorem dM_lookAtKinds_51 : decode cM_lookAtKinds 51 = .ok (.invokevirtual 370, 3) := by decide +kernel
theorem dM_lookAtKinds_54 : decode cM_lookAtKinds 54 = .ok (.istore 9, 2) := by decide +kernel
theorem dM_lookAtKinds_56 : decode cM_lookAtKinds 56 = .ok (.iload 9, 2) := by decide +kernel
theorem dM_lookAtKinds_58 : decode cM_lookAtKinds 58 = .ok (.ifCond .lt (-41), 3) := by decide +kernel
theorem dM_lookAtKinds_61 : decode cM_lookAtKinds 61 = .ok (.aload_n 0, 1) := by decide +kernel
theorem dM_lookAtKinds_62 : decode cM_lookAtKinds 62 = .ok (.lload_n 1, 1) := by decide +kernel
theorem dM_lookAtKinds_63 : decode cM_lookAtKinds 63 = .ok (.lload_n 3, 1) := by decide +kernel
theorem dM_lookAtKinds_64 : decode cM_lookAtKinds 64 = .ok (.lload 7, 2) := by decide +kernel
theorem dM_lookAtKinds_66 : decode cM_lookAtKinds 66 = .ok (.iload 5, 2) := by decide +kernel
theorem dM_lookAtKinds_68 : decode cM_lookAtKinds 68 = .ok (.iload 6, 2) := by decide +kernel
theorem dM_lookAtKinds_70 : decode cM_lookAtKinds 70 = .ok (.invokevirtual 363, 3) := by decide +kernel
theorem dM_lookAtKinds_73 : decode cM_lookAtKinds 73 = .ok (.goto (-56), 3) := by decide +kernel
theorem dM_lookAtKinds_76 : decode cM_lookAtKinds 76 = .ok (.return_, 1) := by decide +kernel
