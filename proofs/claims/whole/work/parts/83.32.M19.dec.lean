theorem dM_hold_0 : decode cM_hold 0 = .ok (.aload_n 0, 1) := by decide +kernel
theorem dM_hold_1 : decode cM_hold 1 = .ok (.getfield 127, 3) := by decide +kernel
theorem dM_hold_4 : decode cM_hold 4 = .ok (.aload_n 0, 1) := by decide +kernel
theorem dM_hold_5 : decode cM_hold 5 = .ok (.getfield 311, 3) := by decide +kernel
theorem dM_hold_8 : decode cM_hold 8 = .ok (.lload_n 1, 1) := by decide +kernel
theorem dM_hold_9 : decode cM_hold 9 = .ok (.lastore, 1) := by decide +kernel
theorem dM_hold_10 : decode cM_hold 10 = .ok (.aload_n 0, 1) := by decide +kernel
theorem dM_hold_11 : decode cM_hold 11 = .ok (.getfield 131, 3) := by decide +kernel
theorem dM_hold_14 : decode cM_hold 14 = .ok (.aload_n 0, 1) := by decide +kernel
theorem dM_hold_15 : decode cM_hold 15 = .ok (.getfield 311, 3) := by decide +kernel
theorem dM_hold_18 : decode cM_hold 18 = .ok (.iload_n 3, 1) := by decide +kernel
theorem dM_hold_19 : decode cM_hold 19 = .ok (.iastore, 1) := by decide +kernel
theorem dM_hold_20 : decode cM_hold 20 = .ok (.aload_n 0, 1) := by decide +kernel
theorem dM_hold_21 : decode cM_hold 21 = .ok (.getfield 134, 3) := by decide +kernel
theorem dM_hold_24 : decode cM_hold 24 = .ok (.aload_n 0, 1) := by decide +kernel
theorem dM_hold_25 : decode cM_hold 25 = .ok (.getfield 311, 3) := by decide +kernel
theorem dM_hold_28 : decode cM_hold 28 = .ok (.iload 4, 2) := by decide +kernel
theorem dM_hold_30 : decode cM_hold 30 = .ok (.iastore, 1) := by decide +kernel
theorem dM_hold_31 : decode cM_hold 31 = .ok (.aload_n 0, 1) := by decide +kernel
theorem dM_hold_32 : decode cM_hold 32 = .ok (.getfield 137, 3) := by decide +kernel
theorem dM_hold_35 : decode cM_hold 35 = .ok (.aload_n 0, 1) := by decide +kernel
theorem dM_hold_36 : decode cM_hold 36 = .ok (.getfield 311, 3) := by decide +kernel
theorem dM_hold_39 : decode cM_hold 39 = .ok (.iload 5, 2) := by decide +kernel
theorem dM_hold_41 : decode cM_hold 41 = .ok (.bastore, 1) := by decide +kernel
theorem dM_hold_42 : decode cM_hold 42 = .ok (.aload_n 0, 1) := by decide +kernel
theorem dM_hold_43 : decode cM_hold 43 = .ok (.dup, 1) := by decide +kernel
theorem dM_hold_44 : decode cM_hold 44 = .ok (.getfield 311, 3) := by decide +kernel
theorem dM_hold_47 : decode cM_hold 47 = .ok (.iconst 1, 1) := by decide +kernel
theorem dM_hold_48 : decode cM_hold 48 = .ok (.iadd, 1) := by decide +kernel
theorem dM_hold_49 : decode cM_hold 49 = .ok (.putfield 311, 3) := by decide +kernel
theorem dM_hold_52 : decode cM_hold 52 = .ok (.return_, 1) := by decide +kernel
theorem dM_beginNode_0 : decode cM_beginNode 0 = .ok (.aload_n 0, 1) := by decide +kernel
theorem dM_beginNode_1 : decode cM_beginNode 1 = .ok (.getfield 50, 3) := by decide +kernel
theorem dM_beginNode_4 : decode cM_beginNode 4 = .ok (.iload_n 1, 1) := by decide +kernel
theorem dM_beginNode_5 : decode cM_beginNode 5 = .ok (.lload_n 2, 1) := by decide +kernel
theorem dM_beginNode_6 : decode cM_beginNode 6 = .ok (.invokestatic 258, 3) := by decide +kernel
theorem dM_beginNode_9 : decode cM_beginNode 9 = .ok (.iastore, 1) := by decide +kernel
theorem dM_beginNode_10 : decode cM_beginNode 10 = .ok (.aload_n 0, 1) := by decide +kernel
theorem dM_beginNode_11 : decode cM_beginNode 11 = .ok (.getfield 53, 3) := by decide +kernel
theorem dM_beginNode_14 : decode cM_beginNode 14 = .ok (.iload_n 1, 1) := by decide +kernel
theorem dM_beginNode_15 : decode cM_beginNode 15 = .ok (.iload 4, 2) := by decide +kernel
theorem dM_beginNode_17 : decode cM_beginNode 17 = .ok (.iastore, 1) := by decide +kernel
theorem dM_beginNode_18 : decode cM_beginNode 18 = .ok (.aload_n 0, 1) := by decide +kernel
theorem dM_beginNode_19 : decode cM_beginNode 19 = .ok (.getfield 35, 3) := by decide +kernel
theorem dM_beginNode_22 : decode cM_beginNode 22 = .ok (.iload_n 1, 1) := by decide +kernel
theorem dM_beginNode_23 : decode cM_beginNode 23 = .ok (.iconst (-1), 1) := by decide +kernel
theorem dM_beginNode_24 : decode cM_beginNode 24 = .ok (.iastore, 1) := by decide +kernel
theorem dM_beginNode_25 : decode cM_beginNode 25 = .ok (.aload_n 0, 1) := by decide +kernel
theorem dM_beginNode_26 : decode cM_beginNode 26 = .ok (.getfield 38, 3) := by decide +kernel
theorem dM_beginNode_29 : decode cM_beginNode 29 = .ok (.iload_n 1, 1) := by decide +kernel
theorem dM_beginNode_30 : decode cM_beginNode 30 = .ok (.iconst 0, 1) := by decide +kernel
theorem dM_beginNode_31 : decode cM_beginNode 31 = .ok (.iastore, 1) := by decide +kernel
theorem dM_beginNode_32 : decode cM_beginNode 32 = .ok (.aload_n 0, 1) := by decide +kernel
theorem dM_beginNode_33 : decode cM_beginNode 33 = .ok (.getfield 41, 3) := by decide +kernel
theorem dM_beginNode_36 : decode cM_beginNode 36 = .ok (.iload_n 1, 1) := by decide +kernel
theorem dM_beginNode_37 : decode cM_beginNode 37 = .ok (.iconst 0, 1) := by decide +kernel
theorem dM_beginNode_38 : decode cM_beginNode 38 = .ok (.bastore, 1) := by decide +kernel
theorem dM_beginNode_39 : decode cM_beginNode 39 = .ok (.aload_n 0, 1) := by decide +kernel
theorem dM_beginNode_40 : decode cM_beginNode 40 = .ok (.getfield 44, 3) := by decide +kernel
theorem dM_beginNode_43 : decode cM_beginNode 43 = .ok (.iload_n 1, 1) := by decide +kernel
theorem dM_beginNode_44 : decode cM_beginNode 44 = .ok (.iconst (-1), 1) := by decide +kernel
theorem dM_beginNode_45 : decode cM_beginNode 45 = .ok (.iastore, 1) := by decide +kernel
theorem dM_beginNode_46 : decode cM_beginNode 46 = .ok (.aload_n 0, 1) := by decide +kernel
theorem dM_beginNode_47 : decode cM_beginNode 47 = .ok (.getfield 47, 3) := by decide +kernel
theorem dM_beginNode_50 : decode cM_beginNode 50 = .ok (.iload_n 1, 1) := by decide +kernel
theorem dM_beginNode_51 : decode cM_beginNode 51 = .ok (.iconst (-1), 1) := by decide +kernel
theorem dM_beginNode_52 : decode cM_beginNode 52 = .ok (.iastore, 1) := by decide +kernel
theorem dM_beginNode_53 : decode cM_beginNode 53 = .ok (.aload_n 0, 1) := by decide +kernel
theorem dM_beginNode_54 : decode cM_beginNode 54 = .ok (.getfield 56, 3) := by decide +kernel
theorem dM_beginNode_57 : decode cM_beginNode 57 = .ok (.iload_n 1, 1) := by decide +kernel
theorem dM_beginNode_58 : decode cM_beginNode 58 = .ok (.iconst 0, 1) := by decide +kernel
theorem dM_beginNode_59 : decode cM_beginNode 59 = .ok (.bastore, 1) := by decide +kernel
theorem dM_beginNode_60 : decode cM_beginNode 60 = .ok (.aload_n 0, 1) := by decide +kernel
theorem dM_beginNode_61 : decode cM_beginNode 61 = .ok (.getfield 87, 3) := by decide +kernel
theorem dM_beginNode_64 : decode cM_beginNode 64 = .ok (.lconst 0, 1) := by decide +kernel
theorem dM_beginNode_65 : decode cM_beginNode 65 = .ok (.invokestatic 272, 3) := by decide +kernel
theorem dM_beginNode_68 : decode cM_beginNode 68 = .ok (.iload 4, 2) := by decide +kernel
theorem dM_beginNode_70 : decode cM_beginNode 70 = .ok (.aload_n 0, 1) := by decide +kernel
theorem dM_beginNode_71 : decode cM_beginNode 71 = .ok (.getfield 202, 3) := by decide +kernel
theorem dM_beginNode_74 : decode cM_beginNode 74 = .ok (.if_icmp .ge 8, 3) := by decide +kernel
theorem dM_beginNode_77 : decode cM_beginNode 77 = .ok (.aload_n 0, 1) := by decide +kernel
theorem dM_beginNode_78 : decode cM_beginNode 78 = .ok (.lload_n 2, 1) := by decide +kernel
theorem dM_beginNode_79 : decode cM_beginNode 79 = .ok (.invokevirtual 332, 3) := by decide +kernel
theorem dM_beginNode_82 : decode cM_beginNode 82 = .ok (.return_, 1) := by decide +kernel
theorem dM_leaf_0 : decode cM_leaf 0 = .ok (.aload_n 0, 1) := by decide +kernel
theorem dM_leaf_1 : decode cM_leaf 1 = .ok (.lload_n 2, 1) := by decide +kernel
theorem dM_leaf_2 : decode cM_leaf 2 = .ok (.aload_n 0, 1) := by decide +kernel
theorem dM_leaf_3 : decode cM_leaf 3 = .ok (.getfield 78, 3) := by decide +kernel
theorem dM_leaf_6 : decode cM_leaf 6 = .ok (.invokevirtual 335, 3) := by decide +kernel
theorem dM_leaf_9 : decode cM_leaf 9 = .ok (.aload_n 0, 1) := by decide +kernel
theorem dM_leaf_10 : decode cM_leaf 10 = .ok (.getfield 78, 3) := by decide +kernel
theorem dM_leaf_13 : decode cM_leaf 13 = .ok (.aload_n 0, 1) := by decide +kernel
theorem dM_leaf_14 : decode cM_leaf 14 = .ok (.getfield 211, 3) := by decide +kernel
theorem dM_leaf_17 : decode cM_leaf 17 = .ok (.invokestatic 177, 3) := by decide +kernel
theorem dM_leaf_20 : decode cM_leaf 20 = .ok (.aload_n 0, 1) := by decide +kernel
theorem dM_leaf_21 : decode cM_leaf 21 = .ok (.getfield 111, 3) := by decide +kernel
theorem dM_leaf_24 : decode cM_leaf 24 = .ok (.aload_n 0, 1) := by decide +kernel
theorem dM_leaf_25 : decode cM_leaf 25 = .ok (.getfield 99, 3) := by decide +kernel
theorem dM_leaf_28 : decode cM_leaf 28 = .ok (.iconst 0, 1) := by decide +kernel
theorem dM_leaf_29 : decode cM_leaf 29 = .ok (.invokestatic 297, 3) := by decide +kernel
theorem dM_leaf_32 : decode cM_leaf 32 = .ok (.aload_n 0, 1) := by decide +kernel
theorem dM_leaf_33 : decode cM_leaf 33 = .ok (.aload_n 0, 1) := by decide +kernel
theorem dM_leaf_34 : decode cM_leaf 34 = .ok (.getfield 99, 3) := by decide +kernel
theorem dM_leaf_37 : decode cM_leaf 37 = .ok (.aload_n 0, 1) := by decide +kernel
theorem dM_leaf_38 : decode cM_leaf 38 = .ok (.getfield 214, 3) := by decide +kernel
theorem dM_leaf_41 : decode cM_leaf 41 = .ok (.invokevirtual 339, 3) := by decide +kernel
theorem dM_leaf_44 : decode cM_leaf 44 = .ok (.aload_n 0, 1) := by decide +kernel
theorem dM_leaf_45 : decode cM_leaf 45 = .ok (.aload_n 0, 1) := by decide +kernel
theorem dM_leaf_46 : decode cM_leaf 46 = .ok (.getfield 99, 3) := by decide +kernel
theorem dM_leaf_49 : decode cM_leaf 49 = .ok (.aload_n 0, 1) := by decide +kernel
theorem dM_leaf_50 : decode cM_leaf 50 = .ok (.getfield 50, 3) := by decide +kernel
theorem dM_leaf_53 : decode cM_leaf 53 = .ok (.iload_n 1, 1) := by decide +kernel
theorem dM_leaf_54 : decode cM_leaf 54 = .ok (.iaload, 1) := by decide +kernel
theorem dM_leaf_55 : decode cM_leaf 55 = .ok (.aload_n 0, 1) := by decide +kernel
theorem dM_leaf_56 : decode cM_leaf 56 = .ok (.getfield 208, 3) := by decide +kernel
theorem dM_leaf_59 : decode cM_leaf 59 = .ok (.iadd, 1) := by decide +kernel
theorem dM_leaf_60 : decode cM_leaf 60 = .ok (.invokevirtual 339, 3) := by decide +kernel
theorem dM_leaf_63 : decode cM_leaf 63 = .ok (.aload_n 0, 1) := by decide +kernel
theorem dM_leaf_64 : decode cM_leaf 64 = .ok (.iload_n 1, 1) := by decide +kernel
theorem dM_leaf_65 : decode cM_leaf 65 = .ok (.aload_n 0, 1) := by decide +kernel
theorem dM_leaf_66 : decode cM_leaf 66 = .ok (.getfield 78, 3) := by decide +kernel
theorem dM_leaf_69 : decode cM_leaf 69 = .ok (.invokevirtual 342, 3) := by decide +kernel
theorem dM_leaf_72 : decode cM_leaf 72 = .ok (.return_, 1) := by decide +kernel
