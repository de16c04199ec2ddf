theorem dC_sortInto_0 : decode cC_sortInto 0 = .ok (.iconst 0, 1) := by decide +kernel
theorem dC_sortInto_1 : decode cC_sortInto 1 = .ok (.istore_n 3, 1) := by decide +kernel
theorem dC_sortInto_2 : decode cC_sortInto 2 = .ok (.iconst 0, 1) := by decide +kernel
theorem dC_sortInto_3 : decode cC_sortInto 3 = .ok (.istore 4, 2) := by decide +kernel
theorem dC_sortInto_5 : decode cC_sortInto 5 = .ok (.iload 4, 2) := by decide +kernel
theorem dC_sortInto_7 : decode cC_sortInto 7 = .ok (.iload_n 2, 1) := by decide +kernel
theorem dC_sortInto_8 : decode cC_sortInto 8 = .ok (.if_icmp .ge 75, 3) := by decide +kernel
theorem dC_sortInto_11 : decode cC_sortInto 11 = .ok (.aload_n 0, 1) := by decide +kernel
theorem dC_sortInto_12 : decode cC_sortInto 12 = .ok (.getfield 9, 3) := by decide +kernel
theorem dC_sortInto_15 : decode cC_sortInto 15 = .ok (.iload 4, 2) := by decide +kernel
theorem dC_sortInto_17 : decode cC_sortInto 17 = .ok (.iaload, 1) := by decide +kernel
theorem dC_sortInto_18 : decode cC_sortInto 18 = .ok (.ldc 18, 2) := by decide +kernel
theorem dC_sortInto_20 : decode cC_sortInto 20 = .ok (.if_icmp .eq 57, 3) := by decide +kernel
theorem dC_sortInto_23 : decode cC_sortInto 23 = .ok (.iload_n 3, 1) := by decide +kernel
theorem dC_sortInto_24 : decode cC_sortInto 24 = .ok (.iinc 3 1, 3) := by decide +kernel
theorem dC_sortInto_27 : decode cC_sortInto 27 = .ok (.istore 5, 2) := by decide +kernel
theorem dC_sortInto_29 : decode cC_sortInto 29 = .ok (.iload 5, 2) := by decide +kernel
theorem dC_sortInto_31 : decode cC_sortInto 31 = .ok (.ifCond .le 35, 3) := by decide +kernel
theorem dC_sortInto_34 : decode cC_sortInto 34 = .ok (.aload_n 1, 1) := by decide +kernel
theorem dC_sortInto_35 : decode cC_sortInto 35 = .ok (.iload 5, 2) := by decide +kernel
theorem dC_sortInto_37 : decode cC_sortInto 37 = .ok (.iconst 1, 1) := by decide +kernel
theorem dC_sortInto_38 : decode cC_sortInto 38 = .ok (.isub, 1) := by decide +kernel
theorem dC_sortInto_39 : decode cC_sortInto 39 = .ok (.iaload, 1) := by decide +kernel
theorem dC_sortInto_40 : decode cC_sortInto 40 = .ok (.aload_n 0, 1) := by decide +kernel
theorem dC_sortInto_41 : decode cC_sortInto 41 = .ok (.getfield 9, 3) := by decide +kernel
theorem dC_sortInto_44 : decode cC_sortInto 44 = .ok (.iload 4, 2) := by decide +kernel
theorem dC_sortInto_46 : decode cC_sortInto 46 = .ok (.iaload, 1) := by decide +kernel
theorem dC_sortInto_47 : decode cC_sortInto 47 = .ok (.if_icmp .le 19, 3) := by decide +kernel
theorem dC_sortInto_50 : decode cC_sortInto 50 = .ok (.aload_n 1, 1) := by decide +kernel
theorem dC_sortInto_51 : decode cC_sortInto 51 = .ok (.iload 5, 2) := by decide +kernel
theorem dC_sortInto_53 : decode cC_sortInto 53 = .ok (.aload_n 1, 1) := by decide +kernel
theorem dC_sortInto_54 : decode cC_sortInto 54 = .ok (.iload 5, 2) := by decide +kernel
theorem dC_sortInto_56 : decode cC_sortInto 56 = .ok (.iconst 1, 1) := by decide +kernel
theorem dC_sortInto_57 : decode cC_sortInto 57 = .ok (.isub, 1) := by decide +kernel
theorem dC_sortInto_58 : decode cC_sortInto 58 = .ok (.iaload, 1) := by decide +kernel
theorem dC_sortInto_59 : decode cC_sortInto 59 = .ok (.iastore, 1) := by decide +kernel
theorem dC_sortInto_60 : decode cC_sortInto 60 = .ok (.iinc 5 (-1), 3) := by decide +kernel
theorem dC_sortInto_63 : decode cC_sortInto 63 = .ok (.goto (-34), 3) := by decide +kernel
theorem dC_sortInto_66 : decode cC_sortInto 66 = .ok (.aload_n 1, 1) := by decide +kernel
theorem dC_sortInto_67 : decode cC_sortInto 67 = .ok (.iload 5, 2) := by decide +kernel
theorem dC_sortInto_69 : decode cC_sortInto 69 = .ok (.aload_n 0, 1) := by decide +kernel
theorem dC_sortInto_70 : decode cC_sortInto 70 = .ok (.getfield 9, 3) := by decide +kernel
theorem dC_sortInto_73 : decode cC_sortInto 73 = .ok (.iload 4, 2) := by decide +kernel
theorem dC_sortInto_75 : decode cC_sortInto 75 = .ok (.iaload, 1) := by decide +kernel
theorem dC_sortInto_76 : decode cC_sortInto 76 = .ok (.iastore, 1) := by decide +kernel
theorem dC_sortInto_77 : decode cC_sortInto 77 = .ok (.iinc 4 1, 3) := by decide +kernel
theorem dC_sortInto_80 : decode cC_sortInto 80 = .ok (.goto (-75), 3) := by decide +kernel
theorem dC_sortInto_83 : decode cC_sortInto 83 = .ok (.iload_n 3, 1) := by decide +kernel
theorem dC_sortInto_84 : decode cC_sortInto 84 = .ok (.ireturn, 1) := by decide +kernel
