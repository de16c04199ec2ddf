theorem dC_become_0 : decode cC_become 0 = .ok (.aload_n 0, 1) := by decide +kernel
theorem dC_become_1 : decode cC_become 1 = .ok (.getfield 19, 3) := by decide +kernel
theorem dC_become_4 : decode cC_become 4 = .ok (.istore_n 2, 1) := by decide +kernel
theorem dC_become_5 : decode cC_become 5 = .ok (.aload_n 0, 1) := by decide +kernel
theorem dC_become_6 : decode cC_become 6 = .ok (.iload_n 1, 1) := by decide +kernel
theorem dC_become_7 : decode cC_become 7 = .ok (.putfield 19, 3) := by decide +kernel
theorem dC_become_10 : decode cC_become 10 = .ok (.aload_n 0, 1) := by decide +kernel
theorem dC_become_11 : decode cC_become 11 = .ok (.iconst 0, 1) := by decide +kernel
theorem dC_become_12 : decode cC_become 12 = .ok (.putfield 30, 3) := by decide +kernel
theorem dC_become_15 : decode cC_become 15 = .ok (.iload_n 2, 1) := by decide +kernel
theorem dC_become_16 : decode cC_become 16 = .ok (.ireturn, 1) := by decide +kernel
theorem dC_exchange_0 : decode cC_exchange 0 = .ok (.aload_n 0, 1) := by decide +kernel
theorem dC_exchange_1 : decode cC_exchange 1 = .ok (.getfield 9, 3) := by decide +kernel
theorem dC_exchange_4 : decode cC_exchange 4 = .ok (.iload_n 1, 1) := by decide +kernel
theorem dC_exchange_5 : decode cC_exchange 5 = .ok (.iaload, 1) := by decide +kernel
theorem dC_exchange_6 : decode cC_exchange 6 = .ok (.istore_n 3, 1) := by decide +kernel
theorem dC_exchange_7 : decode cC_exchange 7 = .ok (.aload_n 0, 1) := by decide +kernel
theorem dC_exchange_8 : decode cC_exchange 8 = .ok (.getfield 9, 3) := by decide +kernel
theorem dC_exchange_11 : decode cC_exchange 11 = .ok (.iload_n 1, 1) := by decide +kernel
theorem dC_exchange_12 : decode cC_exchange 12 = .ok (.iload_n 2, 1) := by decide +kernel
theorem dC_exchange_13 : decode cC_exchange 13 = .ok (.iastore, 1) := by decide +kernel
theorem dC_exchange_14 : decode cC_exchange 14 = .ok (.iload_n 3, 1) := by decide +kernel
theorem dC_exchange_15 : decode cC_exchange 15 = .ok (.ireturn, 1) := by decide +kernel
theorem dC_cutEdges_0 : decode cC_cutEdges 0 = .ok (.aload_n 0, 1) := by decide +kernel
theorem dC_cutEdges_1 : decode cC_cutEdges 1 = .ok (.iconst 0, 1) := by decide +kernel
theorem dC_cutEdges_2 : decode cC_cutEdges 2 = .ok (.putfield 30, 3) := by decide +kernel
theorem dC_cutEdges_5 : decode cC_cutEdges 5 = .ok (.iload 4, 2) := by decide +kernel
theorem dC_cutEdges_7 : decode cC_cutEdges 7 = .ok (.ifCond .ne 5, 3) := by decide +kernel
theorem dC_cutEdges_10 : decode cC_cutEdges 10 = .ok (.iconst 0, 1) := by decide +kernel
theorem dC_cutEdges_11 : decode cC_cutEdges 11 = .ok (.ireturn, 1) := by decide +kernel
theorem dC_cutEdges_12 : decode cC_cutEdges 12 = .ok (.aload_n 3, 1) := by decide +kernel
theorem dC_cutEdges_13 : decode cC_cutEdges 13 = .ok (.iconst 0, 1) := by decide +kernel
theorem dC_cutEdges_14 : decode cC_cutEdges 14 = .ok (.iaload, 1) := by decide +kernel
theorem dC_cutEdges_15 : decode cC_cutEdges 15 = .ok (.istore 5, 2) := by decide +kernel
theorem dC_cutEdges_17 : decode cC_cutEdges 17 = .ok (.aload_n 3, 1) := by decide +kernel
theorem dC_cutEdges_18 : decode cC_cutEdges 18 = .ok (.iload 4, 2) := by decide +kernel
theorem dC_cutEdges_20 : decode cC_cutEdges 20 = .ok (.iconst 1, 1) := by decide +kernel
theorem dC_cutEdges_21 : decode cC_cutEdges 21 = .ok (.isub, 1) := by decide +kernel
theorem dC_cutEdges_22 : decode cC_cutEdges 22 = .ok (.iaload, 1) := by decide +kernel
theorem dC_cutEdges_23 : decode cC_cutEdges 23 = .ok (.iload 5, 2) := by decide +kernel
theorem dC_cutEdges_25 : decode cC_cutEdges 25 = .ok (.isub, 1) := by decide +kernel
theorem dC_cutEdges_26 : decode cC_cutEdges 26 = .ok (.iconst 1, 1) := by decide +kernel
theorem dC_cutEdges_27 : decode cC_cutEdges 27 = .ok (.iadd, 1) := by decide +kernel
theorem dC_cutEdges_28 : decode cC_cutEdges 28 = .ok (.istore 6, 2) := by decide +kernel
theorem dC_cutEdges_30 : decode cC_cutEdges 30 = .ok (.iload 5, 2) := by decide +kernel
theorem dC_cutEdges_32 : decode cC_cutEdges 32 = .ok (.istore 7, 2) := by decide +kernel
theorem dC_cutEdges_34 : decode cC_cutEdges 34 = .ok (.iconst 1, 1) := by decide +kernel
theorem dC_cutEdges_35 : decode cC_cutEdges 35 = .ok (.istore 8, 2) := by decide +kernel
theorem dC_cutEdges_37 : decode cC_cutEdges 37 = .ok (.iload 8, 2) := by decide +kernel
theorem dC_cutEdges_39 : decode cC_cutEdges 39 = .ok (.iload_n 2, 1) := by decide +kernel
theorem dC_cutEdges_40 : decode cC_cutEdges 40 = .ok (.if_icmp .ge 66, 3) := by decide +kernel
theorem dC_cutEdges_43 : decode cC_cutEdges 43 = .ok (.iload_n 1, 1) := by decide +kernel
theorem dC_cutEdges_44 : decode cC_cutEdges 44 = .ok (.ifCond .eq 15, 3) := by decide +kernel
theorem dC_cutEdges_47 : decode cC_cutEdges 47 = .ok (.aload_n 3, 1) := by decide +kernel
theorem dC_cutEdges_48 : decode cC_cutEdges 48 = .ok (.iload 8, 2) := by decide +kernel
theorem dC_cutEdges_50 : decode cC_cutEdges 50 = .ok (.iload 4, 2) := by decide +kernel
theorem dC_cutEdges_52 : decode cC_cutEdges 52 = .ok (.imul, 1) := by decide +kernel
theorem dC_cutEdges_53 : decode cC_cutEdges 53 = .ok (.iload_n 2, 1) := by decide +kernel
theorem dC_cutEdges_54 : decode cC_cutEdges 54 = .ok (.idiv, 1) := by decide +kernel
theorem dC_cutEdges_55 : decode cC_cutEdges 55 = .ok (.iaload, 1) := by decide +kernel
theorem dC_cutEdges_56 : decode cC_cutEdges 56 = .ok (.goto 13, 3) := by decide +kernel
theorem dC_cutEdges_59 : decode cC_cutEdges 59 = .ok (.iload 5, 2) := by decide +kernel
theorem dC_cutEdges_61 : decode cC_cutEdges 61 = .ok (.iload 8, 2) := by decide +kernel
theorem dC_cutEdges_63 : decode cC_cutEdges 63 = .ok (.iload 6, 2) := by decide +kernel
theorem dC_cutEdges_65 : decode cC_cutEdges 65 = .ok (.imul, 1) := by decide +kernel
theorem dC_cutEdges_66 : decode cC_cutEdges 66 = .ok (.iload_n 2, 1) := by decide +kernel
theorem dC_cutEdges_67 : decode cC_cutEdges 67 = .ok (.idiv, 1) := by decide +kernel
theorem dC_cutEdges_68 : decode cC_cutEdges 68 = .ok (.iadd, 1) := by decide +kernel
theorem dC_cutEdges_69 : decode cC_cutEdges 69 = .ok (.istore 9, 2) := by decide +kernel
theorem dC_cutEdges_71 : decode cC_cutEdges 71 = .ok (.iload 9, 2) := by decide +kernel
theorem dC_cutEdges_73 : decode cC_cutEdges 73 = .ok (.iload 7, 2) := by decide +kernel
theorem dC_cutEdges_75 : decode cC_cutEdges 75 = .ok (.if_icmp .le 25, 3) := by decide +kernel
theorem dC_cutEdges_78 : decode cC_cutEdges 78 = .ok (.aload_n 0, 1) := by decide +kernel
theorem dC_cutEdges_79 : decode cC_cutEdges 79 = .ok (.getfield 15, 3) := by decide +kernel
theorem dC_cutEdges_82 : decode cC_cutEdges 82 = .ok (.aload_n 0, 1) := by decide +kernel
theorem dC_cutEdges_83 : decode cC_cutEdges 83 = .ok (.dup, 1) := by decide +kernel
theorem dC_cutEdges_84 : decode cC_cutEdges 84 = .ok (.getfield 30, 3) := by decide +kernel
theorem dC_cutEdges_87 : decode cC_cutEdges 87 = .ok (.dup_x1, 1) := by decide +kernel
theorem dC_cutEdges_88 : decode cC_cutEdges 88 = .ok (.iconst 1, 1) := by decide +kernel
theorem dC_cutEdges_89 : decode cC_cutEdges 89 = .ok (.iadd, 1) := by decide +kernel
theorem dC_cutEdges_90 : decode cC_cutEdges 90 = .ok (.putfield 30, 3) := by decide +kernel
theorem dC_cutEdges_93 : decode cC_cutEdges 93 = .ok (.iload 9, 2) := by decide +kernel
theorem dC_cutEdges_95 : decode cC_cutEdges 95 = .ok (.iastore, 1) := by decide +kernel
theorem dC_cutEdges_96 : decode cC_cutEdges 96 = .ok (.iload 9, 2) := by decide +kernel
theorem dC_cutEdges_98 : decode cC_cutEdges 98 = .ok (.istore 7, 2) := by decide +kernel
theorem dC_cutEdges_100 : decode cC_cutEdges 100 = .ok (.iinc 8 1, 3) := by decide +kernel
theorem dC_cutEdges_103 : decode cC_cutEdges 103 = .ok (.goto (-66), 3) := by decide +kernel
theorem dC_cutEdges_106 : decode cC_cutEdges 106 = .ok (.aload_n 0, 1) := by decide +kernel
theorem dC_cutEdges_107 : decode cC_cutEdges 107 = .ok (.getfield 30, 3) := by decide +kernel
theorem dC_cutEdges_110 : decode cC_cutEdges 110 = .ok (.ireturn, 1) := by decide +kernel
theorem dC_sortInto_0 : decode cC_sortInto 0 = .ok (.iconst 0, 1) := by decide +kernel
theorem dC_sortInto_1 : decode cC_sortInto 1 = .ok (.istore_n 3, 1) := by decide +kernel
theorem dC_sortInto_2 : decode cC_sortInto 2 = .ok (.iconst 0, 1) := by decide +kernel
theorem dC_sortInto_3 : decode cC_sortInto 3 = .ok (.istore 4, 2) := by decide +kernel
theorem dC_sortInto_5 : decode cC_sortInto 5 = .ok (.iload 4, 2) := by decide +kernel
theorem dC_sortInto_7 : decode cC_sortInto 7 = .ok (.iload_n 2, 1) := by decide +kernel
theorem dC_sortInto_8 : decode cC_sortInto 8 = .ok (.if_icmp .ge 75, 3) := by decide +kernel
theorem dC_sortInto_11 : decode cC_sortInto 11 = .ok (.aload_n 0, 1) := by decide +kernel
theorem dC_sortInto_12 : decode cC_sortInto 12 = .ok (.getfield 9, 3) := by decide +kernel
theorem dC_sortInto_15 : decode cC_sortInto 15 = .ok (.iload 4, 2) := by decide +kernel
theorem dC_sortInto_17 : decode cC_sortInto 17 = .ok (.iaload, 1) := by decide +kernel
theorem dC_sortInto_18 : decode cC_sortInto 18 = .ok (.ldc 18, 2) := by decide +kernel
theorem dC_sortInto_20 : decode cC_sortInto 20 = .ok (.if_icmp .eq 57, 3) := by decide +kernel
theorem dC_sortInto_23 : decode cC_sortInto 23 = .ok (.iload_n 3, 1) := by decide +kernel
theorem dC_sortInto_24 : decode cC_sortInto 24 = .ok (.iinc 3 1, 3) := by decide +kernel
theorem dC_sortInto_27 : decode cC_sortInto 27 = .ok (.istore 5, 2) := by decide +kernel
theorem dC_sortInto_29 : decode cC_sortInto 29 = .ok (.iload 5, 2) := by decide +kernel
theorem dC_sortInto_31 : decode cC_sortInto 31 = .ok (.ifCond .le 35, 3) := by decide +kernel
theorem dC_sortInto_34 : decode cC_sortInto 34 = .ok (.aload_n 1, 1) := by decide +kernel
theorem dC_sortInto_35 : decode cC_sortInto 35 = .ok (.iload 5, 2) := by decide +kernel
theorem dC_sortInto_37 : decode cC_sortInto 37 = .ok (.iconst 1, 1) := by decide +kernel
theorem dC_sortInto_38 : decode cC_sortInto 38 = .ok (.isub, 1) := by decide +kernel
theorem dC_sortInto_39 : decode cC_sortInto 39 = .ok (.iaload, 1) := by decide +kernel
theorem dC_sortInto_40 : decode cC_sortInto 40 = .ok (.aload_n 0, 1) := by decide +kernel
theorem dC_sortInto_41 : decode cC_sortInto 41 = .ok (.getfield 9, 3) := by decide +kernel
theorem dC_sortInto_44 : decode cC_sortInto 44 = .ok (.iload 4, 2) := by decide +kernel
theorem dC_sortInto_46 : decode cC_sortInto 46 = .ok (.iaload, 1) := by decide +kernel
theorem dC_sortInto_47 : decode cC_sortInto 47 = .ok (.if_icmp .le 19, 3) := by decide +kernel
theorem dC_sortInto_50 : decode cC_sortInto 50 = .ok (.aload_n 1, 1) := by decide +kernel
theorem dC_sortInto_51 : decode cC_sortInto 51 = .ok (.iload 5, 2) := by decide +kernel
theorem dC_sortInto_53 : decode cC_sortInto 53 = .ok (.aload_n 1, 1) := by decide +kernel
theorem dC_sortInto_54 : decode cC_sortInto 54 = .ok (.iload 5, 2) := by decide +kernel
theorem dC_sortInto_56 : decode cC_sortInto 56 = .ok (.iconst 1, 1) := by decide +kernel
theorem dC_sortInto_57 : decode cC_sortInto 57 = .ok (.isub, 1) := by decide +kernel
theorem dC_sortInto_58 : decode cC_sortInto 58 = .ok (.iaload, 1) := by decide +kernel
theorem dC_sortInto_59 : decode cC_sortInto 59 = .ok (.iastore, 1) := by decide +kernel
theorem dC_sortInto_60 : decode cC_sortInto 60 = .ok (.iinc 5 (-1), 3) := by decide +kernel
theorem dC_sortInto_63 : decode cC_sortInto 63 = .ok (.goto (-34), 3) := by decide +kernel
theorem dC_sortInto_66 : decode cC_sortInto 66 = .ok (.aload_n 1, 1) := by decide +kernel
theorem dC_sortInto_67 : decode cC_sortInto 67 = .ok (.iload 5, 2) := by decide +kernel
theorem dC_sortInto_69 : decode cC_sortInto 69 = .ok (.aload_n 0, 1) := by decide +kernel
theorem dC_sortInto_70 : decode cC_sortInto 70 = .ok (.getfield 9, 3) := by decide +kernel
theorem dC_sortInto_73 : decode cC_sortInto 73 = .ok (.iload 4, 2) := by decide +kernel
theorem dC_sortInto_75 : decode cC_sortInto 75 = .ok (.iaload, 1) := by decide +kernel
theorem dC_sortInto_76 : decode cC_sortInto 76 = .ok (.iastore, 1) := by decide +kernel
theorem dC_sortInto_77 : decode cC_sortInto 77 = .ok (.iinc 4 1, 3) := by decide +kernel
theorem dC_sortInto_80 : decode cC_sortInto 80 = .ok (.goto (-75), 3) := by decide +kernel
theorem dC_sortInto_83 : decode cC_sortInto 83 = .ok (.iload_n 3, 1) := by decide +kernel
theorem dC_sortInto_84 : decode cC_sortInto 84 = .ok (.ireturn, 1) := by decide +kernel
theorem dC_hasKindsAlone_0 : decode cC_hasKindsAlone 0 = .ok (.iconst 1, 1) := by decide +kernel
theorem dC_hasKindsAlone_1 : decode cC_hasKindsAlone 1 = .ok (.istore_n 2, 1) := by decide +kernel
theorem dC_hasKindsAlone_2 : decode cC_hasKindsAlone 2 = .ok (.iconst 0, 1) := by decide +kernel
theorem dC_hasKindsAlone_3 : decode cC_hasKindsAlone 3 = .ok (.istore_n 3, 1) := by decide +kernel
theorem dC_hasKindsAlone_4 : decode cC_hasKindsAlone 4 = .ok (.iload_n 3, 1) := by decide +kernel
theorem dC_hasKindsAlone_5 : decode cC_hasKindsAlone 5 = .ok (.iload_n 1, 1) := by decide +kernel
theorem dC_hasKindsAlone_6 : decode cC_hasKindsAlone 6 = .ok (.if_icmp .ge 42, 3) := by decide +kernel
theorem dC_hasKindsAlone_9 : decode cC_hasKindsAlone 9 = .ok (.iload_n 2, 1) := by decide +kernel
theorem dC_hasKindsAlone_10 : decode cC_hasKindsAlone 10 = .ok (.ifCond .eq 30, 3) := by decide +kernel
theorem dC_hasKindsAlone_13 : decode cC_hasKindsAlone 13 = .ok (.aload_n 0, 1) := by decide +kernel
theorem dC_hasKindsAlone_14 : decode cC_hasKindsAlone 14 = .ok (.getfield 9, 3) := by decide +kernel
theorem dC_hasKindsAlone_17 : decode cC_hasKindsAlone 17 = .ok (.iload_n 3, 1) := by decide +kernel
theorem dC_hasKindsAlone_18 : decode cC_hasKindsAlone 18 = .ok (.iaload, 1) := by decide +kernel
theorem dC_hasKindsAlone_19 : decode cC_hasKindsAlone 19 = .ok (.ldc 18, 2) := by decide +kernel
theorem dC_hasKindsAlone_21 : decode cC_hasKindsAlone 21 = .ok (.if_icmp .eq 15, 3) := by decide +kernel
theorem dC_hasKindsAlone_24 : decode cC_hasKindsAlone 24 = .ok (.aload_n 0, 1) := by decide +kernel
theorem dC_hasKindsAlone_25 : decode cC_hasKindsAlone 25 = .ok (.getfield 9, 3) := by decide +kernel
theorem dC_hasKindsAlone_28 : decode cC_hasKindsAlone 28 = .ok (.iload_n 3, 1) := by decide +kernel
theorem dC_hasKindsAlone_29 : decode cC_hasKindsAlone 29 = .ok (.iaload, 1) := by decide +kernel
theorem dC_hasKindsAlone_30 : decode cC_hasKindsAlone 30 = .ok (.invokestatic 23, 3) := by decide +kernel
theorem dC_hasKindsAlone_33 : decode cC_hasKindsAlone 33 = .ok (.ifCond .eq 7, 3) := by decide +kernel
theorem dC_hasKindsAlone_36 : decode cC_hasKindsAlone 36 = .ok (.iconst 1, 1) := by decide +kernel
theorem dC_hasKindsAlone_37 : decode cC_hasKindsAlone 37 = .ok (.goto 4, 3) := by decide +kernel
theorem dC_hasKindsAlone_40 : decode cC_hasKindsAlone 40 = .ok (.iconst 0, 1) := by decide +kernel
theorem dC_hasKindsAlone_41 : decode cC_hasKindsAlone 41 = .ok (.istore_n 2, 1) := by decide +kernel
theorem dC_hasKindsAlone_42 : decode cC_hasKindsAlone 42 = .ok (.iinc 3 1, 3) := by decide +kernel
theorem dC_hasKindsAlone_45 : decode cC_hasKindsAlone 45 = .ok (.goto (-41), 3) := by decide +kernel
theorem dC_hasKindsAlone_48 : decode cC_hasKindsAlone 48 = .ok (.iload_n 2, 1) := by decide +kernel
theorem dC_hasKindsAlone_49 : decode cC_hasKindsAlone 49 = .ok (.ireturn, 1) := by decide +kernel
theorem dC_binOf_0 : decode cC_binOf 0 = .ok (.aload_n 0, 1) := by decide +kernel
theorem dC_binOf_1 : decode cC_binOf 1 = .ok (.getfield 19, 3) := by decide +kernel
theorem dC_binOf_4 : decode cC_binOf 4 = .ok (.ifCond .eq 5, 3) := by decide +kernel
theorem dC_binOf_7 : decode cC_binOf 7 = .ok (.iload_n 1, 1) := by decide +kernel
theorem dC_binOf_8 : decode cC_binOf 8 = .ok (.ireturn, 1) := by decide +kernel
theorem dC_binOf_9 : decode cC_binOf 9 = .ok (.iconst 0, 1) := by decide +kernel
theorem dC_binOf_10 : decode cC_binOf 10 = .ok (.istore_n 2, 1) := by decide +kernel
theorem dC_binOf_11 : decode cC_binOf 11 = .ok (.iload_n 2, 1) := by decide +kernel
theorem dC_binOf_12 : decode cC_binOf 12 = .ok (.aload_n 0, 1) := by decide +kernel
theorem dC_binOf_13 : decode cC_binOf 13 = .ok (.getfield 30, 3) := by decide +kernel
theorem dC_binOf_16 : decode cC_binOf 16 = .ok (.if_icmp .ge 19, 3) := by decide +kernel
theorem dC_binOf_19 : decode cC_binOf 19 = .ok (.aload_n 0, 1) := by decide +kernel
theorem dC_binOf_20 : decode cC_binOf 20 = .ok (.getfield 15, 3) := by decide +kernel
theorem dC_binOf_23 : decode cC_binOf 23 = .ok (.iload_n 2, 1) := by decide +kernel
theorem dC_binOf_24 : decode cC_binOf 24 = .ok (.iaload, 1) := by decide +kernel
theorem dC_binOf_25 : decode cC_binOf 25 = .ok (.iload_n 1, 1) := by decide +kernel
theorem dC_binOf_26 : decode cC_binOf 26 = .ok (.if_icmp .gt 9, 3) := by decide +kernel
theorem dC_binOf_29 : decode cC_binOf 29 = .ok (.iinc 2 1, 3) := by decide +kernel
theorem dC_binOf_32 : decode cC_binOf 32 = .ok (.goto (-21), 3) := by decide +kernel
theorem dC_binOf_35 : decode cC_binOf 35 = .ok (.iload_n 2, 1) := by decide +kernel
theorem dC_binOf_36 : decode cC_binOf 36 = .ok (.ireturn, 1) := by decide +kernel
theorem dC_takes_0 : decode cC_takes 0 = .ok (.iload_n 1, 1) := by decide +kernel
theorem dC_takes_1 : decode cC_takes 1 = .ok (.ldc 18, 2) := by decide +kernel
theorem dC_takes_3 : decode cC_takes 3 = .ok (.if_icmp .eq 27, 3) := by decide +kernel
theorem dC_takes_6 : decode cC_takes 6 = .ok (.aload_n 0, 1) := by decide +kernel
theorem dC_takes_7 : decode cC_takes 7 = .ok (.getfield 19, 3) := by decide +kernel
theorem dC_takes_10 : decode cC_takes 10 = .ok (.ifCond .eq 13, 3) := by decide +kernel
theorem dC_takes_13 : decode cC_takes 13 = .ok (.iload_n 1, 1) := by decide +kernel
theorem dC_takes_14 : decode cC_takes 14 = .ok (.invokestatic 23, 3) := by decide +kernel
theorem dC_takes_17 : decode cC_takes 17 = .ok (.ifCond .eq 17, 3) := by decide +kernel
theorem dC_takes_20 : decode cC_takes 20 = .ok (.goto 10, 3) := by decide +kernel
theorem dC_takes_23 : decode cC_takes 23 = .ok (.iload_n 1, 1) := by decide +kernel
theorem dC_takes_24 : decode cC_takes 24 = .ok (.invokestatic 27, 3) := by decide +kernel
theorem dC_takes_27 : decode cC_takes 27 = .ok (.ifCond .eq 7, 3) := by decide +kernel
theorem dC_takes_30 : decode cC_takes 30 = .ok (.iconst 1, 1) := by decide +kernel
theorem dC_takes_31 : decode cC_takes 31 = .ok (.goto 4, 3) := by decide +kernel
theorem dC_takes_34 : decode cC_takes 34 = .ok (.iconst 0, 1) := by decide +kernel
theorem dC_takes_35 : decode cC_takes 35 = .ok (.ireturn, 1) := by decide +kernel
theorem dT_init_0 : decode cT_init 0 = .ok (.aload_n 0, 1) := by decide +kernel
theorem dT_init_1 : decode cT_init 1 = .ok (.invokespecial 3, 3) := by decide +kernel
theorem dT_init_4 : decode cT_init 4 = .ok (.aload_n 0, 1) := by decide +kernel
theorem dT_init_5 : decode cT_init 5 = .ok (.bipush 6, 2) := by decide +kernel
theorem dT_init_7 : decode cT_init 7 = .ok (.anewarray 9, 3) := by decide +kernel
theorem dT_init_10 : decode cT_init 10 = .ok (.putfield 11, 3) := by decide +kernel
theorem dT_init_13 : decode cT_init 13 = .ok (.aload_n 0, 1) := by decide +kernel
theorem dT_init_14 : decode cT_init 14 = .ok (.bipush 49, 2) := by decide +kernel
theorem dT_init_16 : decode cT_init 16 = .ok (.newarray .int, 2) := by decide +kernel
theorem dT_init_18 : decode cT_init 18 = .ok (.putfield 17, 3) := by decide +kernel
theorem dT_init_21 : decode cT_init 21 = .ok (.iconst 0, 1) := by decide +kernel
theorem dT_init_22 : decode cT_init 22 = .ok (.istore_n 1, 1) := by decide +kernel
theorem dT_init_23 : decode cT_init 23 = .ok (.iload_n 1, 1) := by decide +kernel
theorem dT_init_24 : decode cT_init 24 = .ok (.bipush 6, 2) := by decide +kernel
theorem dT_init_26 : decode cT_init 26 = .ok (.if_icmp .ge 22, 3) := by decide +kernel
theorem dT_init_29 : decode cT_init 29 = .ok (.aload_n 0, 1) := by decide +kernel
theorem dT_init_30 : decode cT_init 30 = .ok (.getfield 11, 3) := by decide +kernel
theorem dT_init_33 : decode cT_init 33 = .ok (.iload_n 1, 1) := by decide +kernel
theorem dT_init_34 : decode cT_init 34 = .ok (.new 9, 3) := by decide +kernel
theorem dT_init_37 : decode cT_init 37 = .ok (.dup, 1) := by decide +kernel
theorem dT_init_38 : decode cT_init 38 = .ok (.invokespecial 21, 3) := by decide +kernel
theorem dT_init_41 : decode cT_init 41 = .ok (.aastore, 1) := by decide +kernel
theorem dT_init_42 : decode cT_init 42 = .ok (.iinc 1 1, 3) := by decide +kernel
theorem dT_init_45 : decode cT_init 45 = .ok (.goto (-22), 3) := by decide +kernel
theorem dT_init_48 : decode cT_init 48 = .ok (.return_, 1) := by decide +kernel
theorem dG_init_0 : decode cG_init 0 = .ok (.aload_n 0, 1) := by decide +kernel
theorem dG_init_1 : decode cG_init 1 = .ok (.invokespecial 3, 3) := by decide +kernel
theorem dG_init_4 : decode cG_init 4 = .ok (.aload_n 0, 1) := by decide +kernel
theorem dG_init_5 : decode cG_init 5 = .ok (.new 9, 3) := by decide +kernel
theorem dG_init_8 : decode cG_init 8 = .ok (.dup, 1) := by decide +kernel
theorem dG_init_9 : decode cG_init 9 = .ok (.bipush 24, 2) := by decide +kernel
theorem dG_init_11 : decode cG_init 11 = .ok (.invokespecial 11, 3) := by decide +kernel
theorem dG_init_14 : decode cG_init 14 = .ok (.putfield 14, 3) := by decide +kernel
theorem dG_init_17 : decode cG_init 17 = .ok (.return_, 1) := by decide +kernel
theorem dS_init_0 : decode cS_init 0 = .ok (.aload_n 0, 1) := by decide +kernel
theorem dS_init_1 : decode cS_init 1 = .ok (.invokespecial 3, 3) := by decide +kernel
theorem dS_init_4 : decode cS_init 4 = .ok (.aload_n 0, 1) := by decide +kernel
theorem dS_init_5 : decode cS_init 5 = .ok (.new 9, 3) := by decide +kernel
theorem dS_init_8 : decode cS_init 8 = .ok (.dup, 1) := by decide +kernel
theorem dS_init_9 : decode cS_init 9 = .ok (.bipush 48, 2) := by decide +kernel
theorem dS_init_11 : decode cS_init 11 = .ok (.invokespecial 11, 3) := by decide +kernel
theorem dS_init_14 : decode cS_init 14 = .ok (.putfield 14, 3) := by decide +kernel
theorem dS_init_17 : decode cS_init 17 = .ok (.return_, 1) := by decide +kernel
theorem dO_init_0 : decode cO_init 0 = .ok (.aload_n 0, 1) := by decide +kernel
theorem dO_init_1 : decode cO_init 1 = .ok (.invokespecial 3, 3) := by decide +kernel
theorem dO_init_4 : decode cO_init 4 = .ok (.aload_n 0, 1) := by decide +kernel
theorem dO_init_5 : decode cO_init 5 = .ok (.sipush 866, 3) := by decide +kernel
theorem dO_init_8 : decode cO_init 8 = .ok (.newarray .byte, 2) := by decide +kernel
theorem dO_init_10 : decode cO_init 10 = .ok (.putfield 9, 3) := by decide +kernel
theorem dO_init_13 : decode cO_init 13 = .ok (.aload_n 0, 1) := by decide +kernel
theorem dO_init_14 : decode cO_init 14 = .ok (.iconst 1, 1) := by decide +kernel
theorem dO_init_15 : decode cO_init 15 = .ok (.anewarray 15, 3) := by decide +kernel
theorem dO_init_18 : decode cO_init 18 = .ok (.dup, 1) := by decide +kernel
theorem dO_init_19 : decode cO_init 19 = .ok (.iconst 0, 1) := by decide +kernel
theorem dO_init_20 : decode cO_init 20 = .ok (.new 15, 3) := by decide +kernel
theorem dO_init_23 : decode cO_init 23 = .ok (.dup, 1) := by decide +kernel
theorem dO_init_24 : decode cO_init 24 = .ok (.bipush 48, 2) := by decide +kernel
theorem dO_init_26 : decode cO_init 26 = .ok (.invokespecial 17, 3) := by decide +kernel
theorem dO_init_29 : decode cO_init 29 = .ok (.aastore, 1) := by decide +kernel
theorem dO_init_30 : decode cO_init 30 = .ok (.putfield 20, 3) := by decide +kernel
theorem dO_init_33 : decode cO_init 33 = .ok (.aload_n 0, 1) := by decide +kernel
theorem dO_init_34 : decode cO_init 34 = .ok (.new 15, 3) := by decide +kernel
theorem dO_init_37 : decode cO_init 37 = .ok (.dup, 1) := by decide +kernel
theorem dO_init_38 : decode cO_init 38 = .ok (.bipush 48, 2) := by decide +kernel
theorem dO_init_40 : decode cO_init 40 = .ok (.invokespecial 17, 3) := by decide +kernel
theorem dO_init_43 : decode cO_init 43 = .ok (.putfield 24, 3) := by decide +kernel
theorem dO_init_46 : decode cO_init 46 = .ok (.return_, 1) := by decide +kernel
