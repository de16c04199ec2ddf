theorem dC_takes_0 : decode cC_takes 0 = .ok (.iload_n 1, 1) := by decide +kernel
theorem dC_takes_1 : decode cC_takes 1 = .ok (.ldc 18, 2) := by decide +kernel
theorem dC_takes_3 : decode cC_takes 3 = .ok (.if_icmp .eq 27, 3) := by decide +kernel
theorem dC_takes_6 : decode cC_takes 6 = .ok (.aload_n 0, 1) := by decide +kernel
theorem dC_takes_7 : decode cC_takes 7 = .ok (.getfield 19, 3) := by decide +kernel
theorem dC_takes_10 : decode cC_takes 10 = .ok (.ifCond .eq 13, 3) := by decide +kernel
theorem dC_takes_13 : decode cC_takes 13 = .ok (.iload_n 1, 1) := by decide +kernel
theorem dC_takes_14 : decode cC_takes 14 = .ok (.invokestatic 23, 3) := by decide +kernel
theorem dC_takes_17 : decode cC_takes 17 = .ok (.ifCond .eq 17, 3) := by decide +kernel
theorem dC_takes_20 : decode cC_takes 20 = .ok (.goto 10, 3) := by decide +kernel
theorem dC_takes_23 : decode cC_takes 23 = .ok (.iload_n 1, 1) := by decide +kernel
theorem dC_takes_24 : decode cC_takes 24 = .ok (.invokestatic 27, 3) := by decide +kernel
theorem dC_takes_27 : decode cC_takes 27 = .ok (.ifCond .eq 7, 3) := by decide +kernel
theorem dC_takes_30 : decode cC_takes 30 = .ok (.iconst 1, 1) := by decide +kernel
theorem dC_takes_31 : decode cC_takes 31 = .ok (.goto 4, 3) := by decide +kernel
theorem dC_takes_34 : decode cC_takes 34 = .ok (.iconst 0, 1) := by decide +kernel
theorem dC_takes_35 : decode cC_takes 35 = .ok (.ireturn, 1) := by decide +kernel
theorem dC_exchange_0 : decode cC_exchange 0 = .ok (.aload_n 0, 1) := by decide +kernel
theorem dC_exchange_1 : decode cC_exchange 1 = .ok (.getfield 9, 3) := by decide +kernel
theorem dC_exchange_4 : decode cC_exchange 4 = .ok (.iload_n 1, 1) := by decide +kernel
theorem dC_exchange_5 : decode cC_exchange 5 = .ok (.iaload, 1) := by decide +kernel
theorem dC_exchange_6 : decode cC_exchange 6 = .ok (.istore_n 3, 1) := by decide +kernel
theorem dC_exchange_7 : decode cC_exchange 7 = .ok (.aload_n 0, 1) := by decide +kernel
theorem dC_exchange_8 : decode cC_exchange 8 = .ok (.getfield 9, 3) := by decide +kernel
theorem dC_exchange_11 : decode cC_exchange 11 = .ok (.iload_n 1, 1) := by decide +kernel
theorem dC_exchange_12 : decode cC_exchange 12 = .ok (.iload_n 2, 1) := by decide +kernel
theorem dC_exchange_13 : decode cC_exchange 13 = .ok (.iastore, 1) := by decide +kernel
theorem dC_exchange_14 : decode cC_exchange 14 = .ok (.iload_n 3, 1) := by decide +kernel
theorem dC_exchange_15 : decode cC_exchange 15 = .ok (.ireturn, 1) := by decide +kernel
theorem dC_hasKindsAlone_0 : decode cC_hasKindsAlone 0 = .ok (.iconst 1, 1) := by decide +kernel
theorem dC_hasKindsAlone_1 : decode cC_hasKindsAlone 1 = .ok (.istore_n 2, 1) := by decide +kernel
theorem dC_hasKindsAlone_2 : decode cC_hasKindsAlone 2 = .ok (.iconst 0, 1) := by decide +kernel
theorem dC_hasKindsAlone_3 : decode cC_hasKindsAlone 3 = .ok (.istore_n 3, 1) := by decide +kernel
theorem dC_hasKindsAlone_4 : decode cC_hasKindsAlone 4 = .ok (.iload_n 3, 1) := by decide +kernel
theorem dC_hasKindsAlone_5 : decode cC_hasKindsAlone 5 = .ok (.iload_n 1, 1) := by decide +kernel
theorem dC_hasKindsAlone_6 : decode cC_hasKindsAlone 6 = .ok (.if_icmp .ge 42, 3) := by decide +kernel
theorem dC_hasKindsAlone_9 : decode cC_hasKindsAlone 9 = .ok (.iload_n 2, 1) := by decide +kernel
theorem dC_hasKindsAlone_10 : decode cC_hasKindsAlone 10 = .ok (.ifCond .eq 30, 3) := by decide +kernel
theorem dC_hasKindsAlone_13 : decode cC_hasKindsAlone 13 = .ok (.aload_n 0, 1) := by decide +kernel
theorem dC_hasKindsAlone_14 : decode cC_hasKindsAlone 14 = .ok (.getfield 9, 3) := by decide +kernel
theorem dC_hasKindsAlone_17 : decode cC_hasKindsAlone 17 = .ok (.iload_n 3, 1) := by decide +kernel
theorem dC_hasKindsAlone_18 : decode cC_hasKindsAlone 18 = .ok (.iaload, 1) := by decide +kernel
theorem dC_hasKindsAlone_19 : decode cC_hasKindsAlone 19 = .ok (.ldc 18, 2) := by decide +kernel
theorem dC_hasKindsAlone_21 : decode cC_hasKindsAlone 21 = .ok (.if_icmp .eq 15, 3) := by decide +kernel
theorem dC_hasKindsAlone_24 : decode cC_hasKindsAlone 24 = .ok (.aload_n 0, 1) := by decide +kernel
theorem dC_hasKindsAlone_25 : decode cC_hasKindsAlone 25 = .ok (.getfield 9, 3) := by decide +kernel
theorem dC_hasKindsAlone_28 : decode cC_hasKindsAlone 28 = .ok (.iload_n 3, 1) := by decide +kernel
theorem dC_hasKindsAlone_29 : decode cC_hasKindsAlone 29 = .ok (.iaload, 1) := by decide +kernel
theorem dC_hasKindsAlone_30 : decode cC_hasKindsAlone 30 = .ok (.invokestatic 23, 3) := by decide +kernel
theorem dC_hasKindsAlone_33 : decode cC_hasKindsAlone 33 = .ok (.ifCond .eq 7, 3) := by decide +kernel
theorem dC_hasKindsAlone_36 : decode cC_hasKindsAlone 36 = .ok (.iconst 1, 1) := by decide +kernel
theorem dC_hasKindsAlone_37 : decode cC_hasKindsAlone 37 = .ok (.goto 4, 3) := by decide +kernel
theorem dC_hasKindsAlone_40 : decode cC_hasKindsAlone 40 = .ok (.iconst 0, 1) := by decide +kernel
theorem dC_hasKindsAlone_41 : decode cC_hasKindsAlone 41 = .ok (.istore_n 2, 1) := by decide +kernel
theorem dC_hasKindsAlone_42 : decode cC_hasKindsAlone 42 = .ok (.iinc 3 1, 3) := by decide +kernel
theorem dC_hasKindsAlone_45 : decode cC_hasKindsAlone 45 = .ok (.goto (-41), 3) := by decide +kernel
theorem dC_hasKindsAlone_48 : decode cC_hasKindsAlone 48 = .ok (.iload_n 2, 1) := by decide +kernel
theorem dC_hasKindsAlone_49 : decode cC_hasKindsAlone 49 = .ok (.ireturn, 1) := by decide +kernel
theorem dC_become_0 : decode cC_become 0 = .ok (.aload_n 0, 1) := by decide +kernel
theorem dC_become_1 : decode cC_become 1 = .ok (.getfield 19, 3) := by decide +kernel
theorem dC_become_4 : decode cC_become 4 = .ok (.istore_n 2, 1) := by decide +kernel
theorem dC_become_5 : decode cC_become 5 = .ok (.aload_n 0, 1) := by decide +kernel
theorem dC_become_6 : decode cC_become 6 = .ok (.iload_n 1, 1) := by decide +kernel
theorem dC_become_7 : decode cC_become 7 = .ok (.putfield 19, 3) := by decide +kernel
theorem dC_become_10 : decode cC_become 10 = .ok (.aload_n 0, 1) := by decide +kernel
theorem dC_become_11 : decode cC_become 11 = .ok (.iconst 0, 1) := by decide +kernel
theorem dC_become_12 : decode cC_become 12 = .ok (.putfield 30, 3) := by decide +kernel
theorem dC_become_15 : decode cC_become 15 = .ok (.iload_n 2, 1) := by decide +kernel
theorem dC_become_16 : decode cC_become 16 = .ok (.ireturn, 1) := by decide +kernel
theorem dC_binOf_0 : decode cC_binOf 0 = .ok (.aload_n 0, 1) := by decide +kernel
theorem dC_binOf_1 : decode cC_binOf 1 = .ok (.getfield 19, 3) := by decide +kernel
theorem dC_binOf_4 : decode cC_binOf 4 = .ok (.ifCond .eq 5, 3) := by decide +kernel
theorem dC_binOf_7 : decode cC_binOf 7 = .ok (.iload_n 1, 1) := by decide +kernel
theorem dC_binOf_8 : decode cC_binOf 8 = .ok (.ireturn, 1) := by decide +kernel
theorem dC_binOf_9 : decode cC_binOf 9 = .ok (.iconst 0, 1) := by decide +kernel
theorem dC_binOf_10 : decode cC_binOf 10 = .ok (.istore_n 2, 1) := by decide +kernel
theorem dC_binOf_11 : decode cC_binOf 11 = .ok (.iload_n 2, 1) := by decide +kernel
theorem dC_binOf_12 : decode cC_binOf 12 = .ok (.aload_n 0, 1) := by decide +kernel
theorem dC_binOf_13 : decode cC_binOf 13 = .ok (.getfield 30, 3) := by decide +kernel
theorem dC_binOf_16 : decode cC_binOf 16 = .ok (.if_icmp .ge 19, 3) := by decide +kernel
theorem dC_binOf_19 : decode cC_binOf 19 = .ok (.aload_n 0, 1) := by decide +kernel
theorem dC_binOf_20 : decode cC_binOf 20 = .ok (.getfield 15, 3) := by decide +kernel
theorem dC_binOf_23 : decode cC_binOf 23 = .ok (.iload_n 2, 1) := by decide +kernel
theorem dC_binOf_24 : decode cC_binOf 24 = .ok (.iaload, 1) := by decide +kernel
theorem dC_binOf_25 : decode cC_binOf 25 = .ok (.iload_n 1, 1) := by decide +kernel
theorem dC_binOf_26 : decode cC_binOf 26 = .ok (.if_icmp .gt 9, 3) := by decide +kernel
theorem dC_binOf_29 : decode cC_binOf 29 = .ok (.iinc 2 1, 3) := by decide +kernel
theorem dC_binOf_32 : decode cC_binOf 32 = .ok (.goto (-21), 3) := by decide +kernel
theorem dC_binOf_35 : decode cC_binOf 35 = .ok (.iload_n 2, 1) := by decide +kernel
theorem dC_binOf_36 : decode cC_binOf 36 = .ok (.ireturn, 1) := by decide +kernel
theorem dN_becomeLeaf_0 : decode cN_becomeLeaf 0 = .ok (.aload_n 0, 1) := by decide +kernel
theorem dN_becomeLeaf_1 : decode cN_becomeLeaf 1 = .ok (.iconst (-1), 1) := by decide +kernel
theorem dN_becomeLeaf_2 : decode cN_becomeLeaf 2 = .ok (.putfield 20, 3) := by decide +kernel
theorem dN_becomeLeaf_5 : decode cN_becomeLeaf 5 = .ok (.aload_n 0, 1) := by decide +kernel
theorem dN_becomeLeaf_6 : decode cN_becomeLeaf 6 = .ok (.iconst 0, 1) := by decide +kernel
theorem dN_becomeLeaf_7 : decode cN_becomeLeaf 7 = .ok (.putfield 24, 3) := by decide +kernel
theorem dN_becomeLeaf_10 : decode cN_becomeLeaf 10 = .ok (.aload_n 0, 1) := by decide +kernel
theorem dN_becomeLeaf_11 : decode cN_becomeLeaf 11 = .ok (.iconst 0, 1) := by decide +kernel
theorem dN_becomeLeaf_12 : decode cN_becomeLeaf 12 = .ok (.putfield 27, 3) := by decide +kernel
theorem dN_becomeLeaf_15 : decode cN_becomeLeaf 15 = .ok (.aload_n 0, 1) := by decide +kernel
theorem dN_becomeLeaf_16 : decode cN_becomeLeaf 16 = .ok (.iconst 0, 1) := by decide +kernel
theorem dN_becomeLeaf_17 : decode cN_becomeLeaf 17 = .ok (.putfield 31, 3) := by decide +kernel
theorem dN_becomeLeaf_20 : decode cN_becomeLeaf 20 = .ok (.aload_n 0, 1) := by decide +kernel
theorem dN_becomeLeaf_21 : decode cN_becomeLeaf 21 = .ok (.iconst (-1), 1) := by decide +kernel
theorem dN_becomeLeaf_22 : decode cN_becomeLeaf 22 = .ok (.putfield 34, 3) := by decide +kernel
theorem dN_becomeLeaf_25 : decode cN_becomeLeaf 25 = .ok (.aload_n 0, 1) := by decide +kernel
theorem dN_becomeLeaf_26 : decode cN_becomeLeaf 26 = .ok (.iconst (-1), 1) := by decide +kernel
theorem dN_becomeLeaf_27 : decode cN_becomeLeaf 27 = .ok (.putfield 37, 3) := by decide +kernel
theorem dN_becomeLeaf_30 : decode cN_becomeLeaf 30 = .ok (.return_, 1) := by decide +kernel
theorem dN_sendsLeft_0 : decode cN_sendsLeft 0 = .ok (.iload_n 1, 1) := by decide +kernel
theorem dN_sendsLeft_1 : decode cN_sendsLeft 1 = .ok (.ldc 40, 2) := by decide +kernel
theorem dN_sendsLeft_3 : decode cN_sendsLeft 3 = .ok (.if_icmp .ne 8, 3) := by decide +kernel
theorem dN_sendsLeft_6 : decode cN_sendsLeft 6 = .ok (.aload_n 0, 1) := by decide +kernel
theorem dN_sendsLeft_7 : decode cN_sendsLeft 7 = .ok (.getfield 31, 3) := by decide +kernel
theorem dN_sendsLeft_10 : decode cN_sendsLeft 10 = .ok (.ireturn, 1) := by decide +kernel
theorem dN_sendsLeft_11 : decode cN_sendsLeft 11 = .ok (.aload_n 0, 1) := by decide +kernel
theorem dN_sendsLeft_12 : decode cN_sendsLeft 12 = .ok (.getfield 27, 3) := by decide +kernel
theorem dN_sendsLeft_15 : decode cN_sendsLeft 15 = .ok (.ifCond .eq 30, 3) := by decide +kernel
theorem dN_sendsLeft_18 : decode cN_sendsLeft 18 = .ok (.iload_n 1, 1) := by decide +kernel
theorem dN_sendsLeft_19 : decode cN_sendsLeft 19 = .ok (.invokestatic 41, 3) := by decide +kernel
theorem dN_sendsLeft_22 : decode cN_sendsLeft 22 = .ok (.ifCond .eq 19, 3) := by decide +kernel
theorem dN_sendsLeft_25 : decode cN_sendsLeft 25 = .ok (.aload_n 0, 1) := by decide +kernel
theorem dN_sendsLeft_26 : decode cN_sendsLeft 26 = .ok (.getfield 24, 3) := by decide +kernel
theorem dN_sendsLeft_29 : decode cN_sendsLeft 29 = .ok (.iload_n 1, 1) := by decide +kernel
theorem dN_sendsLeft_30 : decode cN_sendsLeft 30 = .ok (.ishr, 1) := by decide +kernel
theorem dN_sendsLeft_31 : decode cN_sendsLeft 31 = .ok (.iconst 1, 1) := by decide +kernel
theorem dN_sendsLeft_32 : decode cN_sendsLeft 32 = .ok (.iand, 1) := by decide +kernel
theorem dN_sendsLeft_33 : decode cN_sendsLeft 33 = .ok (.iconst 1, 1) := by decide +kernel
theorem dN_sendsLeft_34 : decode cN_sendsLeft 34 = .ok (.if_icmp .ne 7, 3) := by decide +kernel
theorem dN_sendsLeft_37 : decode cN_sendsLeft 37 = .ok (.iconst 1, 1) := by decide +kernel
theorem dN_sendsLeft_38 : decode cN_sendsLeft 38 = .ok (.goto 20, 3) := by decide +kernel
theorem dN_sendsLeft_41 : decode cN_sendsLeft 41 = .ok (.iconst 0, 1) := by decide +kernel
theorem dN_sendsLeft_42 : decode cN_sendsLeft 42 = .ok (.goto 16, 3) := by decide +kernel
theorem dN_sendsLeft_45 : decode cN_sendsLeft 45 = .ok (.iload_n 1, 1) := by decide +kernel
theorem dN_sendsLeft_46 : decode cN_sendsLeft 46 = .ok (.aload_n 0, 1) := by decide +kernel
theorem dN_sendsLeft_47 : decode cN_sendsLeft 47 = .ok (.getfield 24, 3) := by decide +kernel
theorem dN_sendsLeft_50 : decode cN_sendsLeft 50 = .ok (.if_icmp .ge 7, 3) := by decide +kernel
theorem dN_sendsLeft_53 : decode cN_sendsLeft 53 = .ok (.iconst 1, 1) := by decide +kernel
theorem dN_sendsLeft_54 : decode cN_sendsLeft 54 = .ok (.goto 4, 3) := by decide +kernel
theorem dN_sendsLeft_57 : decode cN_sendsLeft 57 = .ok (.iconst 0, 1) := by decide +kernel
theorem dN_sendsLeft_58 : decode cN_sendsLeft 58 = .ok (.ireturn, 1) := by decide +kernel
theorem dP_clear_0 : decode cP_clear 0 = .ok (.aload_n 0, 1) := by decide +kernel
theorem dP_clear_1 : decode cP_clear 1 = .ok (.iconst 2, 1) := by decide +kernel
theorem dP_clear_2 : decode cP_clear 2 = .ok (.putfield 7, 3) := by decide +kernel
theorem dP_clear_5 : decode cP_clear 5 = .ok (.aload_n 0, 1) := by decide +kernel
theorem dP_clear_6 : decode cP_clear 6 = .ok (.iconst 1, 1) := by decide +kernel
theorem dP_clear_7 : decode cP_clear 7 = .ok (.putfield 13, 3) := by decide +kernel
theorem dP_clear_10 : decode cP_clear 10 = .ok (.aload_n 0, 1) := by decide +kernel
theorem dP_clear_11 : decode cP_clear 11 = .ok (.iconst 0, 1) := by decide +kernel
theorem dP_clear_12 : decode cP_clear 12 = .ok (.putfield 16, 3) := by decide +kernel
theorem dP_clear_15 : decode cP_clear 15 = .ok (.aload_n 0, 1) := by decide +kernel
theorem dP_clear_16 : decode cP_clear 16 = .ok (.iconst 1, 1) := by decide +kernel
theorem dP_clear_17 : decode cP_clear 17 = .ok (.putfield 19, 3) := by decide +kernel
theorem dP_clear_20 : decode cP_clear 20 = .ok (.aload_n 0, 1) := by decide +kernel
theorem dP_clear_21 : decode cP_clear 21 = .ok (.iconst 2, 1) := by decide +kernel
theorem dP_clear_22 : decode cP_clear 22 = .ok (.putfield 22, 3) := by decide +kernel
theorem dP_clear_25 : decode cP_clear 25 = .ok (.aload_n 0, 1) := by decide +kernel
theorem dP_clear_26 : decode cP_clear 26 = .ok (.ldc2_w 25, 3) := by decide +kernel
theorem dP_clear_29 : decode cP_clear 29 = .ok (.putfield 27, 3) := by decide +kernel
theorem dP_clear_32 : decode cP_clear 32 = .ok (.aload_n 0, 1) := by decide +kernel
theorem dP_clear_33 : decode cP_clear 33 = .ok (.iconst (-1), 1) := by decide +kernel
theorem dP_clear_34 : decode cP_clear 34 = .ok (.putfield 31, 3) := by decide +kernel
theorem dP_clear_37 : decode cP_clear 37 = .ok (.return_, 1) := by decide +kernel
theorem dR_greatestDivisor_0 : decode cR_greatestDivisor 0 = .ok (.lload_n 0, 1) := by decide +kernel
theorem dR_greatestDivisor_1 : decode cR_greatestDivisor 1 = .ok (.lstore 4, 2) := by decide +kernel
theorem dR_greatestDivisor_3 : decode cR_greatestDivisor 3 = .ok (.lload_n 2, 1) := by decide +kernel
theorem dR_greatestDivisor_4 : decode cR_greatestDivisor 4 = .ok (.lstore 6, 2) := by decide +kernel
theorem dR_greatestDivisor_6 : decode cR_greatestDivisor 6 = .ok (.iconst 0, 1) := by decide +kernel
theorem dR_greatestDivisor_7 : decode cR_greatestDivisor 7 = .ok (.istore 8, 2) := by decide +kernel
theorem dR_greatestDivisor_9 : decode cR_greatestDivisor 9 = .ok (.iload 8, 2) := by decide +kernel
theorem dR_greatestDivisor_11 : decode cR_greatestDivisor 11 = .ok (.sipush 128, 3) := by decide +kernel
theorem dR_greatestDivisor_14 : decode cR_greatestDivisor 14 = .ok (.if_icmp .ge 31, 3) := by decide +kernel
theorem dR_greatestDivisor_17 : decode cR_greatestDivisor 17 = .ok (.lload 6, 2) := by decide +kernel
theorem dR_greatestDivisor_19 : decode cR_greatestDivisor 19 = .ok (.lconst 0, 1) := by decide +kernel
theorem dR_greatestDivisor_20 : decode cR_greatestDivisor 20 = .ok (.lcmp, 1) := by decide +kernel
theorem dR_greatestDivisor_21 : decode cR_greatestDivisor 21 = .ok (.ifCond .eq 24, 3) := by decide +kernel
theorem dR_greatestDivisor_24 : decode cR_greatestDivisor 24 = .ok (.lload 4, 2) := by decide +kernel
theorem dR_greatestDivisor_26 : decode cR_greatestDivisor 26 = .ok (.lload 6, 2) := by decide +kernel
theorem dR_greatestDivisor_28 : decode cR_greatestDivisor 28 = .ok (.lrem, 1) := by decide +kernel
theorem dR_greatestDivisor_29 : decode cR_greatestDivisor 29 = .ok (.lstore 9, 2) := by decide +kernel
theorem dR_greatestDivisor_31 : decode cR_greatestDivisor 31 = .ok (.lload 6, 2) := by decide +kernel
theorem dR_greatestDivisor_33 : decode cR_greatestDivisor 33 = .ok (.lstore 4, 2) := by decide +kernel
theorem dR_greatestDivisor_35 : decode cR_greatestDivisor 35 = .ok (.lload 9, 2) := by decide +kernel
theorem dR_greatestDivisor_37 : decode cR_greatestDivisor 37 = .ok (.lstore 6, 2) := by decide +kernel
theorem dR_greatestDivisor_39 : decode cR_greatestDivisor 39 = .ok (.iinc 8 1, 3) := by decide +kernel
theorem dR_greatestDivisor_42 : decode cR_greatestDivisor 42 = .ok (.goto (-33), 3) := by decide +kernel
theorem dR_greatestDivisor_45 : decode cR_greatestDivisor 45 = .ok (.lload 4, 2) := by decide +kernel
theorem dR_greatestDivisor_47 : decode cR_greatestDivisor 47 = .ok (.lreturn, 1) := by decide +kernel
