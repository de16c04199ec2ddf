theorem dR_divides_0 : decode cR_divides 0 = .ok (.aload_n 3, 1) := by decide +kernel
theorem dR_divides_1 : decode cR_divides 1 = .ok (.iload_n 0, 1) := by decide +kernel
theorem dR_divides_2 : decode cR_divides 2 = .ok (.invokevirtual 381, 3) := by decide +kernel
theorem dR_divides_5 : decode cR_divides 5 = .ok (.ifCond .ne 7, 3) := by decide +kernel
theorem dR_divides_8 : decode cR_divides 8 = .ok (.iconst 1, 1) := by decide +kernel
theorem dR_divides_9 : decode cR_divides 9 = .ok (.goto 4, 3) := by decide +kernel
theorem dR_divides_12 : decode cR_divides 12 = .ok (.iconst 0, 1) := by decide +kernel
theorem dR_divides_13 : decode cR_divides 13 = .ok (.istore 4, 2) := by decide +kernel
theorem dR_divides_15 : decode cR_divides 15 = .ok (.iconst 0, 1) := by decide +kernel
theorem dR_divides_16 : decode cR_divides 16 = .ok (.istore 5, 2) := by decide +kernel
theorem dR_divides_18 : decode cR_divides 18 = .ok (.iload 5, 2) := by decide +kernel
theorem dR_divides_20 : decode cR_divides 20 = .ok (.iload_n 2, 1) := by decide +kernel
theorem dR_divides_21 : decode cR_divides 21 = .ok (.if_icmp .ge 32, 3) := by decide +kernel
theorem dR_divides_24 : decode cR_divides 24 = .ok (.iload 4, 2) := by decide +kernel
theorem dR_divides_26 : decode cR_divides 26 = .ok (.ifCond .eq 27, 3) := by decide +kernel
theorem dR_divides_29 : decode cR_divides 29 = .ok (.aload_n 1, 1) := by decide +kernel
theorem dR_divides_30 : decode cR_divides 30 = .ok (.iload 5, 2) := by decide +kernel
theorem dR_divides_32 : decode cR_divides 32 = .ok (.aaload, 1) := by decide +kernel
theorem dR_divides_33 : decode cR_divides 33 = .ok (.iload_n 0, 1) := by decide +kernel
theorem dR_divides_34 : decode cR_divides 34 = .ok (.invokevirtual 381, 3) := by decide +kernel
theorem dR_divides_37 : decode cR_divides 37 = .ok (.ifCond .ne 7, 3) := by decide +kernel
theorem dR_divides_40 : decode cR_divides 40 = .ok (.iconst 1, 1) := by decide +kernel
theorem dR_divides_41 : decode cR_divides 41 = .ok (.goto 4, 3) := by decide +kernel
theorem dR_divides_44 : decode cR_divides 44 = .ok (.iconst 0, 1) := by decide +kernel
theorem dR_divides_45 : decode cR_divides 45 = .ok (.istore 4, 2) := by decide +kernel
theorem dR_divides_47 : decode cR_divides 47 = .ok (.iinc 5 1, 3) := by decide +kernel
theorem dR_divides_50 : decode cR_divides 50 = .ok (.goto (-32), 3) := by decide +kernel
theorem dR_divides_53 : decode cR_divides 53 = .ok (.iload 4, 2) := by decide +kernel
theorem dR_divides_55 : decode cR_divides 55 = .ok (.ireturn, 1) := by decide +kernel
theorem dR_reduce_0 : decode cR_reduce 0 = .ok (.getstatic 368, 3) := by decide +kernel
theorem dR_reduce_3 : decode cR_reduce 3 = .ok (.astore_n 3, 1) := by decide +kernel
theorem dR_reduce_4 : decode cR_reduce 4 = .ok (.aload_n 3, 1) := by decide +kernel
theorem dR_reduce_5 : decode cR_reduce 5 = .ok (.arraylength, 1) := by decide +kernel
theorem dR_reduce_6 : decode cR_reduce 6 = .ok (.istore 4, 2) := by decide +kernel
theorem dR_reduce_8 : decode cR_reduce 8 = .ok (.iconst 0, 1) := by decide +kernel
theorem dR_reduce_9 : decode cR_reduce 9 = .ok (.istore 5, 2) := by decide +kernel
theorem dR_reduce_11 : decode cR_reduce 11 = .ok (.iload 5, 2) := by decide +kernel
theorem dR_reduce_13 : decode cR_reduce 13 = .ok (.iload 4, 2) := by decide +kernel
theorem dR_reduce_15 : decode cR_reduce 15 = .ok (.if_icmp .ge 74, 3) := by decide +kernel
theorem dR_reduce_18 : decode cR_reduce 18 = .ok (.aload_n 3, 1) := by decide +kernel
theorem dR_reduce_19 : decode cR_reduce 19 = .ok (.iload 5, 2) := by decide +kernel
theorem dR_reduce_21 : decode cR_reduce 21 = .ok (.iaload, 1) := by decide +kernel
theorem dR_reduce_22 : decode cR_reduce 22 = .ok (.istore 6, 2) := by decide +kernel
theorem dR_reduce_24 : decode cR_reduce 24 = .ok (.iconst 0, 1) := by decide +kernel
theorem dR_reduce_25 : decode cR_reduce 25 = .ok (.istore 7, 2) := by decide +kernel
theorem dR_reduce_27 : decode cR_reduce 27 = .ok (.iload 7, 2) := by decide +kernel
theorem dR_reduce_29 : decode cR_reduce 29 = .ok (.aload_n 2, 1) := by decide +kernel
theorem dR_reduce_30 : decode cR_reduce 30 = .ok (.invokevirtual 371, 3) := by decide +kernel
theorem dR_reduce_33 : decode cR_reduce 33 = .ok (.if_icmp .ge 50, 3) := by decide +kernel
theorem dR_reduce_36 : decode cR_reduce 36 = .ok (.iload 6, 2) := by decide +kernel
theorem dR_reduce_38 : decode cR_reduce 38 = .ok (.aload_n 0, 1) := by decide +kernel
theorem dR_reduce_39 : decode cR_reduce 39 = .ok (.iload_n 1, 1) := by decide +kernel
theorem dR_reduce_40 : decode cR_reduce 40 = .ok (.aload_n 2, 1) := by decide +kernel
theorem dR_reduce_41 : decode cR_reduce 41 = .ok (.invokestatic 374, 3) := by decide +kernel
theorem dR_reduce_44 : decode cR_reduce 44 = .ok (.ifCond .eq 39, 3) := by decide +kernel
theorem dR_reduce_47 : decode cR_reduce 47 = .ok (.aload_n 2, 1) := by decide +kernel
theorem dR_reduce_48 : decode cR_reduce 48 = .ok (.iload 6, 2) := by decide +kernel
theorem dR_reduce_50 : decode cR_reduce 50 = .ok (.invokevirtual 378, 3) := by decide +kernel
theorem dR_reduce_53 : decode cR_reduce 53 = .ok (.iconst 0, 1) := by decide +kernel
theorem dR_reduce_54 : decode cR_reduce 54 = .ok (.istore 8, 2) := by decide +kernel
theorem dR_reduce_56 : decode cR_reduce 56 = .ok (.iload 8, 2) := by decide +kernel
theorem dR_reduce_58 : decode cR_reduce 58 = .ok (.iload_n 1, 1) := by decide +kernel
theorem dR_reduce_59 : decode cR_reduce 59 = .ok (.if_icmp .ge 18, 3) := by decide +kernel
theorem dR_reduce_62 : decode cR_reduce 62 = .ok (.aload_n 0, 1) := by decide +kernel
theorem dR_reduce_63 : decode cR_reduce 63 = .ok (.iload 8, 2) := by decide +kernel
theorem dR_reduce_65 : decode cR_reduce 65 = .ok (.aaload, 1) := by decide +kernel
theorem dR_reduce_66 : decode cR_reduce 66 = .ok (.iload 6, 2) := by decide +kernel
theorem dR_reduce_68 : decode cR_reduce 68 = .ok (.invokevirtual 378, 3) := by decide +kernel
theorem dR_reduce_71 : decode cR_reduce 71 = .ok (.iinc 8 1, 3) := by decide +kernel
theorem dR_reduce_74 : decode cR_reduce 74 = .ok (.goto (-18), 3) := by decide +kernel
theorem dR_reduce_77 : decode cR_reduce 77 = .ok (.iinc 7 1, 3) := by decide +kernel
theorem dR_reduce_80 : decode cR_reduce 80 = .ok (.goto (-53), 3) := by decide +kernel
theorem dR_reduce_83 : decode cR_reduce 83 = .ok (.iinc 5 1, 3) := by decide +kernel
theorem dR_reduce_86 : decode cR_reduce 86 = .ok (.goto (-75), 3) := by decide +kernel
theorem dR_reduce_89 : decode cR_reduce 89 = .ok (.return_, 1) := by decide +kernel
