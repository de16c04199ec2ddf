theorem dR_leaveBehind_0 : decode cR_leaveBehind 0 = .ok (.aload_n 3, 1) := by decide +kernel
theorem dR_leaveBehind_1 : decode cR_leaveBehind 1 = .ok (.aload_n 1, 1) := by decide +kernel
theorem dR_leaveBehind_2 : decode cR_leaveBehind 2 = .ok (.getfield 314, 3) := by decide +kernel
theorem dR_leaveBehind_5 : decode cR_leaveBehind 5 = .ok (.invokevirtual 280, 3) := by decide +kernel
theorem dR_leaveBehind_8 : decode cR_leaveBehind 8 = .ok (.aload_n 1, 1) := by decide +kernel
theorem dR_leaveBehind_9 : decode cR_leaveBehind 9 = .ok (.aload_n 0, 1) := by decide +kernel
theorem dR_leaveBehind_10 : decode cR_leaveBehind 10 = .ok (.getfield 63, 3) := by decide +kernel
theorem dR_leaveBehind_13 : decode cR_leaveBehind 13 = .ok (.aload_n 1, 1) := by decide +kernel
theorem dR_leaveBehind_14 : decode cR_leaveBehind 14 = .ok (.aload_n 0, 1) := by decide +kernel
theorem dR_leaveBehind_15 : decode cR_leaveBehind 15 = .ok (.getfield 12, 3) := by decide +kernel
theorem dR_leaveBehind_18 : decode cR_leaveBehind 18 = .ok (.getfield 111, 3) := by decide +kernel
theorem dR_leaveBehind_21 : decode cR_leaveBehind 21 = .ok (.iload_n 2, 1) := by decide +kernel
theorem dR_leaveBehind_22 : decode cR_leaveBehind 22 = .ok (.invokevirtual 345, 3) := by decide +kernel
theorem dR_leaveBehind_25 : decode cR_leaveBehind 25 = .ok (.invokevirtual 349, 3) := by decide +kernel
theorem dR_leaveBehind_28 : decode cR_leaveBehind 28 = .ok (.aload_n 3, 1) := by decide +kernel
theorem dR_leaveBehind_29 : decode cR_leaveBehind 29 = .ok (.aload_n 0, 1) := by decide +kernel
theorem dR_leaveBehind_30 : decode cR_leaveBehind 30 = .ok (.getfield 63, 3) := by decide +kernel
theorem dR_leaveBehind_33 : decode cR_leaveBehind 33 = .ok (.iconst 1, 1) := by decide +kernel
theorem dR_leaveBehind_34 : decode cR_leaveBehind 34 = .ok (.invokevirtual 353, 3) := by decide +kernel
theorem dR_leaveBehind_37 : decode cR_leaveBehind 37 = .ok (.return_, 1) := by decide +kernel
theorem dR_leave_0 : decode cR_leave 0 = .ok (.aload_n 3, 1) := by decide +kernel
theorem dR_leave_1 : decode cR_leave 1 = .ok (.aload_n 0, 1) := by decide +kernel
theorem dR_leave_2 : decode cR_leave 2 = .ok (.getfield 12, 3) := by decide +kernel
theorem dR_leave_5 : decode cR_leave 5 = .ok (.getfield 124, 3) := by decide +kernel
theorem dR_leave_8 : decode cR_leave 8 = .ok (.iload_n 1, 1) := by decide +kernel
theorem dR_leave_9 : decode cR_leave 9 = .ok (.iaload, 1) := by decide +kernel
theorem dR_leave_10 : decode cR_leave 10 = .ok (.invokevirtual 343, 3) := by decide +kernel
theorem dR_leave_13 : decode cR_leave 13 = .ok (.iconst 0, 1) := by decide +kernel
theorem dR_leave_14 : decode cR_leave 14 = .ok (.istore 4, 2) := by decide +kernel
theorem dR_leave_16 : decode cR_leave 16 = .ok (.iload 4, 2) := by decide +kernel
theorem dR_leave_18 : decode cR_leave 18 = .ok (.iload_n 2, 1) := by decide +kernel
theorem dR_leave_19 : decode cR_leave 19 = .ok (.if_icmp .ge 27, 3) := by decide +kernel
theorem dR_leave_22 : decode cR_leave 22 = .ok (.aload_n 0, 1) := by decide +kernel
theorem dR_leave_23 : decode cR_leave 23 = .ok (.aload_n 0, 1) := by decide +kernel
theorem dR_leave_24 : decode cR_leave 24 = .ok (.getfield 43, 3) := by decide +kernel
theorem dR_leave_27 : decode cR_leave 27 = .ok (.iload 4, 2) := by decide +kernel
theorem dR_leave_29 : decode cR_leave 29 = .ok (.invokevirtual 219, 3) := by decide +kernel
theorem dR_leave_32 : decode cR_leave 32 = .ok (.checkcast 207, 3) := by decide +kernel
theorem dR_leave_35 : decode cR_leave 35 = .ok (.iload_n 1, 1) := by decide +kernel
theorem dR_leave_36 : decode cR_leave 36 = .ok (.aload_n 3, 1) := by decide +kernel
theorem dR_leave_37 : decode cR_leave 37 = .ok (.invokevirtual 310, 3) := by decide +kernel
theorem dR_leave_40 : decode cR_leave 40 = .ok (.iinc 4 1, 3) := by decide +kernel
theorem dR_leave_43 : decode cR_leave 43 = .ok (.goto (-27), 3) := by decide +kernel
theorem dR_leave_46 : decode cR_leave 46 = .ok (.return_, 1) := by decide +kernel
theorem dR_leaveAll_0 : decode cR_leaveAll 0 = .ok (.iconst 0, 1) := by decide +kernel
theorem dR_leaveAll_1 : decode cR_leaveAll 1 = .ok (.istore_n 2, 1) := by decide +kernel
theorem dR_leaveAll_2 : decode cR_leaveAll 2 = .ok (.iload_n 2, 1) := by decide +kernel
theorem dR_leaveAll_3 : decode cR_leaveAll 3 = .ok (.aload_n 0, 1) := by decide +kernel
theorem dR_leaveAll_4 : decode cR_leaveAll 4 = .ok (.getfield 12, 3) := by decide +kernel
theorem dR_leaveAll_7 : decode cR_leaveAll 7 = .ok (.getfield 94, 3) := by decide +kernel
theorem dR_leaveAll_10 : decode cR_leaveAll 10 = .ok (.if_icmp .ge 21, 3) := by decide +kernel
theorem dR_leaveAll_13 : decode cR_leaveAll 13 = .ok (.aload_n 0, 1) := by decide +kernel
theorem dR_leaveAll_14 : decode cR_leaveAll 14 = .ok (.iload_n 2, 1) := by decide +kernel
theorem dR_leaveAll_15 : decode cR_leaveAll 15 = .ok (.iload_n 1, 1) := by decide +kernel
theorem dR_leaveAll_16 : decode cR_leaveAll 16 = .ok (.aload_n 0, 1) := by decide +kernel
theorem dR_leaveAll_17 : decode cR_leaveAll 17 = .ok (.getfield 27, 3) := by decide +kernel
theorem dR_leaveAll_20 : decode cR_leaveAll 20 = .ok (.iload_n 2, 1) := by decide +kernel
theorem dR_leaveAll_21 : decode cR_leaveAll 21 = .ok (.aaload, 1) := by decide +kernel
theorem dR_leaveAll_22 : decode cR_leaveAll 22 = .ok (.invokevirtual 293, 3) := by decide +kernel
theorem dR_leaveAll_25 : decode cR_leaveAll 25 = .ok (.iinc 2 1, 3) := by decide +kernel
theorem dR_leaveAll_28 : decode cR_leaveAll 28 = .ok (.goto (-26), 3) := by decide +kernel
theorem dR_leaveAll_31 : decode cR_leaveAll 31 = .ok (.return_, 1) := by decide +kernel
theorem dR_setToScales_0 : decode cR_setToScales 0 = .ok (.aload_n 1, 1) := by decide +kernel
theorem dR_setToScales_1 : decode cR_setToScales 1 = .ok (.iconst 1, 1) := by decide +kernel
theorem dR_setToScales_2 : decode cR_setToScales 2 = .ok (.invokevirtual 343, 3) := by decide +kernel
theorem dR_setToScales_5 : decode cR_setToScales 5 = .ok (.iconst 0, 1) := by decide +kernel
theorem dR_setToScales_6 : decode cR_setToScales 6 = .ok (.istore_n 3, 1) := by decide +kernel
theorem dR_setToScales_7 : decode cR_setToScales 7 = .ok (.iload_n 3, 1) := by decide +kernel
theorem dR_setToScales_8 : decode cR_setToScales 8 = .ok (.iload_n 2, 1) := by decide +kernel
theorem dR_setToScales_9 : decode cR_setToScales 9 = .ok (.if_icmp .ge 27, 3) := by decide +kernel
theorem dR_setToScales_12 : decode cR_setToScales 12 = .ok (.aload_n 1, 1) := by decide +kernel
theorem dR_setToScales_13 : decode cR_setToScales 13 = .ok (.aload_n 0, 1) := by decide +kernel
theorem dR_setToScales_14 : decode cR_setToScales 14 = .ok (.getfield 43, 3) := by decide +kernel
theorem dR_setToScales_17 : decode cR_setToScales 17 = .ok (.iload_n 3, 1) := by decide +kernel
theorem dR_setToScales_18 : decode cR_setToScales 18 = .ok (.invokevirtual 219, 3) := by decide +kernel
theorem dR_setToScales_21 : decode cR_setToScales 21 = .ok (.checkcast 207, 3) := by decide +kernel
theorem dR_setToScales_24 : decode cR_setToScales 24 = .ok (.getfield 314, 3) := by decide +kernel
theorem dR_setToScales_27 : decode cR_setToScales 27 = .ok (.invokevirtual 280, 3) := by decide +kernel
theorem dR_setToScales_30 : decode cR_setToScales 30 = .ok (.iinc 3 1, 3) := by decide +kernel
theorem dR_setToScales_33 : decode cR_setToScales 33 = .ok (.goto (-26), 3) := by decide +kernel
theorem dR_setToScales_36 : decode cR_setToScales 36 = .ok (.return_, 1) := by decide +kernel
