theorem dR_isWithin_0 : decode cR_isWithin 0 = .ok (.iload_n 0, 1) := by decide +kernel
theorem dR_isWithin_1 : decode cR_isWithin 1 = .ok (.iload_n 1, 1) := by decide +kernel
theorem dR_isWithin_2 : decode cR_isWithin 2 = .ok (.if_icmp .lt 12, 3) := by decide +kernel
theorem dR_isWithin_5 : decode cR_isWithin 5 = .ok (.iload_n 0, 1) := by decide +kernel
theorem dR_isWithin_6 : decode cR_isWithin 6 = .ok (.iload_n 2, 1) := by decide +kernel
theorem dR_isWithin_7 : decode cR_isWithin 7 = .ok (.if_icmp .gt 7, 3) := by decide +kernel
theorem dR_isWithin_10 : decode cR_isWithin 10 = .ok (.iconst 1, 1) := by decide +kernel
theorem dR_isWithin_11 : decode cR_isWithin 11 = .ok (.goto 4, 3) := by decide +kernel
theorem dR_isWithin_14 : decode cR_isWithin 14 = .ok (.iconst 0, 1) := by decide +kernel
theorem dR_isWithin_15 : decode cR_isWithin 15 = .ok (.ireturn, 1) := by decide +kernel
theorem dR_isTarget_0 : decode cR_isTarget 0 = .ok (.iload_n 0, 1) := by decide +kernel
theorem dR_isTarget_1 : decode cR_isTarget 1 = .ok (.sipush (-1000), 3) := by decide +kernel
theorem dR_isTarget_4 : decode cR_isTarget 4 = .ok (.sipush 1000, 3) := by decide +kernel
theorem dR_isTarget_7 : decode cR_isTarget 7 = .ok (.invokestatic 82, 3) := by decide +kernel
theorem dR_isTarget_10 : decode cR_isTarget 10 = .ok (.ireturn, 1) := by decide +kernel
theorem dR_isNumber_0 : decode cR_isNumber 0 = .ok (.iload_n 0, 1) := by decide +kernel
theorem dR_isNumber_1 : decode cR_isNumber 1 = .ok (.ldc_w 333, 3) := by decide +kernel
theorem dR_isNumber_4 : decode cR_isNumber 4 = .ok (.ldc_w 334, 3) := by decide +kernel
theorem dR_isNumber_7 : decode cR_isNumber 7 = .ok (.invokestatic 82, 3) := by decide +kernel
theorem dR_isNumber_10 : decode cR_isNumber 10 = .ok (.ireturn, 1) := by decide +kernel
theorem dR_isKind_0 : decode cR_isKind 0 = .ok (.iload_n 0, 1) := by decide +kernel
theorem dR_isKind_1 : decode cR_isKind 1 = .ok (.ifCond .lt 13, 3) := by decide +kernel
theorem dR_isKind_4 : decode cR_isKind 4 = .ok (.iload_n 0, 1) := by decide +kernel
theorem dR_isKind_5 : decode cR_isKind 5 = .ok (.bipush 12, 2) := by decide +kernel
theorem dR_isKind_7 : decode cR_isKind 7 = .ok (.if_icmp .ge 7, 3) := by decide +kernel
theorem dR_isKind_10 : decode cR_isKind 10 = .ok (.iconst 1, 1) := by decide +kernel
theorem dR_isKind_11 : decode cR_isKind 11 = .ok (.goto 4, 3) := by decide +kernel
theorem dR_isKind_14 : decode cR_isKind 14 = .ok (.iconst 0, 1) := by decide +kernel
theorem dR_isKind_15 : decode cR_isKind 15 = .ok (.ireturn, 1) := by decide +kernel
theorem dR_demand_0 : decode cR_demand 0 = .ok (.iload_n 0, 1) := by decide +kernel
theorem dR_demand_1 : decode cR_demand 1 = .ok (.ifCond .ne 11, 3) := by decide +kernel
theorem dR_demand_4 : decode cR_demand 4 = .ok (.new 247, 3) := by decide +kernel
theorem dR_demand_7 : decode cR_demand 7 = .ok (.dup, 1) := by decide +kernel
theorem dR_demand_8 : decode cR_demand 8 = .ok (.invokespecial 249, 3) := by decide +kernel
theorem dR_demand_11 : decode cR_demand 11 = .ok (.athrow, 1) := by decide +kernel
theorem dR_demand_12 : decode cR_demand 12 = .ok (.return_, 1) := by decide +kernel
theorem dR_demandState_0 : decode cR_demandState 0 = .ok (.iload_n 0, 1) := by decide +kernel
theorem dR_demandState_1 : decode cR_demandState 1 = .ok (.ifCond .ne 11, 3) := by decide +kernel
theorem dR_demandState_4 : decode cR_demandState 4 = .ok (.new 330, 3) := by decide +kernel
theorem dR_demandState_7 : decode cR_demandState 7 = .ok (.dup, 1) := by decide +kernel
theorem dR_demandState_8 : decode cR_demandState 8 = .ok (.invokespecial 332, 3) := by decide +kernel
theorem dR_demandState_11 : decode cR_demandState 11 = .ok (.athrow, 1) := by decide +kernel
theorem dR_demandState_12 : decode cR_demandState 12 = .ok (.return_, 1) := by decide +kernel
theorem dT_hasRow_0 : decode cT_hasRow 0 = .ok (.iload_n 1, 1) := by decide +kernel
theorem dT_hasRow_1 : decode cT_hasRow 1 = .ok (.iconst 0, 1) := by decide +kernel
theorem dT_hasRow_2 : decode cT_hasRow 2 = .ok (.aload_n 0, 1) := by decide +kernel
theorem dT_hasRow_3 : decode cT_hasRow 3 = .ok (.getfield 26, 3) := by decide +kernel
theorem dT_hasRow_6 : decode cT_hasRow 6 = .ok (.iconst 1, 1) := by decide +kernel
theorem dT_hasRow_7 : decode cT_hasRow 7 = .ok (.isub, 1) := by decide +kernel
theorem dT_hasRow_8 : decode cT_hasRow 8 = .ok (.invokestatic 37, 3) := by decide +kernel
theorem dT_hasRow_11 : decode cT_hasRow 11 = .ok (.ireturn, 1) := by decide +kernel
theorem dT_hasColumn_0 : decode cT_hasColumn 0 = .ok (.iload_n 1, 1) := by decide +kernel
theorem dT_hasColumn_1 : decode cT_hasColumn 1 = .ok (.iconst 0, 1) := by decide +kernel
theorem dT_hasColumn_2 : decode cT_hasColumn 2 = .ok (.aload_n 0, 1) := by decide +kernel
theorem dT_hasColumn_3 : decode cT_hasColumn 3 = .ok (.getfield 22, 3) := by decide +kernel
theorem dT_hasColumn_6 : decode cT_hasColumn 6 = .ok (.iconst 1, 1) := by decide +kernel
theorem dT_hasColumn_7 : decode cT_hasColumn 7 = .ok (.isub, 1) := by decide +kernel
theorem dT_hasColumn_8 : decode cT_hasColumn 8 = .ok (.invokestatic 37, 3) := by decide +kernel
theorem dT_hasColumn_11 : decode cT_hasColumn 11 = .ok (.ireturn, 1) := by decide +kernel
theorem dT_rowBits_0 : decode cT_rowBits 0 = .ok (.lconst 1, 1) := by decide +kernel
theorem dT_rowBits_1 : decode cT_rowBits 1 = .ok (.aload_n 0, 1) := by decide +kernel
theorem dT_rowBits_2 : decode cT_rowBits 2 = .ok (.getfield 26, 3) := by decide +kernel
theorem dT_rowBits_5 : decode cT_rowBits 5 = .ok (.lshl, 1) := by decide +kernel
theorem dT_rowBits_6 : decode cT_rowBits 6 = .ok (.lconst 1, 1) := by decide +kernel
theorem dT_rowBits_7 : decode cT_rowBits 7 = .ok (.lsub, 1) := by decide +kernel
theorem dT_rowBits_8 : decode cT_rowBits 8 = .ok (.lreturn, 1) := by decide +kernel
theorem dT_columnBits_0 : decode cT_columnBits 0 = .ok (.iconst 1, 1) := by decide +kernel
theorem dT_columnBits_1 : decode cT_columnBits 1 = .ok (.aload_n 0, 1) := by decide +kernel
theorem dT_columnBits_2 : decode cT_columnBits 2 = .ok (.getfield 22, 3) := by decide +kernel
theorem dT_columnBits_5 : decode cT_columnBits 5 = .ok (.ishl, 1) := by decide +kernel
theorem dT_columnBits_6 : decode cT_columnBits 6 = .ok (.iconst 1, 1) := by decide +kernel
theorem dT_columnBits_7 : decode cT_columnBits 7 = .ok (.isub, 1) := by decide +kernel
theorem dT_columnBits_8 : decode cT_columnBits 8 = .ok (.ireturn, 1) := by decide +kernel
