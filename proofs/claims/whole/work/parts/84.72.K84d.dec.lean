theorem dL_count_0 : decode cL_count 0 = .ok (.aload_n 2, 1) := by decide +kernel
theorem dL_count_1 : decode cL_count 1 = .ok (.iconst 0, 1) := by decide +kernel
theorem dL_count_2 : decode cL_count 2 = .ok (.aload_n 0, 1) := by decide +kernel
theorem dL_count_3 : decode cL_count 3 = .ok (.iload_n 1, 1) := by decide +kernel
theorem dL_count_4 : decode cL_count 4 = .ok (.invokevirtual 60, 3) := by decide +kernel
theorem dL_count_7 : decode cL_count 7 = .ok (.i2l, 1) := by decide +kernel
theorem dL_count_8 : decode cL_count 8 = .ok (.lastore, 1) := by decide +kernel
theorem dL_count_9 : decode cL_count 9 = .ok (.goto 6, 3) := by decide +kernel
theorem dL_count_12 : decode cL_count 12 = .ok (.astore_n 3, 1) := by decide +kernel
theorem dL_count_13 : decode cL_count 13 = .ok (.iconst 1, 1) := by decide +kernel
theorem dL_count_14 : decode cL_count 14 = .ok (.ireturn, 1) := by decide +kernel
theorem dL_count_15 : decode cL_count 15 = .ok (.iconst 0, 1) := by decide +kernel
theorem dL_count_16 : decode cL_count 16 = .ok (.ireturn, 1) := by decide +kernel
theorem dL_nodes_0 : decode cL_nodes 0 = .ok (.aload_n 2, 1) := by decide +kernel
theorem dL_nodes_1 : decode cL_nodes 1 = .ok (.iconst 0, 1) := by decide +kernel
theorem dL_nodes_2 : decode cL_nodes 2 = .ok (.aload_n 0, 1) := by decide +kernel
theorem dL_nodes_3 : decode cL_nodes 3 = .ok (.iload_n 1, 1) := by decide +kernel
theorem dL_nodes_4 : decode cL_nodes 4 = .ok (.invokevirtual 63, 3) := by decide +kernel
theorem dL_nodes_7 : decode cL_nodes 7 = .ok (.i2l, 1) := by decide +kernel
theorem dL_nodes_8 : decode cL_nodes 8 = .ok (.lastore, 1) := by decide +kernel
theorem dL_nodes_9 : decode cL_nodes 9 = .ok (.goto 6, 3) := by decide +kernel
theorem dL_nodes_12 : decode cL_nodes 12 = .ok (.astore_n 3, 1) := by decide +kernel
theorem dL_nodes_13 : decode cL_nodes 13 = .ok (.iconst 1, 1) := by decide +kernel
theorem dL_nodes_14 : decode cL_nodes 14 = .ok (.ireturn, 1) := by decide +kernel
theorem dL_nodes_15 : decode cL_nodes 15 = .ok (.iconst 0, 1) := by decide +kernel
theorem dL_nodes_16 : decode cL_nodes 16 = .ok (.ireturn, 1) := by decide +kernel
theorem dL_uses_0 : decode cL_uses 0 = .ok (.aload_n 2, 1) := by decide +kernel
theorem dL_uses_1 : decode cL_uses 1 = .ok (.iconst 0, 1) := by decide +kernel
theorem dL_uses_2 : decode cL_uses 2 = .ok (.aload_n 0, 1) := by decide +kernel
theorem dL_uses_3 : decode cL_uses 3 = .ok (.iload_n 1, 1) := by decide +kernel
theorem dL_uses_4 : decode cL_uses 4 = .ok (.invokevirtual 66, 3) := by decide +kernel
theorem dL_uses_7 : decode cL_uses 7 = .ok (.i2l, 1) := by decide +kernel
theorem dL_uses_8 : decode cL_uses 8 = .ok (.lastore, 1) := by decide +kernel
theorem dL_uses_9 : decode cL_uses 9 = .ok (.goto 6, 3) := by decide +kernel
theorem dL_uses_12 : decode cL_uses 12 = .ok (.astore_n 3, 1) := by decide +kernel
theorem dL_uses_13 : decode cL_uses 13 = .ok (.iconst 1, 1) := by decide +kernel
theorem dL_uses_14 : decode cL_uses 14 = .ok (.ireturn, 1) := by decide +kernel
theorem dL_uses_15 : decode cL_uses 15 = .ok (.iconst 0, 1) := by decide +kernel
theorem dL_uses_16 : decode cL_uses 16 = .ok (.ireturn, 1) := by decide +kernel
theorem dL_tell_0 : decode cL_tell 0 = .ok (.aload_n 3, 1) := by decide +kernel
theorem dL_tell_1 : decode cL_tell 1 = .ok (.iconst 0, 1) := by decide +kernel
theorem dL_tell_2 : decode cL_tell 2 = .ok (.aload_n 0, 1) := by decide +kernel
theorem dL_tell_3 : decode cL_tell 3 = .ok (.iload_n 1, 1) := by decide +kernel
theorem dL_tell_4 : decode cL_tell 4 = .ok (.iload_n 2, 1) := by decide +kernel
theorem dL_tell_5 : decode cL_tell 5 = .ok (.invokevirtual 69, 3) := by decide +kernel
theorem dL_tell_8 : decode cL_tell 8 = .ok (.i2l, 1) := by decide +kernel
theorem dL_tell_9 : decode cL_tell 9 = .ok (.lastore, 1) := by decide +kernel
theorem dL_tell_10 : decode cL_tell 10 = .ok (.goto 7, 3) := by decide +kernel
theorem dL_tell_13 : decode cL_tell 13 = .ok (.astore 4, 2) := by decide +kernel
theorem dL_tell_15 : decode cL_tell 15 = .ok (.iconst 1, 1) := by decide +kernel
theorem dL_tell_16 : decode cL_tell 16 = .ok (.ireturn, 1) := by decide +kernel
theorem dL_tell_17 : decode cL_tell 17 = .ok (.iconst 0, 1) := by decide +kernel
theorem dL_tell_18 : decode cL_tell 18 = .ok (.ireturn, 1) := by decide +kernel
