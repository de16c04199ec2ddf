theorem dL_shape_0 : decode cL_shape 0 = .ok (.aload_n 0, 1) := by decide +kernel
theorem dL_shape_1 : decode cL_shape 1 = .ok (.iload_n 1, 1) := by decide +kernel
theorem dL_shape_2 : decode cL_shape 2 = .ok (.iload_n 2, 1) := by decide +kernel
theorem dL_shape_3 : decode cL_shape 3 = .ok (.iload_n 3, 1) := by decide +kernel
theorem dL_shape_4 : decode cL_shape 4 = .ok (.invokevirtual 43, 3) := by decide +kernel
theorem dL_shape_7 : decode cL_shape 7 = .ok (.goto 7, 3) := by decide +kernel
theorem dL_shape_10 : decode cL_shape 10 = .ok (.astore 4, 2) := by decide +kernel
theorem dL_shape_12 : decode cL_shape 12 = .ok (.iconst 1, 1) := by decide +kernel
theorem dL_shape_13 : decode cL_shape 13 = .ok (.ireturn, 1) := by decide +kernel
theorem dL_shape_14 : decode cL_shape 14 = .ok (.iconst 0, 1) := by decide +kernel
theorem dL_shape_15 : decode cL_shape 15 = .ok (.ireturn, 1) := by decide +kernel
theorem dL_rate_0 : decode cL_rate 0 = .ok (.aload_n 0, 1) := by decide +kernel
theorem dL_rate_1 : decode cL_rate 1 = .ok (.iload_n 1, 1) := by decide +kernel
theorem dL_rate_2 : decode cL_rate 2 = .ok (.iload_n 2, 1) := by decide +kernel
theorem dL_rate_3 : decode cL_rate 3 = .ok (.invokevirtual 47, 3) := by decide +kernel
theorem dL_rate_6 : decode cL_rate 6 = .ok (.goto 6, 3) := by decide +kernel
theorem dL_rate_9 : decode cL_rate 9 = .ok (.astore_n 3, 1) := by decide +kernel
theorem dL_rate_10 : decode cL_rate 10 = .ok (.iconst 1, 1) := by decide +kernel
theorem dL_rate_11 : decode cL_rate 11 = .ok (.ireturn, 1) := by decide +kernel
theorem dL_rate_12 : decode cL_rate 12 = .ok (.iconst 0, 1) := by decide +kernel
theorem dL_rate_13 : decode cL_rate 13 = .ok (.ireturn, 1) := by decide +kernel
theorem dL_train_0 : decode cL_train 0 = .ok (.aload_n 2, 1) := by decide +kernel
theorem dL_train_1 : decode cL_train 1 = .ok (.iconst 0, 1) := by decide +kernel
theorem dL_train_2 : decode cL_train 2 = .ok (.aload_n 0, 1) := by decide +kernel
theorem dL_train_3 : decode cL_train 3 = .ok (.iload_n 1, 1) := by decide +kernel
theorem dL_train_4 : decode cL_train 4 = .ok (.invokevirtual 51, 3) := by decide +kernel
theorem dL_train_7 : decode cL_train 7 = .ok (.i2l, 1) := by decide +kernel
theorem dL_train_8 : decode cL_train 8 = .ok (.lastore, 1) := by decide +kernel
theorem dL_train_9 : decode cL_train 9 = .ok (.goto 9, 3) := by decide +kernel
theorem dL_train_12 : decode cL_train 12 = .ok (.astore_n 3, 1) := by decide +kernel
theorem dL_train_13 : decode cL_train 13 = .ok (.iconst 1, 1) := by decide +kernel
theorem dL_train_14 : decode cL_train 14 = .ok (.ireturn, 1) := by decide +kernel
theorem dL_train_15 : decode cL_train 15 = .ok (.astore_n 3, 1) := by decide +kernel
theorem dL_train_16 : decode cL_train 16 = .ok (.iconst 2, 1) := by decide +kernel
theorem dL_train_17 : decode cL_train 17 = .ok (.ireturn, 1) := by decide +kernel
theorem dL_train_18 : decode cL_train 18 = .ok (.iconst 0, 1) := by decide +kernel
theorem dL_train_19 : decode cL_train 19 = .ok (.ireturn, 1) := by decide +kernel
theorem dL_drop_0 : decode cL_drop 0 = .ok (.aload_n 2, 1) := by decide +kernel
theorem dL_drop_1 : decode cL_drop 1 = .ok (.iconst 0, 1) := by decide +kernel
theorem dL_drop_2 : decode cL_drop 2 = .ok (.aload_n 0, 1) := by decide +kernel
theorem dL_drop_3 : decode cL_drop 3 = .ok (.iload_n 1, 1) := by decide +kernel
theorem dL_drop_4 : decode cL_drop 4 = .ok (.invokevirtual 54, 3) := by decide +kernel
theorem dL_drop_7 : decode cL_drop 7 = .ok (.i2l, 1) := by decide +kernel
theorem dL_drop_8 : decode cL_drop 8 = .ok (.lastore, 1) := by decide +kernel
theorem dL_drop_9 : decode cL_drop 9 = .ok (.goto 6, 3) := by decide +kernel
theorem dL_drop_12 : decode cL_drop 12 = .ok (.astore_n 3, 1) := by decide +kernel
theorem dL_drop_13 : decode cL_drop 13 = .ok (.iconst 1, 1) := by decide +kernel
theorem dL_drop_14 : decode cL_drop 14 = .ok (.ireturn, 1) := by decide +kernel
theorem dL_drop_15 : decode cL_drop 15 = .ok (.iconst 0, 1) := by decide +kernel
theorem dL_drop_16 : decode cL_drop 16 = .ok (.ireturn, 1) := by decide +kernel
theorem dL_node_0 : decode cL_node 0 = .ok (.aload 4, 2) := by decide +kernel
theorem dL_node_2 : decode cL_node 2 = .ok (.iconst 0, 1) := by decide +kernel
theorem dL_node_3 : decode cL_node 3 = .ok (.aload_n 0, 1) := by decide +kernel
theorem dL_node_4 : decode cL_node 4 = .ok (.iload_n 1, 1) := by decide +kernel
theorem dL_node_5 : decode cL_node 5 = .ok (.iload_n 2, 1) := by decide +kernel
theorem dL_node_6 : decode cL_node 6 = .ok (.iload_n 3, 1) := by decide +kernel
theorem dL_node_7 : decode cL_node 7 = .ok (.invokevirtual 57, 3) := by decide +kernel
theorem dL_node_10 : decode cL_node 10 = .ok (.i2l, 1) := by decide +kernel
theorem dL_node_11 : decode cL_node 11 = .ok (.lastore, 1) := by decide +kernel
theorem dL_node_12 : decode cL_node 12 = .ok (.goto 7, 3) := by decide +kernel
theorem dL_node_15 : decode cL_node 15 = .ok (.astore 5, 2) := by decide +kernel
theorem dL_node_17 : decode cL_node 17 = .ok (.iconst 1, 1) := by decide +kernel
theorem dL_node_18 : decode cL_node 18 = .ok (.ireturn, 1) := by decide +kernel
theorem dL_node_19 : decode cL_node 19 = .ok (.iconst 0, 1) := by decide +kernel
theorem dL_node_20 : decode cL_node 20 = .ok (.ireturn, 1) := by decide +kernel
