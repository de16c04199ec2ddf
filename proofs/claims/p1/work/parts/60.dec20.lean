theorem dL_begin_0 : decode cL_begin 0 = .ok (.aload_n 0, 1) := by decide +kernel
theorem dL_begin_1 : decode cL_begin 1 = .ok (.iload_n 1, 1) := by decide +kernel
theorem dL_begin_2 : decode cL_begin 2 = .ok (.invokevirtual 7, 3) := by decide +kernel
theorem dL_begin_5 : decode cL_begin 5 = .ok (.goto 6, 3) := by decide +kernel
theorem dL_begin_8 : decode cL_begin 8 = .ok (.astore_n 2, 1) := by decide +kernel
theorem dL_begin_9 : decode cL_begin 9 = .ok (.iconst 1, 1) := by decide +kernel
theorem dL_begin_10 : decode cL_begin 10 = .ok (.ireturn, 1) := by decide +kernel
theorem dL_begin_11 : decode cL_begin 11 = .ok (.iconst 0, 1) := by decide +kernel
theorem dL_begin_12 : decode cL_begin 12 = .ok (.ireturn, 1) := by decide +kernel
theorem dL_shape_0 : decode cL_shape 0 = .ok (.aload_n 0, 1) := by decide +kernel
theorem dL_shape_1 : decode cL_shape 1 = .ok (.iload_n 1, 1) := by decide +kernel
theorem dL_shape_2 : decode cL_shape 2 = .ok (.iload_n 2, 1) := by decide +kernel
theorem dL_shape_3 : decode cL_shape 3 = .ok (.iload_n 3, 1) := by decide +kernel
theorem dL_shape_4 : decode cL_shape 4 = .ok (.invokevirtual 43, 3) := by decide +kernel
theorem dL_shape_7 : decode cL_shape 7 = .ok (.goto 7, 3) := by decide +kernel
theorem dL_shape_10 : decode cL_shape 10 = .ok (.astore 4, 2) := by decide +kernel
theorem dL_shape_12 : decode cL_shape 12 = .ok (.iconst 1, 1) := by decide +kernel
theorem dL_shape_13 : decode cL_shape 13 = .ok (.ireturn, 1) := by decide +kernel
theorem dL_shape_14 : decode cL_shape 14 = .ok (.iconst 0, 1) := by decide +kernel
theorem dL_shape_15 : decode cL_shape 15 = .ok (.ireturn, 1) := by decide +kernel
theorem dL_rate_0 : decode cL_rate 0 = .ok (.aload_n 0, 1) := by decide +kernel
theorem dL_rate_1 : decode cL_rate 1 = .ok (.iload_n 1, 1) := by decide +kernel
theorem dL_rate_2 : decode cL_rate 2 = .ok (.iload_n 2, 1) := by decide +kernel
theorem dL_rate_3 : decode cL_rate 3 = .ok (.invokevirtual 47, 3) := by decide +kernel
theorem dL_rate_6 : decode cL_rate 6 = .ok (.goto 6, 3) := by decide +kernel
theorem dL_rate_9 : decode cL_rate 9 = .ok (.astore_n 3, 1) := by decide +kernel
theorem dL_rate_10 : decode cL_rate 10 = .ok (.iconst 1, 1) := by decide +kernel
theorem dL_rate_11 : decode cL_rate 11 = .ok (.ireturn, 1) := by decide +kernel
theorem dL_rate_12 : decode cL_rate 12 = .ok (.iconst 0, 1) := by decide +kernel
theorem dL_rate_13 : decode cL_rate 13 = .ok (.ireturn, 1) := by decide +kernel
theorem dL_add_0 : decode cL_add 0 = .ok (.aload_n 2, 1) := by decide +kernel
theorem dL_add_1 : decode cL_add 1 = .ok (.iconst 0, 1) := by decide +kernel
theorem dL_add_2 : decode cL_add 2 = .ok (.aload_n 0, 1) := by decide +kernel
theorem dL_add_3 : decode cL_add 3 = .ok (.iload_n 1, 1) := by decide +kernel
theorem dL_add_4 : decode cL_add 4 = .ok (.invokevirtual 15, 3) := by decide +kernel
theorem dL_add_7 : decode cL_add 7 = .ok (.i2l, 1) := by decide +kernel
theorem dL_add_8 : decode cL_add 8 = .ok (.lastore, 1) := by decide +kernel
theorem dL_add_9 : decode cL_add 9 = .ok (.goto 9, 3) := by decide +kernel
theorem dL_add_12 : decode cL_add 12 = .ok (.astore_n 3, 1) := by decide +kernel
theorem dL_add_13 : decode cL_add 13 = .ok (.iconst 1, 1) := by decide +kernel
theorem dL_add_14 : decode cL_add 14 = .ok (.ireturn, 1) := by decide +kernel
theorem dL_add_15 : decode cL_add 15 = .ok (.astore_n 3, 1) := by decide +kernel
theorem dL_add_16 : decode cL_add 16 = .ok (.iconst 2, 1) := by decide +kernel
theorem dL_add_17 : decode cL_add 17 = .ok (.ireturn, 1) := by decide +kernel
theorem dL_add_18 : decode cL_add 18 = .ok (.iconst 0, 1) := by decide +kernel
theorem dL_add_19 : decode cL_add 19 = .ok (.ireturn, 1) := by decide +kernel
theorem dL_put_0 : decode cL_put 0 = .ok (.aload 4, 2) := by decide +kernel
theorem dL_put_2 : decode cL_put 2 = .ok (.iconst 0, 1) := by decide +kernel
theorem dL_put_3 : decode cL_put 3 = .ok (.aload_n 0, 1) := by decide +kernel
theorem dL_put_4 : decode cL_put 4 = .ok (.iload_n 1, 1) := by decide +kernel
theorem dL_put_5 : decode cL_put 5 = .ok (.iload_n 2, 1) := by decide +kernel
theorem dL_put_6 : decode cL_put 6 = .ok (.iload_n 3, 1) := by decide +kernel
theorem dL_put_7 : decode cL_put 7 = .ok (.invokevirtual 21, 3) := by decide +kernel
theorem dL_put_10 : decode cL_put 10 = .ok (.i2l, 1) := by decide +kernel
theorem dL_put_11 : decode cL_put 11 = .ok (.lastore, 1) := by decide +kernel
theorem dL_put_12 : decode cL_put 12 = .ok (.goto 7, 3) := by decide +kernel
theorem dL_put_15 : decode cL_put 15 = .ok (.astore 5, 2) := by decide +kernel
theorem dL_put_17 : decode cL_put 17 = .ok (.iconst 1, 1) := by decide +kernel
theorem dL_put_18 : decode cL_put 18 = .ok (.ireturn, 1) := by decide +kernel
theorem dL_put_19 : decode cL_put 19 = .ok (.iconst 0, 1) := by decide +kernel
theorem dL_put_20 : decode cL_put 20 = .ok (.ireturn, 1) := by decide +kernel
theorem dL_target_0 : decode cL_target 0 = .ok (.aload_n 3, 1) := by decide +kernel
theorem dL_target_1 : decode cL_target 1 = .ok (.iconst 0, 1) := by decide +kernel
theorem dL_target_2 : decode cL_target 2 = .ok (.aload_n 0, 1) := by decide +kernel
theorem dL_target_3 : decode cL_target 3 = .ok (.iload_n 1, 1) := by decide +kernel
theorem dL_target_4 : decode cL_target 4 = .ok (.iload_n 2, 1) := by decide +kernel
theorem dL_target_5 : decode cL_target 5 = .ok (.invokevirtual 25, 3) := by decide +kernel
theorem dL_target_8 : decode cL_target 8 = .ok (.i2l, 1) := by decide +kernel
theorem dL_target_9 : decode cL_target 9 = .ok (.lastore, 1) := by decide +kernel
theorem dL_target_10 : decode cL_target 10 = .ok (.goto 7, 3) := by decide +kernel
theorem dL_target_13 : decode cL_target 13 = .ok (.astore 4, 2) := by decide +kernel
theorem dL_target_15 : decode cL_target 15 = .ok (.iconst 1, 1) := by decide +kernel
theorem dL_target_16 : decode cL_target 16 = .ok (.ireturn, 1) := by decide +kernel
theorem dL_target_17 : decode cL_target 17 = .ok (.iconst 0, 1) := by decide +kernel
theorem dL_target_18 : decode cL_target 18 = .ok (.ireturn, 1) := by decide +kernel
theorem dL_kinds_0 : decode cL_kinds 0 = .ok (.aload_n 3, 1) := by decide +kernel
theorem dL_kinds_1 : decode cL_kinds 1 = .ok (.iconst 0, 1) := by decide +kernel
theorem dL_kinds_2 : decode cL_kinds 2 = .ok (.aload_n 0, 1) := by decide +kernel
theorem dL_kinds_3 : decode cL_kinds 3 = .ok (.iload_n 1, 1) := by decide +kernel
theorem dL_kinds_4 : decode cL_kinds 4 = .ok (.iload_n 2, 1) := by decide +kernel
theorem dL_kinds_5 : decode cL_kinds 5 = .ok (.invokevirtual 29, 3) := by decide +kernel
theorem dL_kinds_8 : decode cL_kinds 8 = .ok (.ifCond .eq 7, 3) := by decide +kernel
theorem dL_kinds_11 : decode cL_kinds 11 = .ok (.lconst 1, 1) := by decide +kernel
theorem dL_kinds_12 : decode cL_kinds 12 = .ok (.goto 4, 3) := by decide +kernel
theorem dL_kinds_15 : decode cL_kinds 15 = .ok (.lconst 0, 1) := by decide +kernel
theorem dL_kinds_16 : decode cL_kinds 16 = .ok (.lastore, 1) := by decide +kernel
theorem dL_kinds_17 : decode cL_kinds 17 = .ok (.goto 11, 3) := by decide +kernel
theorem dL_kinds_20 : decode cL_kinds 20 = .ok (.astore 4, 2) := by decide +kernel
theorem dL_kinds_22 : decode cL_kinds 22 = .ok (.iconst 1, 1) := by decide +kernel
theorem dL_kinds_23 : decode cL_kinds 23 = .ok (.ireturn, 1) := by decide +kernel
theorem dL_kinds_24 : decode cL_kinds 24 = .ok (.astore 4, 2) := by decide +kernel
theorem dL_kinds_26 : decode cL_kinds 26 = .ok (.iconst 2, 1) := by decide +kernel
theorem dL_kinds_27 : decode cL_kinds 27 = .ok (.ireturn, 1) := by decide +kernel
theorem dL_kinds_28 : decode cL_kinds 28 = .ok (.iconst 0, 1) := by decide +kernel
theorem dL_kinds_29 : decode cL_kinds 29 = .ok (.ireturn, 1) := by decide +kernel
theorem dL_cut_0 : decode cL_cut 0 = .ok (.aload 4, 2) := by decide +kernel
theorem dL_cut_2 : decode cL_cut 2 = .ok (.iconst 0, 1) := by decide +kernel
theorem dL_cut_3 : decode cL_cut 3 = .ok (.aload_n 0, 1) := by decide +kernel
theorem dL_cut_4 : decode cL_cut 4 = .ok (.iload_n 1, 1) := by decide +kernel
theorem dL_cut_5 : decode cL_cut 5 = .ok (.iload_n 2, 1) := by decide +kernel
theorem dL_cut_6 : decode cL_cut 6 = .ok (.iload_n 3, 1) := by decide +kernel
theorem dL_cut_7 : decode cL_cut 7 = .ok (.invokevirtual 33, 3) := by decide +kernel
theorem dL_cut_10 : decode cL_cut 10 = .ok (.i2l, 1) := by decide +kernel
theorem dL_cut_11 : decode cL_cut 11 = .ok (.lastore, 1) := by decide +kernel
theorem dL_cut_12 : decode cL_cut 12 = .ok (.goto 11, 3) := by decide +kernel
theorem dL_cut_15 : decode cL_cut 15 = .ok (.astore 5, 2) := by decide +kernel
theorem dL_cut_17 : decode cL_cut 17 = .ok (.iconst 1, 1) := by decide +kernel
theorem dL_cut_18 : decode cL_cut 18 = .ok (.ireturn, 1) := by decide +kernel
theorem dL_cut_19 : decode cL_cut 19 = .ok (.astore 5, 2) := by decide +kernel
theorem dL_cut_21 : decode cL_cut 21 = .ok (.iconst 2, 1) := by decide +kernel
theorem dL_cut_22 : decode cL_cut 22 = .ok (.ireturn, 1) := by decide +kernel
theorem dL_cut_23 : decode cL_cut 23 = .ok (.iconst 0, 1) := by decide +kernel
theorem dL_cut_24 : decode cL_cut 24 = .ok (.ireturn, 1) := by decide +kernel
theorem dL_edge_0 : decode cL_edge 0 = .ok (.aload_n 3, 1) := by decide +kernel
theorem dL_edge_1 : decode cL_edge 1 = .ok (.iconst 0, 1) := by decide +kernel
theorem dL_edge_2 : decode cL_edge 2 = .ok (.aload_n 0, 1) := by decide +kernel
theorem dL_edge_3 : decode cL_edge 3 = .ok (.iload_n 1, 1) := by decide +kernel
theorem dL_edge_4 : decode cL_edge 4 = .ok (.iload_n 2, 1) := by decide +kernel
theorem dL_edge_5 : decode cL_edge 5 = .ok (.invokevirtual 37, 3) := by decide +kernel
theorem dL_edge_8 : decode cL_edge 8 = .ok (.i2l, 1) := by decide +kernel
theorem dL_edge_9 : decode cL_edge 9 = .ok (.lastore, 1) := by decide +kernel
theorem dL_edge_10 : decode cL_edge 10 = .ok (.goto 7, 3) := by decide +kernel
theorem dL_edge_13 : decode cL_edge 13 = .ok (.astore 4, 2) := by decide +kernel
theorem dL_edge_15 : decode cL_edge 15 = .ok (.iconst 1, 1) := by decide +kernel
theorem dL_edge_16 : decode cL_edge 16 = .ok (.ireturn, 1) := by decide +kernel
theorem dL_edge_17 : decode cL_edge 17 = .ok (.iconst 0, 1) := by decide +kernel
theorem dL_edge_18 : decode cL_edge 18 = .ok (.ireturn, 1) := by decide +kernel
theorem dL_bin_0 : decode cL_bin 0 = .ok (.aload_n 3, 1) := by decide +kernel
theorem dL_bin_1 : decode cL_bin 1 = .ok (.iconst 0, 1) := by decide +kernel
theorem dL_bin_2 : decode cL_bin 2 = .ok (.aload_n 0, 1) := by decide +kernel
theorem dL_bin_3 : decode cL_bin 3 = .ok (.iload_n 1, 1) := by decide +kernel
theorem dL_bin_4 : decode cL_bin 4 = .ok (.iload_n 2, 1) := by decide +kernel
theorem dL_bin_5 : decode cL_bin 5 = .ok (.invokevirtual 40, 3) := by decide +kernel
theorem dL_bin_8 : decode cL_bin 8 = .ok (.i2l, 1) := by decide +kernel
theorem dL_bin_9 : decode cL_bin 9 = .ok (.lastore, 1) := by decide +kernel
theorem dL_bin_10 : decode cL_bin 10 = .ok (.goto 7, 3) := by decide +kernel
theorem dL_bin_13 : decode cL_bin 13 = .ok (.astore 4, 2) := by decide +kernel
theorem dL_bin_15 : decode cL_bin 15 = .ok (.iconst 1, 1) := by decide +kernel
theorem dL_bin_16 : decode cL_bin 16 = .ok (.ireturn, 1) := by decide +kernel
theorem dL_bin_17 : decode cL_bin 17 = .ok (.iconst 0, 1) := by decide +kernel
theorem dL_bin_18 : decode cL_bin 18 = .ok (.ireturn, 1) := by decide +kernel
theorem dL_drop_0 : decode cL_drop 0 = .ok (.aload_n 2, 1) := by decide +kernel
theorem dL_drop_1 : decode cL_drop 1 = .ok (.iconst 0, 1) := by decide +kernel
theorem dL_drop_2 : decode cL_drop 2 = .ok (.aload_n 0, 1) := by decide +kernel
theorem dL_drop_3 : decode cL_drop 3 = .ok (.iload_n 1, 1) := by decide +kernel
theorem dL_drop_4 : decode cL_drop 4 = .ok (.invokevirtual 54, 3) := by decide +kernel
theorem dL_drop_7 : decode cL_drop 7 = .ok (.i2l, 1) := by decide +kernel
theorem dL_drop_8 : decode cL_drop 8 = .ok (.lastore, 1) := by decide +kernel
theorem dL_drop_9 : decode cL_drop 9 = .ok (.goto 6, 3) := by decide +kernel
theorem dL_drop_12 : decode cL_drop 12 = .ok (.astore_n 3, 1) := by decide +kernel
theorem dL_drop_13 : decode cL_drop 13 = .ok (.iconst 1, 1) := by decide +kernel
theorem dL_drop_14 : decode cL_drop 14 = .ok (.ireturn, 1) := by decide +kernel
theorem dL_drop_15 : decode cL_drop 15 = .ok (.iconst 0, 1) := by decide +kernel
theorem dL_drop_16 : decode cL_drop 16 = .ok (.ireturn, 1) := by decide +kernel
theorem dL_nodes_0 : decode cL_nodes 0 = .ok (.aload_n 2, 1) := by decide +kernel
theorem dL_nodes_1 : decode cL_nodes 1 = .ok (.iconst 0, 1) := by decide +kernel
theorem dL_nodes_2 : decode cL_nodes 2 = .ok (.aload_n 0, 1) := by decide +kernel
theorem dL_nodes_3 : decode cL_nodes 3 = .ok (.iload_n 1, 1) := by decide +kernel
theorem dL_nodes_4 : decode cL_nodes 4 = .ok (.invokevirtual 63, 3) := by decide +kernel
theorem dL_nodes_7 : decode cL_nodes 7 = .ok (.i2l, 1) := by decide +kernel
theorem dL_nodes_8 : decode cL_nodes 8 = .ok (.lastore, 1) := by decide +kernel
theorem dL_nodes_9 : decode cL_nodes 9 = .ok (.goto 6, 3) := by decide +kernel
theorem dL_nodes_12 : decode cL_nodes 12 = .ok (.astore_n 3, 1) := by decide +kernel
theorem dL_nodes_13 : decode cL_nodes 13 = .ok (.iconst 1, 1) := by decide +kernel
theorem dL_nodes_14 : decode cL_nodes 14 = .ok (.ireturn, 1) := by decide +kernel
theorem dL_nodes_15 : decode cL_nodes 15 = .ok (.iconst 0, 1) := by decide +kernel
theorem dL_nodes_16 : decode cL_nodes 16 = .ok (.ireturn, 1) := by decide +kernel
theorem dL_uses_0 : decode cL_uses 0 = .ok (.aload_n 2, 1) := by decide +kernel
theorem dL_uses_1 : decode cL_uses 1 = .ok (.iconst 0, 1) := by decide +kernel
theorem dL_uses_2 : decode cL_uses 2 = .ok (.aload_n 0, 1) := by decide +kernel
theorem dL_uses_3 : decode cL_uses 3 = .ok (.iload_n 1, 1) := by decide +kernel
theorem dL_uses_4 : decode cL_uses 4 = .ok (.invokevirtual 66, 3) := by decide +kernel
theorem dL_uses_7 : decode cL_uses 7 = .ok (.i2l, 1) := by decide +kernel
theorem dL_uses_8 : decode cL_uses 8 = .ok (.lastore, 1) := by decide +kernel
theorem dL_uses_9 : decode cL_uses 9 = .ok (.goto 6, 3) := by decide +kernel
theorem dL_uses_12 : decode cL_uses 12 = .ok (.astore_n 3, 1) := by decide +kernel
theorem dL_uses_13 : decode cL_uses 13 = .ok (.iconst 1, 1) := by decide +kernel
theorem dL_uses_14 : decode cL_uses 14 = .ok (.ireturn, 1) := by decide +kernel
theorem dL_uses_15 : decode cL_uses 15 = .ok (.iconst 0, 1) := by decide +kernel
theorem dL_uses_16 : decode cL_uses 16 = .ok (.ireturn, 1) := by decide +kernel
theorem dL_residual_0 : decode cL_residual 0 = .ok (.aload_n 3, 1) := by decide +kernel
theorem dL_residual_1 : decode cL_residual 1 = .ok (.iconst 0, 1) := by decide +kernel
theorem dL_residual_2 : decode cL_residual 2 = .ok (.aload_n 0, 1) := by decide +kernel
theorem dL_residual_3 : decode cL_residual 3 = .ok (.iload_n 1, 1) := by decide +kernel
theorem dL_residual_4 : decode cL_residual 4 = .ok (.iload_n 2, 1) := by decide +kernel
theorem dL_residual_5 : decode cL_residual 5 = .ok (.invokevirtual 72, 3) := by decide +kernel
theorem dL_residual_8 : decode cL_residual 8 = .ok (.i2l, 1) := by decide +kernel
theorem dL_residual_9 : decode cL_residual 9 = .ok (.lastore, 1) := by decide +kernel
theorem dL_residual_10 : decode cL_residual 10 = .ok (.goto 7, 3) := by decide +kernel
theorem dL_residual_13 : decode cL_residual 13 = .ok (.astore 4, 2) := by decide +kernel
theorem dL_residual_15 : decode cL_residual 15 = .ok (.iconst 1, 1) := by decide +kernel
theorem dL_residual_16 : decode cL_residual 16 = .ok (.ireturn, 1) := by decide +kernel
theorem dL_residual_17 : decode cL_residual 17 = .ok (.iconst 0, 1) := by decide +kernel
theorem dL_residual_18 : decode cL_residual 18 = .ok (.ireturn, 1) := by decide +kernel
theorem dL_predict_0 : decode cL_predict 0 = .ok (.aload_n 2, 1) := by decide +kernel
theorem dL_predict_1 : decode cL_predict 1 = .ok (.iconst 0, 1) := by decide +kernel
theorem dL_predict_2 : decode cL_predict 2 = .ok (.aload_n 0, 1) := by decide +kernel
theorem dL_predict_3 : decode cL_predict 3 = .ok (.iload_n 1, 1) := by decide +kernel
theorem dL_predict_4 : decode cL_predict 4 = .ok (.invokevirtual 78, 3) := by decide +kernel
theorem dL_predict_7 : decode cL_predict 7 = .ok (.i2l, 1) := by decide +kernel
theorem dL_predict_8 : decode cL_predict 8 = .ok (.lastore, 1) := by decide +kernel
theorem dL_predict_9 : decode cL_predict 9 = .ok (.goto 6, 3) := by decide +kernel
theorem dL_predict_12 : decode cL_predict 12 = .ok (.astore_n 3, 1) := by decide +kernel
theorem dL_predict_13 : decode cL_predict 13 = .ok (.iconst 1, 1) := by decide +kernel
theorem dL_predict_14 : decode cL_predict 14 = .ok (.ireturn, 1) := by decide +kernel
theorem dL_predict_15 : decode cL_predict 15 = .ok (.iconst 0, 1) := by decide +kernel
theorem dL_predict_16 : decode cL_predict 16 = .ok (.ireturn, 1) := by decide +kernel
theorem dL_error_0 : decode cL_error 0 = .ok (.aload 4, 2) := by decide +kernel
theorem dL_error_2 : decode cL_error 2 = .ok (.iconst 0, 1) := by decide +kernel
theorem dL_error_3 : decode cL_error 3 = .ok (.aload_n 0, 1) := by decide +kernel
theorem dL_error_4 : decode cL_error 4 = .ok (.lload_n 1, 1) := by decide +kernel
theorem dL_error_5 : decode cL_error 5 = .ok (.iload_n 3, 1) := by decide +kernel
theorem dL_error_6 : decode cL_error 6 = .ok (.invokevirtual 81, 3) := by decide +kernel
theorem dL_error_9 : decode cL_error 9 = .ok (.i2l, 1) := by decide +kernel
theorem dL_error_10 : decode cL_error 10 = .ok (.lastore, 1) := by decide +kernel
theorem dL_error_11 : decode cL_error 11 = .ok (.goto 7, 3) := by decide +kernel
theorem dL_error_14 : decode cL_error 14 = .ok (.astore 5, 2) := by decide +kernel
theorem dL_error_16 : decode cL_error 16 = .ok (.iconst 1, 1) := by decide +kernel
theorem dL_error_17 : decode cL_error 17 = .ok (.ireturn, 1) := by decide +kernel
theorem dL_error_18 : decode cL_error 18 = .ok (.iconst 0, 1) := by decide +kernel
theorem dL_error_19 : decode cL_error 19 = .ok (.ireturn, 1) := by decide +kernel
theorem dL_train_0 : decode cL_train 0 = .ok (.aload_n 2, 1) := by decide +kernel
theorem dL_train_1 : decode cL_train 1 = .ok (.iconst 0, 1) := by decide +kernel
theorem dL_train_2 : decode cL_train 2 = .ok (.aload_n 0, 1) := by decide +kernel
theorem dL_train_3 : decode cL_train 3 = .ok (.iload_n 1, 1) := by decide +kernel
theorem dL_train_4 : decode cL_train 4 = .ok (.invokevirtual 51, 3) := by decide +kernel
theorem dL_train_7 : decode cL_train 7 = .ok (.i2l, 1) := by decide +kernel
theorem dL_train_8 : decode cL_train 8 = .ok (.lastore, 1) := by decide +kernel
theorem dL_train_9 : decode cL_train 9 = .ok (.goto 9, 3) := by decide +kernel
theorem dL_train_12 : decode cL_train 12 = .ok (.astore_n 3, 1) := by decide +kernel
theorem dL_train_13 : decode cL_train 13 = .ok (.iconst 1, 1) := by decide +kernel
theorem dL_train_14 : decode cL_train 14 = .ok (.ireturn, 1) := by decide +kernel
theorem dL_train_15 : decode cL_train 15 = .ok (.astore_n 3, 1) := by decide +kernel
theorem dL_train_16 : decode cL_train 16 = .ok (.iconst 2, 1) := by decide +kernel
theorem dL_train_17 : decode cL_train 17 = .ok (.ireturn, 1) := by decide +kernel
theorem dL_train_18 : decode cL_train 18 = .ok (.iconst 0, 1) := by decide +kernel
theorem dL_train_19 : decode cL_train 19 = .ok (.ireturn, 1) := by decide +kernel
theorem dL_ask_0 : decode cL_ask 0 = .ok (.aload_n 3, 1) := by decide +kernel
theorem dL_ask_1 : decode cL_ask 1 = .ok (.iconst 0, 1) := by decide +kernel
theorem dL_ask_2 : decode cL_ask 2 = .ok (.aload_n 0, 1) := by decide +kernel
theorem dL_ask_3 : decode cL_ask 3 = .ok (.iload_n 1, 1) := by decide +kernel
theorem dL_ask_4 : decode cL_ask 4 = .ok (.iload_n 2, 1) := by decide +kernel
theorem dL_ask_5 : decode cL_ask 5 = .ok (.invokevirtual 75, 3) := by decide +kernel
theorem dL_ask_8 : decode cL_ask 8 = .ok (.i2l, 1) := by decide +kernel
theorem dL_ask_9 : decode cL_ask 9 = .ok (.lastore, 1) := by decide +kernel
theorem dL_ask_10 : decode cL_ask 10 = .ok (.goto 7, 3) := by decide +kernel
theorem dL_ask_13 : decode cL_ask 13 = .ok (.astore 4, 2) := by decide +kernel
theorem dL_ask_15 : decode cL_ask 15 = .ok (.iconst 1, 1) := by decide +kernel
theorem dL_ask_16 : decode cL_ask 16 = .ok (.ireturn, 1) := by decide +kernel
theorem dL_ask_17 : decode cL_ask 17 = .ok (.iconst 0, 1) := by decide +kernel
theorem dL_ask_18 : decode cL_ask 18 = .ok (.ireturn, 1) := by decide +kernel
theorem dL_node_0 : decode cL_node 0 = .ok (.aload 4, 2) := by decide +kernel
theorem dL_node_2 : decode cL_node 2 = .ok (.iconst 0, 1) := by decide +kernel
theorem dL_node_3 : decode cL_node 3 = .ok (.aload_n 0, 1) := by decide +kernel
theorem dL_node_4 : decode cL_node 4 = .ok (.iload_n 1, 1) := by decide +kernel
theorem dL_node_5 : decode cL_node 5 = .ok (.iload_n 2, 1) := by decide +kernel
theorem dL_node_6 : decode cL_node 6 = .ok (.iload_n 3, 1) := by decide +kernel
theorem dL_node_7 : decode cL_node 7 = .ok (.invokevirtual 57, 3) := by decide +kernel
theorem dL_node_10 : decode cL_node 10 = .ok (.i2l, 1) := by decide +kernel
theorem dL_node_11 : decode cL_node 11 = .ok (.lastore, 1) := by decide +kernel
theorem dL_node_12 : decode cL_node 12 = .ok (.goto 7, 3) := by decide +kernel
theorem dL_node_15 : decode cL_node 15 = .ok (.astore 5, 2) := by decide +kernel
theorem dL_node_17 : decode cL_node 17 = .ok (.iconst 1, 1) := by decide +kernel
theorem dL_node_18 : decode cL_node 18 = .ok (.ireturn, 1) := by decide +kernel
theorem dL_node_19 : decode cL_node 19 = .ok (.iconst 0, 1) := by decide +kernel
theorem dL_node_20 : decode cL_node 20 = .ok (.ireturn, 1) := by decide +kernel
theorem dL_tell_0 : decode cL_tell 0 = .ok (.aload_n 3, 1) := by decide +kernel
theorem dL_tell_1 : decode cL_tell 1 = .ok (.iconst 0, 1) := by decide +kernel
theorem dL_tell_2 : decode cL_tell 2 = .ok (.aload_n 0, 1) := by decide +kernel
theorem dL_tell_3 : decode cL_tell 3 = .ok (.iload_n 1, 1) := by decide +kernel
theorem dL_tell_4 : decode cL_tell 4 = .ok (.iload_n 2, 1) := by decide +kernel
theorem dL_tell_5 : decode cL_tell 5 = .ok (.invokevirtual 69, 3) := by decide +kernel
theorem dL_tell_8 : decode cL_tell 8 = .ok (.i2l, 1) := by decide +kernel
theorem dL_tell_9 : decode cL_tell 9 = .ok (.lastore, 1) := by decide +kernel
theorem dL_tell_10 : decode cL_tell 10 = .ok (.goto 7, 3) := by decide +kernel
theorem dL_tell_13 : decode cL_tell 13 = .ok (.astore 4, 2) := by decide +kernel
theorem dL_tell_15 : decode cL_tell 15 = .ok (.iconst 1, 1) := by decide +kernel
theorem dL_tell_16 : decode cL_tell 16 = .ok (.ireturn, 1) := by decide +kernel
theorem dL_tell_17 : decode cL_tell 17 = .ok (.iconst 0, 1) := by decide +kernel
theorem dL_tell_18 : decode cL_tell 18 = .ok (.ireturn, 1) := by decide +kernel
theorem dL_count_0 : decode cL_count 0 = .ok (.aload_n 2, 1) := by decide +kernel
theorem dL_count_1 : decode cL_count 1 = .ok (.iconst 0, 1) := by decide +kernel
theorem dL_count_2 : decode cL_count 2 = .ok (.aload_n 0, 1) := by decide +kernel
theorem dL_count_3 : decode cL_count 3 = .ok (.iload_n 1, 1) := by decide +kernel
theorem dL_count_4 : decode cL_count 4 = .ok (.invokevirtual 60, 3) := by decide +kernel
theorem dL_count_7 : decode cL_count 7 = .ok (.i2l, 1) := by decide +kernel
theorem dL_count_8 : decode cL_count 8 = .ok (.lastore, 1) := by decide +kernel
theorem dL_count_9 : decode cL_count 9 = .ok (.goto 6, 3) := by decide +kernel
theorem dL_count_12 : decode cL_count 12 = .ok (.astore_n 3, 1) := by decide +kernel
theorem dL_count_13 : decode cL_count 13 = .ok (.iconst 1, 1) := by decide +kernel
theorem dL_count_14 : decode cL_count 14 = .ok (.ireturn, 1) := by decide +kernel
theorem dL_count_15 : decode cL_count 15 = .ok (.iconst 0, 1) := by decide +kernel
theorem dL_count_16 : decode cL_count 16 = .ok (.ireturn, 1) := by decide +kernel
