theorem dM_refused_0 : decode cM_refused 0 = .ok (.aload_n 0, 1) := by decide +kernel
theorem dM_refused_1 : decode cM_refused 1 = .ok (.iload_n 1, 1) := by decide +kernel
theorem dM_refused_2 : decode cM_refused 2 = .ok (.putfield 144, 3) := by decide +kernel
theorem dM_refused_5 : decode cM_refused 5 = .ok (.iload_n 1, 1) := by decide +kernel
theorem dM_refused_6 : decode cM_refused 6 = .ok (.ifCond .le 7, 3) := by decide +kernel
theorem dM_refused_9 : decode cM_refused 9 = .ok (.iconst 1, 1) := by decide +kernel
theorem dM_refused_10 : decode cM_refused 10 = .ok (.goto 4, 3) := by decide +kernel
theorem dM_refused_13 : decode cM_refused 13 = .ok (.iconst 0, 1) := by decide +kernel
theorem dM_refused_14 : decode cM_refused 14 = .ok (.ireturn, 1) := by decide +kernel
theorem dM_noRow_0 : decode cM_noRow 0 = .ok (.iload_n 1, 1) := by decide +kernel
theorem dM_noRow_1 : decode cM_noRow 1 = .ok (.iconst 0, 1) := by decide +kernel
theorem dM_noRow_2 : decode cM_noRow 2 = .ok (.aload_n 0, 1) := by decide +kernel
theorem dM_noRow_3 : decode cM_noRow 3 = .ok (.getfield 193, 3) := by decide +kernel
theorem dM_noRow_6 : decode cM_noRow 6 = .ok (.iconst 1, 1) := by decide +kernel
theorem dM_noRow_7 : decode cM_noRow 7 = .ok (.isub, 1) := by decide +kernel
theorem dM_noRow_8 : decode cM_noRow 8 = .ok (.invokestatic 227, 3) := by decide +kernel
theorem dM_noRow_11 : decode cM_noRow 11 = .ok (.ifCond .ne 7, 3) := by decide +kernel
theorem dM_noRow_14 : decode cM_noRow 14 = .ok (.iconst 1, 1) := by decide +kernel
theorem dM_noRow_15 : decode cM_noRow 15 = .ok (.goto 4, 3) := by decide +kernel
theorem dM_noRow_18 : decode cM_noRow 18 = .ok (.iconst 0, 1) := by decide +kernel
theorem dM_noRow_19 : decode cM_noRow 19 = .ok (.ireturn, 1) := by decide +kernel
theorem dM_noColumn_0 : decode cM_noColumn 0 = .ok (.iload_n 1, 1) := by decide +kernel
theorem dM_noColumn_1 : decode cM_noColumn 1 = .ok (.iconst 0, 1) := by decide +kernel
theorem dM_noColumn_2 : decode cM_noColumn 2 = .ok (.aload_n 0, 1) := by decide +kernel
theorem dM_noColumn_3 : decode cM_noColumn 3 = .ok (.getfield 190, 3) := by decide +kernel
theorem dM_noColumn_6 : decode cM_noColumn 6 = .ok (.iconst 1, 1) := by decide +kernel
theorem dM_noColumn_7 : decode cM_noColumn 7 = .ok (.isub, 1) := by decide +kernel
theorem dM_noColumn_8 : decode cM_noColumn 8 = .ok (.invokestatic 227, 3) := by decide +kernel
theorem dM_noColumn_11 : decode cM_noColumn 11 = .ok (.ifCond .ne 7, 3) := by decide +kernel
theorem dM_noColumn_14 : decode cM_noColumn 14 = .ok (.iconst 1, 1) := by decide +kernel
theorem dM_noColumn_15 : decode cM_noColumn 15 = .ok (.goto 4, 3) := by decide +kernel
theorem dM_noColumn_18 : decode cM_noColumn 18 = .ok (.iconst 0, 1) := by decide +kernel
theorem dM_noColumn_19 : decode cM_noColumn 19 = .ok (.ireturn, 1) := by decide +kernel
theorem dM_noTree_0 : decode cM_noTree 0 = .ok (.iload_n 1, 1) := by decide +kernel
theorem dM_noTree_1 : decode cM_noTree 1 = .ok (.iconst 0, 1) := by decide +kernel
theorem dM_noTree_2 : decode cM_noTree 2 = .ok (.aload_n 0, 1) := by decide +kernel
theorem dM_noTree_3 : decode cM_noTree 3 = .ok (.getfield 196, 3) := by decide +kernel
theorem dM_noTree_6 : decode cM_noTree 6 = .ok (.iconst 1, 1) := by decide +kernel
theorem dM_noTree_7 : decode cM_noTree 7 = .ok (.isub, 1) := by decide +kernel
theorem dM_noTree_8 : decode cM_noTree 8 = .ok (.invokestatic 227, 3) := by decide +kernel
theorem dM_noTree_11 : decode cM_noTree 11 = .ok (.ifCond .ne 7, 3) := by decide +kernel
theorem dM_noTree_14 : decode cM_noTree 14 = .ok (.iconst 1, 1) := by decide +kernel
theorem dM_noTree_15 : decode cM_noTree 15 = .ok (.goto 4, 3) := by decide +kernel
theorem dM_noTree_18 : decode cM_noTree 18 = .ok (.iconst 0, 1) := by decide +kernel
theorem dM_noTree_19 : decode cM_noTree 19 = .ok (.ireturn, 1) := by decide +kernel
theorem dM_isNumber_0 : decode cM_isNumber 0 = .ok (.iload_n 0, 1) := by decide +kernel
theorem dM_isNumber_1 : decode cM_isNumber 1 = .ok (.ldc 235, 2) := by decide +kernel
theorem dM_isNumber_3 : decode cM_isNumber 3 = .ok (.ldc 236, 2) := by decide +kernel
theorem dM_isNumber_5 : decode cM_isNumber 5 = .ok (.invokestatic 227, 3) := by decide +kernel
theorem dM_isNumber_8 : decode cM_isNumber 8 = .ok (.ireturn, 1) := by decide +kernel
theorem dM_thrown_0 : decode cM_thrown 0 = .ok (.aload_n 0, 1) := by decide +kernel
theorem dM_thrown_1 : decode cM_thrown 1 = .ok (.getfield 144, 3) := by decide +kernel
theorem dM_thrown_4 : decode cM_thrown 4 = .ok (.ireturn, 1) := by decide +kernel
theorem dM_target_0 : decode cM_target 0 = .ok (.aload_n 0, 1) := by decide +kernel
theorem dM_target_1 : decode cM_target 1 = .ok (.aload_n 0, 1) := by decide +kernel
theorem dM_target_2 : decode cM_target 2 = .ok (.iload_n 1, 1) := by decide +kernel
theorem dM_target_3 : decode cM_target 3 = .ok (.invokevirtual 240, 3) := by decide +kernel
theorem dM_target_6 : decode cM_target 6 = .ok (.ifCond .ne 16, 3) := by decide +kernel
theorem dM_target_9 : decode cM_target 9 = .ok (.iload_n 2, 1) := by decide +kernel
theorem dM_target_10 : decode cM_target 10 = .ok (.sipush (-1000), 3) := by decide +kernel
theorem dM_target_13 : decode cM_target 13 = .ok (.sipush 1000, 3) := by decide +kernel
theorem dM_target_16 : decode cM_target 16 = .ok (.invokestatic 227, 3) := by decide +kernel
theorem dM_target_19 : decode cM_target 19 = .ok (.ifCond .ne 7, 3) := by decide +kernel
theorem dM_target_22 : decode cM_target 22 = .ok (.iconst 1, 1) := by decide +kernel
theorem dM_target_23 : decode cM_target 23 = .ok (.goto 4, 3) := by decide +kernel
theorem dM_target_26 : decode cM_target 26 = .ok (.iconst 0, 1) := by decide +kernel
theorem dM_target_27 : decode cM_target 27 = .ok (.invokevirtual 231, 3) := by decide +kernel
theorem dM_target_30 : decode cM_target 30 = .ok (.ifCond .eq 5, 3) := by decide +kernel
theorem dM_target_33 : decode cM_target 33 = .ok (.iconst 0, 1) := by decide +kernel
theorem dM_target_34 : decode cM_target 34 = .ok (.ireturn, 1) := by decide +kernel
theorem dM_target_35 : decode cM_target 35 = .ok (.aload_n 0, 1) := by decide +kernel
theorem dM_target_36 : decode cM_target 36 = .ok (.getfield 13, 3) := by decide +kernel
theorem dM_target_39 : decode cM_target 39 = .ok (.iload_n 1, 1) := by decide +kernel
theorem dM_target_40 : decode cM_target 40 = .ok (.iaload, 1) := by decide +kernel
theorem dM_target_41 : decode cM_target 41 = .ok (.istore_n 3, 1) := by decide +kernel
theorem dM_target_42 : decode cM_target 42 = .ok (.aload_n 0, 1) := by decide +kernel
theorem dM_target_43 : decode cM_target 43 = .ok (.getfield 13, 3) := by decide +kernel
theorem dM_target_46 : decode cM_target 46 = .ok (.iload_n 1, 1) := by decide +kernel
theorem dM_target_47 : decode cM_target 47 = .ok (.iload_n 2, 1) := by decide +kernel
theorem dM_target_48 : decode cM_target 48 = .ok (.iastore, 1) := by decide +kernel
theorem dM_target_49 : decode cM_target 49 = .ok (.iload_n 3, 1) := by decide +kernel
theorem dM_target_50 : decode cM_target 50 = .ok (.ireturn, 1) := by decide +kernel
theorem dM_drop_0 : decode cM_drop 0 = .ok (.aload_n 0, 1) := by decide +kernel
theorem dM_drop_1 : decode cM_drop 1 = .ok (.iload_n 1, 1) := by decide +kernel
theorem dM_drop_2 : decode cM_drop 2 = .ok (.iconst 0, 1) := by decide +kernel
theorem dM_drop_3 : decode cM_drop 3 = .ok (.aload_n 0, 1) := by decide +kernel
theorem dM_drop_4 : decode cM_drop 4 = .ok (.getfield 196, 3) := by decide +kernel
theorem dM_drop_7 : decode cM_drop 7 = .ok (.invokestatic 227, 3) := by decide +kernel
theorem dM_drop_10 : decode cM_drop 10 = .ok (.ifCond .eq 7, 3) := by decide +kernel
theorem dM_drop_13 : decode cM_drop 13 = .ok (.iconst 0, 1) := by decide +kernel
theorem dM_drop_14 : decode cM_drop 14 = .ok (.goto 4, 3) := by decide +kernel
theorem dM_drop_17 : decode cM_drop 17 = .ok (.iconst 1, 1) := by decide +kernel
theorem dM_drop_18 : decode cM_drop 18 = .ok (.invokevirtual 231, 3) := by decide +kernel
theorem dM_drop_21 : decode cM_drop 21 = .ok (.ifCond .eq 5, 3) := by decide +kernel
theorem dM_drop_24 : decode cM_drop 24 = .ok (.iconst 0, 1) := by decide +kernel
theorem dM_drop_25 : decode cM_drop 25 = .ok (.ireturn, 1) := by decide +kernel
theorem dM_drop_26 : decode cM_drop 26 = .ok (.aload_n 0, 1) := by decide +kernel
theorem dM_drop_27 : decode cM_drop 27 = .ok (.getfield 196, 3) := by decide +kernel
theorem dM_drop_30 : decode cM_drop 30 = .ok (.iload_n 1, 1) := by decide +kernel
theorem dM_drop_31 : decode cM_drop 31 = .ok (.isub, 1) := by decide +kernel
theorem dM_drop_32 : decode cM_drop 32 = .ok (.istore_n 2, 1) := by decide +kernel
theorem dM_drop_33 : decode cM_drop 33 = .ok (.aload_n 0, 1) := by decide +kernel
theorem dM_drop_34 : decode cM_drop 34 = .ok (.iload_n 1, 1) := by decide +kernel
theorem dM_drop_35 : decode cM_drop 35 = .ok (.putfield 196, 3) := by decide +kernel
theorem dM_drop_38 : decode cM_drop 38 = .ok (.iload_n 2, 1) := by decide +kernel
theorem dM_drop_39 : decode cM_drop 39 = .ok (.ireturn, 1) := by decide +kernel
theorem dM_shape_0 : decode cM_shape 0 = .ok (.aload_n 0, 1) := by decide +kernel
theorem dM_shape_1 : decode cM_shape 1 = .ok (.iload_n 1, 1) := by decide +kernel
theorem dM_shape_2 : decode cM_shape 2 = .ok (.iconst 1, 1) := by decide +kernel
theorem dM_shape_3 : decode cM_shape 3 = .ok (.iconst 4, 1) := by decide +kernel
theorem dM_shape_4 : decode cM_shape 4 = .ok (.invokestatic 227, 3) := by decide +kernel
theorem dM_shape_7 : decode cM_shape 7 = .ok (.ifCond .eq 27, 3) := by decide +kernel
theorem dM_shape_10 : decode cM_shape 10 = .ok (.iload_n 2, 1) := by decide +kernel
theorem dM_shape_11 : decode cM_shape 11 = .ok (.iconst 1, 1) := by decide +kernel
theorem dM_shape_12 : decode cM_shape 12 = .ok (.bipush 24, 2) := by decide +kernel
theorem dM_shape_14 : decode cM_shape 14 = .ok (.invokestatic 227, 3) := by decide +kernel
theorem dM_shape_17 : decode cM_shape 17 = .ok (.ifCond .eq 17, 3) := by decide +kernel
theorem dM_shape_20 : decode cM_shape 20 = .ok (.iload_n 3, 1) := by decide +kernel
theorem dM_shape_21 : decode cM_shape 21 = .ok (.iconst 0, 1) := by decide +kernel
theorem dM_shape_22 : decode cM_shape 22 = .ok (.bipush 20, 2) := by decide +kernel
theorem dM_shape_24 : decode cM_shape 24 = .ok (.invokestatic 227, 3) := by decide +kernel
theorem dM_shape_27 : decode cM_shape 27 = .ok (.ifCond .eq 7, 3) := by decide +kernel
theorem dM_shape_30 : decode cM_shape 30 = .ok (.iconst 0, 1) := by decide +kernel
theorem dM_shape_31 : decode cM_shape 31 = .ok (.goto 4, 3) := by decide +kernel
theorem dM_shape_34 : decode cM_shape 34 = .ok (.iconst 1, 1) := by decide +kernel
theorem dM_shape_35 : decode cM_shape 35 = .ok (.invokevirtual 231, 3) := by decide +kernel
theorem dM_shape_38 : decode cM_shape 38 = .ok (.ifCond .ne 18, 3) := by decide +kernel
theorem dM_shape_41 : decode cM_shape 41 = .ok (.aload_n 0, 1) := by decide +kernel
theorem dM_shape_42 : decode cM_shape 42 = .ok (.iload_n 1, 1) := by decide +kernel
theorem dM_shape_43 : decode cM_shape 43 = .ok (.putfield 202, 3) := by decide +kernel
theorem dM_shape_46 : decode cM_shape 46 = .ok (.aload_n 0, 1) := by decide +kernel
theorem dM_shape_47 : decode cM_shape 47 = .ok (.iload_n 2, 1) := by decide +kernel
theorem dM_shape_48 : decode cM_shape 48 = .ok (.putfield 205, 3) := by decide +kernel
theorem dM_shape_51 : decode cM_shape 51 = .ok (.aload_n 0, 1) := by decide +kernel
theorem dM_shape_52 : decode cM_shape 52 = .ok (.iload_n 3, 1) := by decide +kernel
theorem dM_shape_53 : decode cM_shape 53 = .ok (.putfield 208, 3) := by decide +kernel
theorem dM_shape_56 : decode cM_shape 56 = .ok (.return_, 1) := by decide +kernel
theorem dM_nodes_0 : decode cM_nodes 0 = .ok (.aload_n 0, 1) := by decide +kernel
theorem dM_nodes_1 : decode cM_nodes 1 = .ok (.aload_n 0, 1) := by decide +kernel
theorem dM_nodes_2 : decode cM_nodes 2 = .ok (.iload_n 1, 1) := by decide +kernel
theorem dM_nodes_3 : decode cM_nodes 3 = .ok (.invokevirtual 389, 3) := by decide +kernel
theorem dM_nodes_6 : decode cM_nodes 6 = .ok (.ifCond .eq 7, 3) := by decide +kernel
theorem dM_nodes_9 : decode cM_nodes 9 = .ok (.iconst 1, 1) := by decide +kernel
theorem dM_nodes_10 : decode cM_nodes 10 = .ok (.goto 4, 3) := by decide +kernel
theorem dM_nodes_13 : decode cM_nodes 13 = .ok (.iconst 0, 1) := by decide +kernel
theorem dM_nodes_14 : decode cM_nodes 14 = .ok (.invokevirtual 231, 3) := by decide +kernel
theorem dM_nodes_17 : decode cM_nodes 17 = .ok (.ifCond .eq 7, 3) := by decide +kernel
theorem dM_nodes_20 : decode cM_nodes 20 = .ok (.iconst 0, 1) := by decide +kernel
theorem dM_nodes_21 : decode cM_nodes 21 = .ok (.goto 9, 3) := by decide +kernel
theorem dM_nodes_24 : decode cM_nodes 24 = .ok (.aload_n 0, 1) := by decide +kernel
theorem dM_nodes_25 : decode cM_nodes 25 = .ok (.getfield 32, 3) := by decide +kernel
theorem dM_nodes_28 : decode cM_nodes 28 = .ok (.iload_n 1, 1) := by decide +kernel
theorem dM_nodes_29 : decode cM_nodes 29 = .ok (.iaload, 1) := by decide +kernel
theorem dM_nodes_30 : decode cM_nodes 30 = .ok (.ireturn, 1) := by decide +kernel
