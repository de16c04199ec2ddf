theorem dR_begin_0 : decode cR_begin 0 = .ok (.iload_n 1, 1) := by decide +kernel
theorem dR_begin_1 : decode cR_begin 1 = .ok (.iconst 1, 1) := by decide +kernel
theorem dR_begin_2 : decode cR_begin 2 = .ok (.bipush 6, 2) := by decide +kernel
theorem dR_begin_4 : decode cR_begin 4 = .ok (.invokestatic 82, 3) := by decide +kernel
theorem dR_begin_7 : decode cR_begin 7 = .ok (.invokestatic 86, 3) := by decide +kernel
theorem dR_begin_10 : decode cR_begin 10 = .ok (.aload_n 0, 1) := by decide +kernel
theorem dR_begin_11 : decode cR_begin 11 = .ok (.iload_n 1, 1) := by decide +kernel
theorem dR_begin_12 : decode cR_begin 12 = .ok (.invokevirtual 79, 3) := by decide +kernel
theorem dR_begin_15 : decode cR_begin 15 = .ok (.return_, 1) := by decide +kernel
theorem dR_add_0 : decode cR_add 0 = .ok (.iload_n 1, 1) := by decide +kernel
theorem dR_add_1 : decode cR_add 1 = .ok (.invokestatic 90, 3) := by decide +kernel
theorem dR_add_4 : decode cR_add 4 = .ok (.invokestatic 86, 3) := by decide +kernel
theorem dR_add_7 : decode cR_add 7 = .ok (.aload_n 0, 1) := by decide +kernel
theorem dR_add_8 : decode cR_add 8 = .ok (.getfield 12, 3) := by decide +kernel
theorem dR_add_11 : decode cR_add 11 = .ok (.getfield 94, 3) := by decide +kernel
theorem dR_add_14 : decode cR_add 14 = .ok (.bipush 48, 2) := by decide +kernel
theorem dR_add_16 : decode cR_add 16 = .ok (.if_icmp .ge 7, 3) := by decide +kernel
theorem dR_add_19 : decode cR_add 19 = .ok (.iconst 1, 1) := by decide +kernel
theorem dR_add_20 : decode cR_add 20 = .ok (.goto 4, 3) := by decide +kernel
theorem dR_add_23 : decode cR_add 23 = .ok (.iconst 0, 1) := by decide +kernel
theorem dR_add_24 : decode cR_add 24 = .ok (.invokestatic 98, 3) := by decide +kernel
theorem dR_add_27 : decode cR_add 27 = .ok (.aload_n 0, 1) := by decide +kernel
theorem dR_add_28 : decode cR_add 28 = .ok (.getfield 12, 3) := by decide +kernel
theorem dR_add_31 : decode cR_add 31 = .ok (.iload_n 1, 1) := by decide +kernel
theorem dR_add_32 : decode cR_add 32 = .ok (.invokevirtual 101, 3) := by decide +kernel
theorem dR_add_35 : decode cR_add 35 = .ok (.ireturn, 1) := by decide +kernel
theorem dR_put_0 : decode cR_put 0 = .ok (.aload_n 0, 1) := by decide +kernel
theorem dR_put_1 : decode cR_put 1 = .ok (.getfield 12, 3) := by decide +kernel
theorem dR_put_4 : decode cR_put 4 = .ok (.iload_n 1, 1) := by decide +kernel
theorem dR_put_5 : decode cR_put 5 = .ok (.invokevirtual 105, 3) := by decide +kernel
theorem dR_put_8 : decode cR_put 8 = .ok (.ifCond .eq 18, 3) := by decide +kernel
theorem dR_put_11 : decode cR_put 11 = .ok (.aload_n 0, 1) := by decide +kernel
theorem dR_put_12 : decode cR_put 12 = .ok (.getfield 12, 3) := by decide +kernel
theorem dR_put_15 : decode cR_put 15 = .ok (.iload_n 2, 1) := by decide +kernel
theorem dR_put_16 : decode cR_put 16 = .ok (.invokevirtual 108, 3) := by decide +kernel
theorem dR_put_19 : decode cR_put 19 = .ok (.ifCond .eq 7, 3) := by decide +kernel
theorem dR_put_22 : decode cR_put 22 = .ok (.iconst 1, 1) := by decide +kernel
theorem dR_put_23 : decode cR_put 23 = .ok (.goto 4, 3) := by decide +kernel
theorem dR_put_26 : decode cR_put 26 = .ok (.iconst 0, 1) := by decide +kernel
theorem dR_put_27 : decode cR_put 27 = .ok (.invokestatic 86, 3) := by decide +kernel
theorem dR_put_30 : decode cR_put 30 = .ok (.aload_n 0, 1) := by decide +kernel
theorem dR_put_31 : decode cR_put 31 = .ok (.getfield 12, 3) := by decide +kernel
theorem dR_put_34 : decode cR_put 34 = .ok (.getfield 111, 3) := by decide +kernel
theorem dR_put_37 : decode cR_put 37 = .ok (.iload_n 2, 1) := by decide +kernel
theorem dR_put_38 : decode cR_put 38 = .ok (.aaload, 1) := by decide +kernel
theorem dR_put_39 : decode cR_put 39 = .ok (.iload_n 3, 1) := by decide +kernel
theorem dR_put_40 : decode cR_put 40 = .ok (.invokevirtual 115, 3) := by decide +kernel
theorem dR_put_43 : decode cR_put 43 = .ok (.invokestatic 86, 3) := by decide +kernel
theorem dR_put_46 : decode cR_put 46 = .ok (.aload_n 0, 1) := by decide +kernel
theorem dR_put_47 : decode cR_put 47 = .ok (.getfield 12, 3) := by decide +kernel
theorem dR_put_50 : decode cR_put 50 = .ok (.getfield 111, 3) := by decide +kernel
theorem dR_put_53 : decode cR_put 53 = .ok (.iload_n 2, 1) := by decide +kernel
theorem dR_put_54 : decode cR_put 54 = .ok (.aaload, 1) := by decide +kernel
theorem dR_put_55 : decode cR_put 55 = .ok (.iload_n 1, 1) := by decide +kernel
theorem dR_put_56 : decode cR_put 56 = .ok (.iload_n 3, 1) := by decide +kernel
theorem dR_put_57 : decode cR_put 57 = .ok (.invokevirtual 120, 3) := by decide +kernel
theorem dR_put_60 : decode cR_put 60 = .ok (.ireturn, 1) := by decide +kernel
theorem dR_target_0 : decode cR_target 0 = .ok (.aload_n 0, 1) := by decide +kernel
theorem dR_target_1 : decode cR_target 1 = .ok (.getfield 12, 3) := by decide +kernel
theorem dR_target_4 : decode cR_target 4 = .ok (.iload_n 1, 1) := by decide +kernel
theorem dR_target_5 : decode cR_target 5 = .ok (.invokevirtual 105, 3) := by decide +kernel
theorem dR_target_8 : decode cR_target 8 = .ok (.ifCond .eq 14, 3) := by decide +kernel
theorem dR_target_11 : decode cR_target 11 = .ok (.iload_n 2, 1) := by decide +kernel
theorem dR_target_12 : decode cR_target 12 = .ok (.invokestatic 90, 3) := by decide +kernel
theorem dR_target_15 : decode cR_target 15 = .ok (.ifCond .eq 7, 3) := by decide +kernel
theorem dR_target_18 : decode cR_target 18 = .ok (.iconst 1, 1) := by decide +kernel
theorem dR_target_19 : decode cR_target 19 = .ok (.goto 4, 3) := by decide +kernel
theorem dR_target_22 : decode cR_target 22 = .ok (.iconst 0, 1) := by decide +kernel
theorem dR_target_23 : decode cR_target 23 = .ok (.invokestatic 86, 3) := by decide +kernel
theorem dR_target_26 : decode cR_target 26 = .ok (.aload_n 0, 1) := by decide +kernel
theorem dR_target_27 : decode cR_target 27 = .ok (.getfield 12, 3) := by decide +kernel
theorem dR_target_30 : decode cR_target 30 = .ok (.getfield 124, 3) := by decide +kernel
theorem dR_target_33 : decode cR_target 33 = .ok (.iload_n 1, 1) := by decide +kernel
theorem dR_target_34 : decode cR_target 34 = .ok (.iaload, 1) := by decide +kernel
theorem dR_target_35 : decode cR_target 35 = .ok (.istore_n 3, 1) := by decide +kernel
theorem dR_target_36 : decode cR_target 36 = .ok (.aload_n 0, 1) := by decide +kernel
theorem dR_target_37 : decode cR_target 37 = .ok (.getfield 12, 3) := by decide +kernel
theorem dR_target_40 : decode cR_target 40 = .ok (.getfield 124, 3) := by decide +kernel
theorem dR_target_43 : decode cR_target 43 = .ok (.iload_n 1, 1) := by decide +kernel
theorem dR_target_44 : decode cR_target 44 = .ok (.iload_n 2, 1) := by decide +kernel
theorem dR_target_45 : decode cR_target 45 = .ok (.iastore, 1) := by decide +kernel
theorem dR_target_46 : decode cR_target 46 = .ok (.iload_n 3, 1) := by decide +kernel
theorem dR_target_47 : decode cR_target 47 = .ok (.ireturn, 1) := by decide +kernel
theorem dR_kinds_0 : decode cR_kinds 0 = .ok (.aload_n 0, 1) := by decide +kernel
theorem dR_kinds_1 : decode cR_kinds 1 = .ok (.getfield 12, 3) := by decide +kernel
theorem dR_kinds_4 : decode cR_kinds 4 = .ok (.iload_n 1, 1) := by decide +kernel
theorem dR_kinds_5 : decode cR_kinds 5 = .ok (.invokevirtual 108, 3) := by decide +kernel
theorem dR_kinds_8 : decode cR_kinds 8 = .ok (.invokestatic 86, 3) := by decide +kernel
theorem dR_kinds_11 : decode cR_kinds 11 = .ok (.iload_n 2, 1) := by decide +kernel
theorem dR_kinds_12 : decode cR_kinds 12 = .ok (.ifCond .eq 25, 3) := by decide +kernel
theorem dR_kinds_15 : decode cR_kinds 15 = .ok (.aload_n 0, 1) := by decide +kernel
theorem dR_kinds_16 : decode cR_kinds 16 = .ok (.getfield 12, 3) := by decide +kernel
theorem dR_kinds_19 : decode cR_kinds 19 = .ok (.getfield 111, 3) := by decide +kernel
theorem dR_kinds_22 : decode cR_kinds 22 = .ok (.iload_n 1, 1) := by decide +kernel
theorem dR_kinds_23 : decode cR_kinds 23 = .ok (.aaload, 1) := by decide +kernel
theorem dR_kinds_24 : decode cR_kinds 24 = .ok (.aload_n 0, 1) := by decide +kernel
theorem dR_kinds_25 : decode cR_kinds 25 = .ok (.getfield 12, 3) := by decide +kernel
theorem dR_kinds_28 : decode cR_kinds 28 = .ok (.getfield 94, 3) := by decide +kernel
theorem dR_kinds_31 : decode cR_kinds 31 = .ok (.invokevirtual 127, 3) := by decide +kernel
theorem dR_kinds_34 : decode cR_kinds 34 = .ok (.ifCond .eq 7, 3) := by decide +kernel
theorem dR_kinds_37 : decode cR_kinds 37 = .ok (.iconst 1, 1) := by decide +kernel
theorem dR_kinds_38 : decode cR_kinds 38 = .ok (.goto 4, 3) := by decide +kernel
theorem dR_kinds_41 : decode cR_kinds 41 = .ok (.iconst 0, 1) := by decide +kernel
theorem dR_kinds_42 : decode cR_kinds 42 = .ok (.invokestatic 98, 3) := by decide +kernel
theorem dR_kinds_45 : decode cR_kinds 45 = .ok (.aload_n 0, 1) := by decide +kernel
theorem dR_kinds_46 : decode cR_kinds 46 = .ok (.getfield 12, 3) := by decide +kernel
theorem dR_kinds_49 : decode cR_kinds 49 = .ok (.getfield 111, 3) := by decide +kernel
theorem dR_kinds_52 : decode cR_kinds 52 = .ok (.iload_n 1, 1) := by decide +kernel
theorem dR_kinds_53 : decode cR_kinds 53 = .ok (.aaload, 1) := by decide +kernel
theorem dR_kinds_54 : decode cR_kinds 54 = .ok (.iload_n 2, 1) := by decide +kernel
theorem dR_kinds_55 : decode cR_kinds 55 = .ok (.invokevirtual 130, 3) := by decide +kernel
theorem dR_kinds_58 : decode cR_kinds 58 = .ok (.ireturn, 1) := by decide +kernel
theorem dR_cut_0 : decode cR_cut 0 = .ok (.aload_n 0, 1) := by decide +kernel
theorem dR_cut_1 : decode cR_cut 1 = .ok (.getfield 12, 3) := by decide +kernel
theorem dR_cut_4 : decode cR_cut 4 = .ok (.iload_n 1, 1) := by decide +kernel
theorem dR_cut_5 : decode cR_cut 5 = .ok (.invokevirtual 108, 3) := by decide +kernel
theorem dR_cut_8 : decode cR_cut 8 = .ok (.ifCond .eq 17, 3) := by decide +kernel
theorem dR_cut_11 : decode cR_cut 11 = .ok (.iload_n 3, 1) := by decide +kernel
theorem dR_cut_12 : decode cR_cut 12 = .ok (.iconst 2, 1) := by decide +kernel
theorem dR_cut_13 : decode cR_cut 13 = .ok (.bipush 12, 2) := by decide +kernel
theorem dR_cut_15 : decode cR_cut 15 = .ok (.invokestatic 82, 3) := by decide +kernel
theorem dR_cut_18 : decode cR_cut 18 = .ok (.ifCond .eq 7, 3) := by decide +kernel
theorem dR_cut_21 : decode cR_cut 21 = .ok (.iconst 1, 1) := by decide +kernel
theorem dR_cut_22 : decode cR_cut 22 = .ok (.goto 4, 3) := by decide +kernel
theorem dR_cut_25 : decode cR_cut 25 = .ok (.iconst 0, 1) := by decide +kernel
theorem dR_cut_26 : decode cR_cut 26 = .ok (.invokestatic 86, 3) := by decide +kernel
theorem dR_cut_29 : decode cR_cut 29 = .ok (.aload_n 0, 1) := by decide +kernel
theorem dR_cut_30 : decode cR_cut 30 = .ok (.getfield 12, 3) := by decide +kernel
theorem dR_cut_33 : decode cR_cut 33 = .ok (.getfield 111, 3) := by decide +kernel
theorem dR_cut_36 : decode cR_cut 36 = .ok (.iload_n 1, 1) := by decide +kernel
theorem dR_cut_37 : decode cR_cut 37 = .ok (.aaload, 1) := by decide +kernel
theorem dR_cut_38 : decode cR_cut 38 = .ok (.getfield 134, 3) := by decide +kernel
theorem dR_cut_41 : decode cR_cut 41 = .ok (.ifCond .ne 7, 3) := by decide +kernel
theorem dR_cut_44 : decode cR_cut 44 = .ok (.iconst 1, 1) := by decide +kernel
theorem dR_cut_45 : decode cR_cut 45 = .ok (.goto 4, 3) := by decide +kernel
theorem dR_cut_48 : decode cR_cut 48 = .ok (.iconst 0, 1) := by decide +kernel
theorem dR_cut_49 : decode cR_cut 49 = .ok (.invokestatic 98, 3) := by decide +kernel
theorem dR_cut_52 : decode cR_cut 52 = .ok (.aload_n 0, 1) := by decide +kernel
theorem dR_cut_53 : decode cR_cut 53 = .ok (.getfield 12, 3) := by decide +kernel
theorem dR_cut_56 : decode cR_cut 56 = .ok (.getfield 111, 3) := by decide +kernel
theorem dR_cut_59 : decode cR_cut 59 = .ok (.iload_n 1, 1) := by decide +kernel
theorem dR_cut_60 : decode cR_cut 60 = .ok (.aaload, 1) := by decide +kernel
theorem dR_cut_61 : decode cR_cut 61 = .ok (.aload_n 0, 1) := by decide +kernel
theorem dR_cut_62 : decode cR_cut 62 = .ok (.getfield 54, 3) := by decide +kernel
theorem dR_cut_65 : decode cR_cut 65 = .ok (.aload_n 0, 1) := by decide +kernel
theorem dR_cut_66 : decode cR_cut 66 = .ok (.getfield 12, 3) := by decide +kernel
theorem dR_cut_69 : decode cR_cut 69 = .ok (.getfield 94, 3) := by decide +kernel
theorem dR_cut_72 : decode cR_cut 72 = .ok (.invokevirtual 138, 3) := by decide +kernel
theorem dR_cut_75 : decode cR_cut 75 = .ok (.istore 4, 2) := by decide +kernel
theorem dR_cut_77 : decode cR_cut 77 = .ok (.aload_n 0, 1) := by decide +kernel
theorem dR_cut_78 : decode cR_cut 78 = .ok (.getfield 12, 3) := by decide +kernel
theorem dR_cut_81 : decode cR_cut 81 = .ok (.getfield 111, 3) := by decide +kernel
theorem dR_cut_84 : decode cR_cut 84 = .ok (.iload_n 1, 1) := by decide +kernel
theorem dR_cut_85 : decode cR_cut 85 = .ok (.aaload, 1) := by decide +kernel
theorem dR_cut_86 : decode cR_cut 86 = .ok (.iload_n 2, 1) := by decide +kernel
theorem dR_cut_87 : decode cR_cut 87 = .ok (.iload_n 3, 1) := by decide +kernel
theorem dR_cut_88 : decode cR_cut 88 = .ok (.aload_n 0, 1) := by decide +kernel
theorem dR_cut_89 : decode cR_cut 89 = .ok (.getfield 54, 3) := by decide +kernel
theorem dR_cut_92 : decode cR_cut 92 = .ok (.iload 4, 2) := by decide +kernel
theorem dR_cut_94 : decode cR_cut 94 = .ok (.invokevirtual 142, 3) := by decide +kernel
theorem dR_cut_97 : decode cR_cut 97 = .ok (.ireturn, 1) := by decide +kernel
theorem dR_edge_0 : decode cR_edge 0 = .ok (.aload_n 0, 1) := by decide +kernel
theorem dR_edge_1 : decode cR_edge 1 = .ok (.getfield 12, 3) := by decide +kernel
theorem dR_edge_4 : decode cR_edge 4 = .ok (.iload_n 1, 1) := by decide +kernel
theorem dR_edge_5 : decode cR_edge 5 = .ok (.invokevirtual 108, 3) := by decide +kernel
theorem dR_edge_8 : decode cR_edge 8 = .ok (.invokestatic 86, 3) := by decide +kernel
theorem dR_edge_11 : decode cR_edge 11 = .ok (.iload_n 2, 1) := by decide +kernel
theorem dR_edge_12 : decode cR_edge 12 = .ok (.iconst 0, 1) := by decide +kernel
theorem dR_edge_13 : decode cR_edge 13 = .ok (.aload_n 0, 1) := by decide +kernel
theorem dR_edge_14 : decode cR_edge 14 = .ok (.getfield 12, 3) := by decide +kernel
theorem dR_edge_17 : decode cR_edge 17 = .ok (.getfield 111, 3) := by decide +kernel
theorem dR_edge_20 : decode cR_edge 20 = .ok (.iload_n 1, 1) := by decide +kernel
theorem dR_edge_21 : decode cR_edge 21 = .ok (.aaload, 1) := by decide +kernel
theorem dR_edge_22 : decode cR_edge 22 = .ok (.getfield 146, 3) := by decide +kernel
theorem dR_edge_25 : decode cR_edge 25 = .ok (.iconst 1, 1) := by decide +kernel
theorem dR_edge_26 : decode cR_edge 26 = .ok (.isub, 1) := by decide +kernel
theorem dR_edge_27 : decode cR_edge 27 = .ok (.invokestatic 82, 3) := by decide +kernel
theorem dR_edge_30 : decode cR_edge 30 = .ok (.invokestatic 86, 3) := by decide +kernel
theorem dR_edge_33 : decode cR_edge 33 = .ok (.aload_n 0, 1) := by decide +kernel
theorem dR_edge_34 : decode cR_edge 34 = .ok (.getfield 12, 3) := by decide +kernel
theorem dR_edge_37 : decode cR_edge 37 = .ok (.getfield 111, 3) := by decide +kernel
theorem dR_edge_40 : decode cR_edge 40 = .ok (.iload_n 1, 1) := by decide +kernel
theorem dR_edge_41 : decode cR_edge 41 = .ok (.aaload, 1) := by decide +kernel
theorem dR_edge_42 : decode cR_edge 42 = .ok (.getfield 149, 3) := by decide +kernel
theorem dR_edge_45 : decode cR_edge 45 = .ok (.iload_n 2, 1) := by decide +kernel
theorem dR_edge_46 : decode cR_edge 46 = .ok (.iaload, 1) := by decide +kernel
theorem dR_edge_47 : decode cR_edge 47 = .ok (.ireturn, 1) := by decide +kernel
theorem dR_bin_0 : decode cR_bin 0 = .ok (.aload_n 0, 1) := by decide +kernel
theorem dR_bin_1 : decode cR_bin 1 = .ok (.getfield 12, 3) := by decide +kernel
theorem dR_bin_4 : decode cR_bin 4 = .ok (.iload_n 1, 1) := by decide +kernel
theorem dR_bin_5 : decode cR_bin 5 = .ok (.invokevirtual 108, 3) := by decide +kernel
theorem dR_bin_8 : decode cR_bin 8 = .ok (.ifCond .eq 13, 3) := by decide +kernel
theorem dR_bin_11 : decode cR_bin 11 = .ok (.iload_n 2, 1) := by decide +kernel
theorem dR_bin_12 : decode cR_bin 12 = .ok (.ldc 152, 2) := by decide +kernel
theorem dR_bin_14 : decode cR_bin 14 = .ok (.if_icmp .eq 7, 3) := by decide +kernel
theorem dR_bin_17 : decode cR_bin 17 = .ok (.iconst 1, 1) := by decide +kernel
theorem dR_bin_18 : decode cR_bin 18 = .ok (.goto 4, 3) := by decide +kernel
theorem dR_bin_21 : decode cR_bin 21 = .ok (.iconst 0, 1) := by decide +kernel
theorem dR_bin_22 : decode cR_bin 22 = .ok (.invokestatic 86, 3) := by decide +kernel
theorem dR_bin_25 : decode cR_bin 25 = .ok (.aload_n 0, 1) := by decide +kernel
theorem dR_bin_26 : decode cR_bin 26 = .ok (.getfield 12, 3) := by decide +kernel
theorem dR_bin_29 : decode cR_bin 29 = .ok (.getfield 111, 3) := by decide +kernel
theorem dR_bin_32 : decode cR_bin 32 = .ok (.iload_n 1, 1) := by decide +kernel
theorem dR_bin_33 : decode cR_bin 33 = .ok (.aaload, 1) := by decide +kernel
theorem dR_bin_34 : decode cR_bin 34 = .ok (.iload_n 2, 1) := by decide +kernel
theorem dR_bin_35 : decode cR_bin 35 = .ok (.invokevirtual 115, 3) := by decide +kernel
theorem dR_bin_38 : decode cR_bin 38 = .ok (.invokestatic 86, 3) := by decide +kernel
theorem dR_bin_41 : decode cR_bin 41 = .ok (.aload_n 0, 1) := by decide +kernel
theorem dR_bin_42 : decode cR_bin 42 = .ok (.getfield 12, 3) := by decide +kernel
theorem dR_bin_45 : decode cR_bin 45 = .ok (.getfield 111, 3) := by decide +kernel
theorem dR_bin_48 : decode cR_bin 48 = .ok (.iload_n 1, 1) := by decide +kernel
theorem dR_bin_49 : decode cR_bin 49 = .ok (.aaload, 1) := by decide +kernel
theorem dR_bin_50 : decode cR_bin 50 = .ok (.iload_n 2, 1) := by decide +kernel
theorem dR_bin_51 : decode cR_bin 51 = .ok (.invokevirtual 153, 3) := by decide +kernel
theorem dR_bin_54 : decode cR_bin 54 = .ok (.ireturn, 1) := by decide +kernel
theorem dR_shape_0 : decode cR_shape 0 = .ok (.iload_n 1, 1) := by decide +kernel
theorem dR_shape_1 : decode cR_shape 1 = .ok (.iconst 1, 1) := by decide +kernel
theorem dR_shape_2 : decode cR_shape 2 = .ok (.iconst 4, 1) := by decide +kernel
theorem dR_shape_3 : decode cR_shape 3 = .ok (.invokestatic 82, 3) := by decide +kernel
theorem dR_shape_6 : decode cR_shape 6 = .ok (.ifCond .eq 27, 3) := by decide +kernel
theorem dR_shape_9 : decode cR_shape 9 = .ok (.iload_n 2, 1) := by decide +kernel
theorem dR_shape_10 : decode cR_shape 10 = .ok (.iconst 1, 1) := by decide +kernel
theorem dR_shape_11 : decode cR_shape 11 = .ok (.bipush 24, 2) := by decide +kernel
theorem dR_shape_13 : decode cR_shape 13 = .ok (.invokestatic 82, 3) := by decide +kernel
theorem dR_shape_16 : decode cR_shape 16 = .ok (.ifCond .eq 17, 3) := by decide +kernel
theorem dR_shape_19 : decode cR_shape 19 = .ok (.iload_n 3, 1) := by decide +kernel
theorem dR_shape_20 : decode cR_shape 20 = .ok (.iconst 0, 1) := by decide +kernel
theorem dR_shape_21 : decode cR_shape 21 = .ok (.bipush 20, 2) := by decide +kernel
theorem dR_shape_23 : decode cR_shape 23 = .ok (.invokestatic 82, 3) := by decide +kernel
theorem dR_shape_26 : decode cR_shape 26 = .ok (.ifCond .eq 7, 3) := by decide +kernel
theorem dR_shape_29 : decode cR_shape 29 = .ok (.iconst 1, 1) := by decide +kernel
theorem dR_shape_30 : decode cR_shape 30 = .ok (.goto 4, 3) := by decide +kernel
theorem dR_shape_33 : decode cR_shape 33 = .ok (.iconst 0, 1) := by decide +kernel
theorem dR_shape_34 : decode cR_shape 34 = .ok (.invokestatic 86, 3) := by decide +kernel
theorem dR_shape_37 : decode cR_shape 37 = .ok (.aload_n 0, 1) := by decide +kernel
theorem dR_shape_38 : decode cR_shape 38 = .ok (.getfield 19, 3) := by decide +kernel
theorem dR_shape_41 : decode cR_shape 41 = .ok (.iload_n 1, 1) := by decide +kernel
theorem dR_shape_42 : decode cR_shape 42 = .ok (.putfield 156, 3) := by decide +kernel
theorem dR_shape_45 : decode cR_shape 45 = .ok (.aload_n 0, 1) := by decide +kernel
theorem dR_shape_46 : decode cR_shape 46 = .ok (.getfield 19, 3) := by decide +kernel
theorem dR_shape_49 : decode cR_shape 49 = .ok (.iload_n 2, 1) := by decide +kernel
theorem dR_shape_50 : decode cR_shape 50 = .ok (.putfield 159, 3) := by decide +kernel
theorem dR_shape_53 : decode cR_shape 53 = .ok (.aload_n 0, 1) := by decide +kernel
theorem dR_shape_54 : decode cR_shape 54 = .ok (.getfield 19, 3) := by decide +kernel
theorem dR_shape_57 : decode cR_shape 57 = .ok (.iload_n 3, 1) := by decide +kernel
theorem dR_shape_58 : decode cR_shape 58 = .ok (.putfield 162, 3) := by decide +kernel
theorem dR_shape_61 : decode cR_shape 61 = .ok (.return_, 1) := by decide +kernel
theorem dR_drop_0 : decode cR_drop 0 = .ok (.iload_n 1, 1) := by decide +kernel
theorem dR_drop_1 : decode cR_drop 1 = .ok (.iconst 0, 1) := by decide +kernel
theorem dR_drop_2 : decode cR_drop 2 = .ok (.aload_n 0, 1) := by decide +kernel
theorem dR_drop_3 : decode cR_drop 3 = .ok (.getfield 192, 3) := by decide +kernel
theorem dR_drop_6 : decode cR_drop 6 = .ok (.invokestatic 82, 3) := by decide +kernel
theorem dR_drop_9 : decode cR_drop 9 = .ok (.invokestatic 86, 3) := by decide +kernel
theorem dR_drop_12 : decode cR_drop 12 = .ok (.aload_n 0, 1) := by decide +kernel
theorem dR_drop_13 : decode cR_drop 13 = .ok (.getfield 192, 3) := by decide +kernel
theorem dR_drop_16 : decode cR_drop 16 = .ok (.iload_n 1, 1) := by decide +kernel
theorem dR_drop_17 : decode cR_drop 17 = .ok (.isub, 1) := by decide +kernel
theorem dR_drop_18 : decode cR_drop 18 = .ok (.istore_n 2, 1) := by decide +kernel
theorem dR_drop_19 : decode cR_drop 19 = .ok (.aload_n 0, 1) := by decide +kernel
theorem dR_drop_20 : decode cR_drop 20 = .ok (.iload_n 1, 1) := by decide +kernel
theorem dR_drop_21 : decode cR_drop 21 = .ok (.putfield 192, 3) := by decide +kernel
theorem dR_drop_24 : decode cR_drop 24 = .ok (.iload_n 2, 1) := by decide +kernel
theorem dR_drop_25 : decode cR_drop 25 = .ok (.ireturn, 1) := by decide +kernel
theorem dR_nodes_0 : decode cR_nodes 0 = .ok (.iload_n 1, 1) := by decide +kernel
theorem dR_nodes_1 : decode cR_nodes 1 = .ok (.iconst 0, 1) := by decide +kernel
theorem dR_nodes_2 : decode cR_nodes 2 = .ok (.aload_n 0, 1) := by decide +kernel
theorem dR_nodes_3 : decode cR_nodes 3 = .ok (.getfield 192, 3) := by decide +kernel
theorem dR_nodes_6 : decode cR_nodes 6 = .ok (.iconst 1, 1) := by decide +kernel
theorem dR_nodes_7 : decode cR_nodes 7 = .ok (.isub, 1) := by decide +kernel
theorem dR_nodes_8 : decode cR_nodes 8 = .ok (.invokestatic 82, 3) := by decide +kernel
theorem dR_nodes_11 : decode cR_nodes 11 = .ok (.invokestatic 86, 3) := by decide +kernel
theorem dR_nodes_14 : decode cR_nodes 14 = .ok (.aload_n 0, 1) := by decide +kernel
theorem dR_nodes_15 : decode cR_nodes 15 = .ok (.getfield 43, 3) := by decide +kernel
theorem dR_nodes_18 : decode cR_nodes 18 = .ok (.iload_n 1, 1) := by decide +kernel
theorem dR_nodes_19 : decode cR_nodes 19 = .ok (.invokevirtual 219, 3) := by decide +kernel
theorem dR_nodes_22 : decode cR_nodes 22 = .ok (.checkcast 207, 3) := by decide +kernel
theorem dR_nodes_25 : decode cR_nodes 25 = .ok (.getfield 256, 3) := by decide +kernel
theorem dR_nodes_28 : decode cR_nodes 28 = .ok (.ireturn, 1) := by decide +kernel
theorem dR_uses_0 : decode cR_uses 0 = .ok (.aload_n 0, 1) := by decide +kernel
theorem dR_uses_1 : decode cR_uses 1 = .ok (.getfield 12, 3) := by decide +kernel
theorem dR_uses_4 : decode cR_uses 4 = .ok (.iload_n 1, 1) := by decide +kernel
theorem dR_uses_5 : decode cR_uses 5 = .ok (.invokevirtual 108, 3) := by decide +kernel
theorem dR_uses_8 : decode cR_uses 8 = .ok (.invokestatic 86, 3) := by decide +kernel
theorem dR_uses_11 : decode cR_uses 11 = .ok (.iconst 0, 1) := by decide +kernel
theorem dR_uses_12 : decode cR_uses 12 = .ok (.istore_n 2, 1) := by decide +kernel
theorem dR_uses_13 : decode cR_uses 13 = .ok (.iconst 0, 1) := by decide +kernel
theorem dR_uses_14 : decode cR_uses 14 = .ok (.istore_n 3, 1) := by decide +kernel
theorem dR_uses_15 : decode cR_uses 15 = .ok (.iload_n 3, 1) := by decide +kernel
theorem dR_uses_16 : decode cR_uses 16 = .ok (.aload_n 0, 1) := by decide +kernel
theorem dR_uses_17 : decode cR_uses 17 = .ok (.getfield 192, 3) := by decide +kernel
theorem dR_uses_20 : decode cR_uses 20 = .ok (.if_icmp .ge 27, 3) := by decide +kernel
theorem dR_uses_23 : decode cR_uses 23 = .ok (.iload_n 2, 1) := by decide +kernel
theorem dR_uses_24 : decode cR_uses 24 = .ok (.aload_n 0, 1) := by decide +kernel
theorem dR_uses_25 : decode cR_uses 25 = .ok (.getfield 43, 3) := by decide +kernel
theorem dR_uses_28 : decode cR_uses 28 = .ok (.iload_n 3, 1) := by decide +kernel
theorem dR_uses_29 : decode cR_uses 29 = .ok (.invokevirtual 219, 3) := by decide +kernel
theorem dR_uses_32 : decode cR_uses 32 = .ok (.checkcast 207, 3) := by decide +kernel
theorem dR_uses_35 : decode cR_uses 35 = .ok (.iload_n 1, 1) := by decide +kernel
theorem dR_uses_36 : decode cR_uses 36 = .ok (.invokevirtual 259, 3) := by decide +kernel
theorem dR_uses_39 : decode cR_uses 39 = .ok (.iadd, 1) := by decide +kernel
theorem dR_uses_40 : decode cR_uses 40 = .ok (.istore_n 2, 1) := by decide +kernel
theorem dR_uses_41 : decode cR_uses 41 = .ok (.iinc 3 1, 3) := by decide +kernel
theorem dR_uses_44 : decode cR_uses 44 = .ok (.goto (-29), 3) := by decide +kernel
theorem dR_uses_47 : decode cR_uses 47 = .ok (.iload_n 2, 1) := by decide +kernel
theorem dR_uses_48 : decode cR_uses 48 = .ok (.ireturn, 1) := by decide +kernel
theorem dR_residual_0 : decode cR_residual 0 = .ok (.aload_n 0, 1) := by decide +kernel
theorem dR_residual_1 : decode cR_residual 1 = .ok (.getfield 12, 3) := by decide +kernel
theorem dR_residual_4 : decode cR_residual 4 = .ok (.iload_n 1, 1) := by decide +kernel
theorem dR_residual_5 : decode cR_residual 5 = .ok (.invokevirtual 105, 3) := by decide +kernel
theorem dR_residual_8 : decode cR_residual 8 = .ok (.ifCond .eq 19, 3) := by decide +kernel
theorem dR_residual_11 : decode cR_residual 11 = .ok (.iload_n 2, 1) := by decide +kernel
theorem dR_residual_12 : decode cR_residual 12 = .ok (.iconst 0, 1) := by decide +kernel
theorem dR_residual_13 : decode cR_residual 13 = .ok (.aload_n 0, 1) := by decide +kernel
theorem dR_residual_14 : decode cR_residual 14 = .ok (.getfield 192, 3) := by decide +kernel
theorem dR_residual_17 : decode cR_residual 17 = .ok (.invokestatic 82, 3) := by decide +kernel
theorem dR_residual_20 : decode cR_residual 20 = .ok (.ifCond .eq 7, 3) := by decide +kernel
theorem dR_residual_23 : decode cR_residual 23 = .ok (.iconst 1, 1) := by decide +kernel
theorem dR_residual_24 : decode cR_residual 24 = .ok (.goto 4, 3) := by decide +kernel
theorem dR_residual_27 : decode cR_residual 27 = .ok (.iconst 0, 1) := by decide +kernel
theorem dR_residual_28 : decode cR_residual 28 = .ok (.invokestatic 86, 3) := by decide +kernel
theorem dR_residual_31 : decode cR_residual 31 = .ok (.aload_n 0, 1) := by decide +kernel
theorem dR_residual_32 : decode cR_residual 32 = .ok (.iload_n 1, 1) := by decide +kernel
theorem dR_residual_33 : decode cR_residual 33 = .ok (.iload_n 2, 1) := by decide +kernel
theorem dR_residual_34 : decode cR_residual 34 = .ok (.aload_n 0, 1) := by decide +kernel
theorem dR_residual_35 : decode cR_residual 35 = .ok (.getfield 50, 3) := by decide +kernel
theorem dR_residual_38 : decode cR_residual 38 = .ok (.getfield 269, 3) := by decide +kernel
theorem dR_residual_41 : decode cR_residual 41 = .ok (.iconst 0, 1) := by decide +kernel
theorem dR_residual_42 : decode cR_residual 42 = .ok (.aaload, 1) := by decide +kernel
theorem dR_residual_43 : decode cR_residual 43 = .ok (.invokevirtual 293, 3) := by decide +kernel
theorem dR_residual_46 : decode cR_residual 46 = .ok (.aload_n 0, 1) := by decide +kernel
theorem dR_residual_47 : decode cR_residual 47 = .ok (.aload_n 0, 1) := by decide +kernel
theorem dR_residual_48 : decode cR_residual 48 = .ok (.getfield 50, 3) := by decide +kernel
theorem dR_residual_51 : decode cR_residual 51 = .ok (.getfield 262, 3) := by decide +kernel
theorem dR_residual_54 : decode cR_residual 54 = .ok (.iload_n 2, 1) := by decide +kernel
theorem dR_residual_55 : decode cR_residual 55 = .ok (.invokevirtual 265, 3) := by decide +kernel
theorem dR_residual_58 : decode cR_residual 58 = .ok (.aload_n 0, 1) := by decide +kernel
theorem dR_residual_59 : decode cR_residual 59 = .ok (.getfield 50, 3) := by decide +kernel
theorem dR_residual_62 : decode cR_residual 62 = .ok (.invokevirtual 290, 3) := by decide +kernel
theorem dR_residual_65 : decode cR_residual 65 = .ok (.ireturn, 1) := by decide +kernel
theorem dR_predict_0 : decode cR_predict 0 = .ok (.iload_n 1, 1) := by decide +kernel
theorem dR_predict_1 : decode cR_predict 1 = .ok (.iconst 0, 1) := by decide +kernel
theorem dR_predict_2 : decode cR_predict 2 = .ok (.aload_n 0, 1) := by decide +kernel
theorem dR_predict_3 : decode cR_predict 3 = .ok (.getfield 192, 3) := by decide +kernel
theorem dR_predict_6 : decode cR_predict 6 = .ok (.invokestatic 82, 3) := by decide +kernel
theorem dR_predict_9 : decode cR_predict 9 = .ok (.invokestatic 86, 3) := by decide +kernel
theorem dR_predict_12 : decode cR_predict 12 = .ok (.aload_n 0, 1) := by decide +kernel
theorem dR_predict_13 : decode cR_predict 13 = .ok (.bipush 48, 2) := by decide +kernel
theorem dR_predict_15 : decode cR_predict 15 = .ok (.iload_n 1, 1) := by decide +kernel
theorem dR_predict_16 : decode cR_predict 16 = .ok (.aload_n 0, 1) := by decide +kernel
theorem dR_predict_17 : decode cR_predict 17 = .ok (.getfield 50, 3) := by decide +kernel
theorem dR_predict_20 : decode cR_predict 20 = .ok (.getfield 269, 3) := by decide +kernel
theorem dR_predict_23 : decode cR_predict 23 = .ok (.iconst 0, 1) := by decide +kernel
theorem dR_predict_24 : decode cR_predict 24 = .ok (.aaload, 1) := by decide +kernel
theorem dR_predict_25 : decode cR_predict 25 = .ok (.invokevirtual 293, 3) := by decide +kernel
theorem dR_predict_28 : decode cR_predict 28 = .ok (.aload_n 0, 1) := by decide +kernel
theorem dR_predict_29 : decode cR_predict 29 = .ok (.getfield 50, 3) := by decide +kernel
theorem dR_predict_32 : decode cR_predict 32 = .ok (.getfield 269, 3) := by decide +kernel
theorem dR_predict_35 : decode cR_predict 35 = .ok (.iconst 0, 1) := by decide +kernel
theorem dR_predict_36 : decode cR_predict 36 = .ok (.aaload, 1) := by decide +kernel
theorem dR_predict_37 : decode cR_predict 37 = .ok (.invokevirtual 300, 3) := by decide +kernel
theorem dR_predict_40 : decode cR_predict 40 = .ok (.aload_n 0, 1) := by decide +kernel
theorem dR_predict_41 : decode cR_predict 41 = .ok (.aload_n 0, 1) := by decide +kernel
theorem dR_predict_42 : decode cR_predict 42 = .ok (.getfield 50, 3) := by decide +kernel
theorem dR_predict_45 : decode cR_predict 45 = .ok (.getfield 262, 3) := by decide +kernel
theorem dR_predict_48 : decode cR_predict 48 = .ok (.iload_n 1, 1) := by decide +kernel
theorem dR_predict_49 : decode cR_predict 49 = .ok (.invokevirtual 265, 3) := by decide +kernel
theorem dR_predict_52 : decode cR_predict 52 = .ok (.aload_n 0, 1) := by decide +kernel
theorem dR_predict_53 : decode cR_predict 53 = .ok (.getfield 50, 3) := by decide +kernel
theorem dR_predict_56 : decode cR_predict 56 = .ok (.invokevirtual 290, 3) := by decide +kernel
theorem dR_predict_59 : decode cR_predict 59 = .ok (.ireturn, 1) := by decide +kernel
theorem dR_error_0 : decode cR_error 0 = .ok (.iload_n 3, 1) := by decide +kernel
theorem dR_error_1 : decode cR_error 1 = .ok (.iconst 0, 1) := by decide +kernel
theorem dR_error_2 : decode cR_error 2 = .ok (.aload_n 0, 1) := by decide +kernel
theorem dR_error_3 : decode cR_error 3 = .ok (.getfield 192, 3) := by decide +kernel
theorem dR_error_6 : decode cR_error 6 = .ok (.invokestatic 82, 3) := by decide +kernel
theorem dR_error_9 : decode cR_error 9 = .ok (.invokestatic 86, 3) := by decide +kernel
theorem dR_error_12 : decode cR_error 12 = .ok (.aload_n 0, 1) := by decide +kernel
theorem dR_error_13 : decode cR_error 13 = .ok (.iload_n 3, 1) := by decide +kernel
theorem dR_error_14 : decode cR_error 14 = .ok (.invokevirtual 195, 3) := by decide +kernel
theorem dR_error_17 : decode cR_error 17 = .ok (.aload_n 0, 1) := by decide +kernel
theorem dR_error_18 : decode cR_error 18 = .ok (.lload_n 1, 1) := by decide +kernel
theorem dR_error_19 : decode cR_error 19 = .ok (.aload_n 0, 1) := by decide +kernel
theorem dR_error_20 : decode cR_error 20 = .ok (.getfield 12, 3) := by decide +kernel
theorem dR_error_23 : decode cR_error 23 = .ok (.invokevirtual 178, 3) := by decide +kernel
theorem dR_error_26 : decode cR_error 26 = .ok (.land, 1) := by decide +kernel
theorem dR_error_27 : decode cR_error 27 = .ok (.invokevirtual 303, 3) := by decide +kernel
theorem dR_error_30 : decode cR_error 30 = .ok (.aload_n 0, 1) := by decide +kernel
theorem dR_error_31 : decode cR_error 31 = .ok (.getfield 50, 3) := by decide +kernel
theorem dR_error_34 : decode cR_error 34 = .ok (.getfield 269, 3) := by decide +kernel
theorem dR_error_37 : decode cR_error 37 = .ok (.iconst 0, 1) := by decide +kernel
theorem dR_error_38 : decode cR_error 38 = .ok (.aaload, 1) := by decide +kernel
theorem dR_error_39 : decode cR_error 39 = .ok (.aload_n 0, 1) := by decide +kernel
theorem dR_error_40 : decode cR_error 40 = .ok (.getfield 73, 3) := by decide +kernel
theorem dR_error_43 : decode cR_error 43 = .ok (.invokevirtual 275, 3) := by decide +kernel
theorem dR_error_46 : decode cR_error 46 = .ok (.aload_n 0, 1) := by decide +kernel
theorem dR_error_47 : decode cR_error 47 = .ok (.aload_n 0, 1) := by decide +kernel
theorem dR_error_48 : decode cR_error 48 = .ok (.getfield 67, 3) := by decide +kernel
theorem dR_error_51 : decode cR_error 51 = .ok (.iload_n 3, 1) := by decide +kernel
theorem dR_error_52 : decode cR_error 52 = .ok (.invokevirtual 265, 3) := by decide +kernel
theorem dR_error_55 : decode cR_error 55 = .ok (.aload_n 0, 1) := by decide +kernel
theorem dR_error_56 : decode cR_error 56 = .ok (.getfield 50, 3) := by decide +kernel
theorem dR_error_59 : decode cR_error 59 = .ok (.getfield 262, 3) := by decide +kernel
theorem dR_error_62 : decode cR_error 62 = .ok (.aload_n 0, 1) := by decide +kernel
theorem dR_error_63 : decode cR_error 63 = .ok (.getfield 67, 3) := by decide +kernel
theorem dR_error_66 : decode cR_error 66 = .ok (.aload_n 0, 1) := by decide +kernel
theorem dR_error_67 : decode cR_error 67 = .ok (.getfield 67, 3) := by decide +kernel
theorem dR_error_70 : decode cR_error 70 = .ok (.invokevirtual 306, 3) := by decide +kernel
theorem dR_error_73 : decode cR_error 73 = .ok (.aload_n 0, 1) := by decide +kernel
theorem dR_error_74 : decode cR_error 74 = .ok (.getfield 50, 3) := by decide +kernel
theorem dR_error_77 : decode cR_error 77 = .ok (.invokevirtual 290, 3) := by decide +kernel
theorem dR_error_80 : decode cR_error 80 = .ok (.ireturn, 1) := by decide +kernel
theorem dR_train_0 : decode cR_train 0 = .ok (.iload_n 1, 1) := by decide +kernel
theorem dR_train_1 : decode cR_train 1 = .ok (.iconst 1, 1) := by decide +kernel
theorem dR_train_2 : decode cR_train 2 = .ok (.bipush 16, 2) := by decide +kernel
theorem dR_train_4 : decode cR_train 4 = .ok (.invokestatic 82, 3) := by decide +kernel
theorem dR_train_7 : decode cR_train 7 = .ok (.invokestatic 86, 3) := by decide +kernel
theorem dR_train_10 : decode cR_train 10 = .ok (.aload_n 0, 1) := by decide +kernel
theorem dR_train_11 : decode cR_train 11 = .ok (.getfield 19, 3) := by decide +kernel
theorem dR_train_14 : decode cR_train 14 = .ok (.getfield 171, 3) := by decide +kernel
theorem dR_train_17 : decode cR_train 17 = .ok (.aload_n 0, 1) := by decide +kernel
theorem dR_train_18 : decode cR_train 18 = .ok (.getfield 12, 3) := by decide +kernel
theorem dR_train_21 : decode cR_train 21 = .ok (.invokevirtual 178, 3) := by decide +kernel
theorem dR_train_24 : decode cR_train 24 = .ok (.land, 1) := by decide +kernel
theorem dR_train_25 : decode cR_train 25 = .ok (.lstore_n 2, 1) := by decide +kernel
theorem dR_train_26 : decode cR_train 26 = .ok (.lload_n 2, 1) := by decide +kernel
theorem dR_train_27 : decode cR_train 27 = .ok (.lconst 0, 1) := by decide +kernel
theorem dR_train_28 : decode cR_train 28 = .ok (.lcmp, 1) := by decide +kernel
theorem dR_train_29 : decode cR_train 29 = .ok (.ifCond .eq 25, 3) := by decide +kernel
theorem dR_train_32 : decode cR_train 32 = .ok (.aload_n 0, 1) := by decide +kernel
theorem dR_train_33 : decode cR_train 33 = .ok (.getfield 19, 3) := by decide +kernel
theorem dR_train_36 : decode cR_train 36 = .ok (.getfield 175, 3) := by decide +kernel
theorem dR_train_39 : decode cR_train 39 = .ok (.aload_n 0, 1) := by decide +kernel
theorem dR_train_40 : decode cR_train 40 = .ok (.getfield 12, 3) := by decide +kernel
theorem dR_train_43 : decode cR_train 43 = .ok (.invokevirtual 188, 3) := by decide +kernel
theorem dR_train_46 : decode cR_train 46 = .ok (.iand, 1) := by decide +kernel
theorem dR_train_47 : decode cR_train 47 = .ok (.ifCond .eq 7, 3) := by decide +kernel
theorem dR_train_50 : decode cR_train 50 = .ok (.iconst 1, 1) := by decide +kernel
theorem dR_train_51 : decode cR_train 51 = .ok (.goto 4, 3) := by decide +kernel
theorem dR_train_54 : decode cR_train 54 = .ok (.iconst 0, 1) := by decide +kernel
theorem dR_train_55 : decode cR_train 55 = .ok (.invokestatic 98, 3) := by decide +kernel
theorem dR_train_58 : decode cR_train 58 = .ok (.aload_n 0, 1) := by decide +kernel
theorem dR_train_59 : decode cR_train 59 = .ok (.getfield 192, 3) := by decide +kernel
theorem dR_train_62 : decode cR_train 62 = .ok (.iload_n 1, 1) := by decide +kernel
theorem dR_train_63 : decode cR_train 63 = .ok (.iadd, 1) := by decide +kernel
theorem dR_train_64 : decode cR_train 64 = .ok (.bipush 16, 2) := by decide +kernel
theorem dR_train_66 : decode cR_train 66 = .ok (.if_icmp .gt 7, 3) := by decide +kernel
theorem dR_train_69 : decode cR_train 69 = .ok (.iconst 1, 1) := by decide +kernel
theorem dR_train_70 : decode cR_train 70 = .ok (.goto 4, 3) := by decide +kernel
theorem dR_train_73 : decode cR_train 73 = .ok (.iconst 0, 1) := by decide +kernel
theorem dR_train_74 : decode cR_train 74 = .ok (.invokestatic 98, 3) := by decide +kernel
theorem dR_train_77 : decode cR_train 77 = .ok (.aload_n 0, 1) := by decide +kernel
theorem dR_train_78 : decode cR_train 78 = .ok (.getfield 192, 3) := by decide +kernel
theorem dR_train_81 : decode cR_train 81 = .ok (.istore 4, 2) := by decide +kernel
theorem dR_train_83 : decode cR_train 83 = .ok (.iconst 0, 1) := by decide +kernel
theorem dR_train_84 : decode cR_train 84 = .ok (.istore 5, 2) := by decide +kernel
theorem dR_train_86 : decode cR_train 86 = .ok (.iload 5, 2) := by decide +kernel
theorem dR_train_88 : decode cR_train 88 = .ok (.iload_n 1, 1) := by decide +kernel
theorem dR_train_89 : decode cR_train 89 = .ok (.if_icmp .ge 77, 3) := by decide +kernel
theorem dR_train_92 : decode cR_train 92 = .ok (.aload_n 0, 1) := by decide +kernel
theorem dR_train_93 : decode cR_train 93 = .ok (.aload_n 0, 1) := by decide +kernel
theorem dR_train_94 : decode cR_train 94 = .ok (.getfield 192, 3) := by decide +kernel
theorem dR_train_97 : decode cR_train 97 = .ok (.invokevirtual 195, 3) := by decide +kernel
theorem dR_train_100 : decode cR_train 100 = .ok (.aload_n 0, 1) := by decide +kernel
theorem dR_train_101 : decode cR_train 101 = .ok (.invokevirtual 198, 3) := by decide +kernel
theorem dR_train_104 : decode cR_train 104 = .ok (.astore 6, 2) := by decide +kernel
theorem dR_train_106 : decode cR_train 106 = .ok (.aload_n 0, 1) := by decide +kernel
theorem dR_train_107 : decode cR_train 107 = .ok (.getfield 36, 3) := by decide +kernel
theorem dR_train_110 : decode cR_train 110 = .ok (.aload 6, 2) := by decide +kernel
theorem dR_train_112 : decode cR_train 112 = .ok (.lload_n 2, 1) := by decide +kernel
theorem dR_train_113 : decode cR_train 113 = .ok (.iconst 0, 1) := by decide +kernel
theorem dR_train_114 : decode cR_train 114 = .ok (.invokevirtual 202, 3) := by decide +kernel
theorem dR_train_117 : decode cR_train 117 = .ok (.pop, 1) := by decide +kernel
theorem dR_train_118 : decode cR_train 118 = .ok (.aload 6, 2) := by decide +kernel
theorem dR_train_120 : decode cR_train 120 = .ok (.aload_n 0, 1) := by decide +kernel
theorem dR_train_121 : decode cR_train 121 = .ok (.getfield 19, 3) := by decide +kernel
theorem dR_train_124 : decode cR_train 124 = .ok (.invokevirtual 206, 3) := by decide +kernel
theorem dR_train_127 : decode cR_train 127 = .ok (.aload_n 0, 1) := by decide +kernel
theorem dR_train_128 : decode cR_train 128 = .ok (.dup, 1) := by decide +kernel
theorem dR_train_129 : decode cR_train 129 = .ok (.getfield 192, 3) := by decide +kernel
theorem dR_train_132 : decode cR_train 132 = .ok (.iconst 1, 1) := by decide +kernel
theorem dR_train_133 : decode cR_train 133 = .ok (.iadd, 1) := by decide +kernel
theorem dR_train_134 : decode cR_train 134 = .ok (.putfield 192, 3) := by decide +kernel
theorem dR_train_137 : decode cR_train 137 = .ok (.aload_n 0, 1) := by decide +kernel
theorem dR_train_138 : decode cR_train 138 = .ok (.invokevirtual 212, 3) := by decide +kernel
theorem dR_train_141 : decode cR_train 141 = .ok (.sipush 1500, 3) := by decide +kernel
theorem dR_train_144 : decode cR_train 144 = .ok (.if_icmp .le 16, 3) := by decide +kernel
theorem dR_train_147 : decode cR_train 147 = .ok (.aload_n 0, 1) := by decide +kernel
theorem dR_train_148 : decode cR_train 148 = .ok (.dup, 1) := by decide +kernel
theorem dR_train_149 : decode cR_train 149 = .ok (.getfield 192, 3) := by decide +kernel
theorem dR_train_152 : decode cR_train 152 = .ok (.iconst 1, 1) := by decide +kernel
theorem dR_train_153 : decode cR_train 153 = .ok (.isub, 1) := by decide +kernel
theorem dR_train_154 : decode cR_train 154 = .ok (.putfield 192, 3) := by decide +kernel
theorem dR_train_157 : decode cR_train 157 = .ok (.goto 9, 3) := by decide +kernel
theorem dR_train_160 : decode cR_train 160 = .ok (.iinc 5 1, 3) := by decide +kernel
theorem dR_train_163 : decode cR_train 163 = .ok (.goto (-77), 3) := by decide +kernel
theorem dR_train_166 : decode cR_train 166 = .ok (.aload_n 0, 1) := by decide +kernel
theorem dR_train_167 : decode cR_train 167 = .ok (.getfield 192, 3) := by decide +kernel
theorem dR_train_170 : decode cR_train 170 = .ok (.iload 4, 2) := by decide +kernel
theorem dR_train_172 : decode cR_train 172 = .ok (.isub, 1) := by decide +kernel
theorem dR_train_173 : decode cR_train 173 = .ok (.ireturn, 1) := by decide +kernel
theorem dR_rate_0 : decode cR_rate 0 = .ok (.iload_n 2, 1) := by decide +kernel
theorem dR_rate_1 : decode cR_rate 1 = .ok (.iconst 1, 1) := by decide +kernel
theorem dR_rate_2 : decode cR_rate 2 = .ok (.bipush 16, 2) := by decide +kernel
theorem dR_rate_4 : decode cR_rate 4 = .ok (.invokestatic 82, 3) := by decide +kernel
theorem dR_rate_7 : decode cR_rate 7 = .ok (.ifCond .eq 16, 3) := by decide +kernel
theorem dR_rate_10 : decode cR_rate 10 = .ok (.iload_n 1, 1) := by decide +kernel
theorem dR_rate_11 : decode cR_rate 11 = .ok (.iconst 1, 1) := by decide +kernel
theorem dR_rate_12 : decode cR_rate 12 = .ok (.iload_n 2, 1) := by decide +kernel
theorem dR_rate_13 : decode cR_rate 13 = .ok (.invokestatic 82, 3) := by decide +kernel
theorem dR_rate_16 : decode cR_rate 16 = .ok (.ifCond .eq 7, 3) := by decide +kernel
theorem dR_rate_19 : decode cR_rate 19 = .ok (.iconst 1, 1) := by decide +kernel
theorem dR_rate_20 : decode cR_rate 20 = .ok (.goto 4, 3) := by decide +kernel
theorem dR_rate_23 : decode cR_rate 23 = .ok (.iconst 0, 1) := by decide +kernel
theorem dR_rate_24 : decode cR_rate 24 = .ok (.invokestatic 86, 3) := by decide +kernel
theorem dR_rate_27 : decode cR_rate 27 = .ok (.aload_n 0, 1) := by decide +kernel
theorem dR_rate_28 : decode cR_rate 28 = .ok (.getfield 19, 3) := by decide +kernel
theorem dR_rate_31 : decode cR_rate 31 = .ok (.iload_n 1, 1) := by decide +kernel
theorem dR_rate_32 : decode cR_rate 32 = .ok (.putfield 165, 3) := by decide +kernel
theorem dR_rate_35 : decode cR_rate 35 = .ok (.aload_n 0, 1) := by decide +kernel
theorem dR_rate_36 : decode cR_rate 36 = .ok (.getfield 19, 3) := by decide +kernel
theorem dR_rate_39 : decode cR_rate 39 = .ok (.iload_n 2, 1) := by decide +kernel
theorem dR_rate_40 : decode cR_rate 40 = .ok (.putfield 168, 3) := by decide +kernel
theorem dR_rate_43 : decode cR_rate 43 = .ok (.return_, 1) := by decide +kernel
theorem dR_ask_0 : decode cR_ask 0 = .ok (.aload_n 0, 1) := by decide +kernel
theorem dR_ask_1 : decode cR_ask 1 = .ok (.getfield 12, 3) := by decide +kernel
theorem dR_ask_4 : decode cR_ask 4 = .ok (.iload_n 1, 1) := by decide +kernel
theorem dR_ask_5 : decode cR_ask 5 = .ok (.invokevirtual 108, 3) := by decide +kernel
theorem dR_ask_8 : decode cR_ask 8 = .ok (.ifCond .eq 20, 3) := by decide +kernel
theorem dR_ask_11 : decode cR_ask 11 = .ok (.iload_n 2, 1) := by decide +kernel
theorem dR_ask_12 : decode cR_ask 12 = .ok (.ldc 152, 2) := by decide +kernel
theorem dR_ask_14 : decode cR_ask 14 = .ok (.if_icmp .eq 10, 3) := by decide +kernel
theorem dR_ask_17 : decode cR_ask 17 = .ok (.iload_n 2, 1) := by decide +kernel
theorem dR_ask_18 : decode cR_ask 18 = .ok (.invokestatic 297, 3) := by decide +kernel
theorem dR_ask_21 : decode cR_ask 21 = .ok (.ifCond .eq 7, 3) := by decide +kernel
theorem dR_ask_24 : decode cR_ask 24 = .ok (.iconst 1, 1) := by decide +kernel
theorem dR_ask_25 : decode cR_ask 25 = .ok (.goto 4, 3) := by decide +kernel
theorem dR_ask_28 : decode cR_ask 28 = .ok (.iconst 0, 1) := by decide +kernel
theorem dR_ask_29 : decode cR_ask 29 = .ok (.invokestatic 86, 3) := by decide +kernel
theorem dR_ask_32 : decode cR_ask 32 = .ok (.aload_n 0, 1) := by decide +kernel
theorem dR_ask_33 : decode cR_ask 33 = .ok (.getfield 12, 3) := by decide +kernel
theorem dR_ask_36 : decode cR_ask 36 = .ok (.getfield 111, 3) := by decide +kernel
theorem dR_ask_39 : decode cR_ask 39 = .ok (.iload_n 1, 1) := by decide +kernel
theorem dR_ask_40 : decode cR_ask 40 = .ok (.aaload, 1) := by decide +kernel
theorem dR_ask_41 : decode cR_ask 41 = .ok (.bipush 48, 2) := by decide +kernel
theorem dR_ask_43 : decode cR_ask 43 = .ok (.iload_n 2, 1) := by decide +kernel
theorem dR_ask_44 : decode cR_ask 44 = .ok (.invokevirtual 120, 3) := by decide +kernel
theorem dR_ask_47 : decode cR_ask 47 = .ok (.ireturn, 1) := by decide +kernel
theorem dR_hasNode_0 : decode cR_hasNode 0 = .ok (.iload_n 1, 1) := by decide +kernel
theorem dR_hasNode_1 : decode cR_hasNode 1 = .ok (.iconst 0, 1) := by decide +kernel
theorem dR_hasNode_2 : decode cR_hasNode 2 = .ok (.aload_n 0, 1) := by decide +kernel
theorem dR_hasNode_3 : decode cR_hasNode 3 = .ok (.getfield 192, 3) := by decide +kernel
theorem dR_hasNode_6 : decode cR_hasNode 6 = .ok (.iconst 1, 1) := by decide +kernel
theorem dR_hasNode_7 : decode cR_hasNode 7 = .ok (.isub, 1) := by decide +kernel
theorem dR_hasNode_8 : decode cR_hasNode 8 = .ok (.invokestatic 82, 3) := by decide +kernel
theorem dR_hasNode_11 : decode cR_hasNode 11 = .ok (.ifCond .eq 31, 3) := by decide +kernel
theorem dR_hasNode_14 : decode cR_hasNode 14 = .ok (.iload_n 2, 1) := by decide +kernel
theorem dR_hasNode_15 : decode cR_hasNode 15 = .ok (.iconst 0, 1) := by decide +kernel
theorem dR_hasNode_16 : decode cR_hasNode 16 = .ok (.aload_n 0, 1) := by decide +kernel
theorem dR_hasNode_17 : decode cR_hasNode 17 = .ok (.getfield 43, 3) := by decide +kernel
theorem dR_hasNode_20 : decode cR_hasNode 20 = .ok (.iload_n 1, 1) := by decide +kernel
theorem dR_hasNode_21 : decode cR_hasNode 21 = .ok (.invokevirtual 219, 3) := by decide +kernel
theorem dR_hasNode_24 : decode cR_hasNode 24 = .ok (.checkcast 207, 3) := by decide +kernel
theorem dR_hasNode_27 : decode cR_hasNode 27 = .ok (.getfield 256, 3) := by decide +kernel
theorem dR_hasNode_30 : decode cR_hasNode 30 = .ok (.iconst 1, 1) := by decide +kernel
theorem dR_hasNode_31 : decode cR_hasNode 31 = .ok (.isub, 1) := by decide +kernel
theorem dR_hasNode_32 : decode cR_hasNode 32 = .ok (.invokestatic 82, 3) := by decide +kernel
theorem dR_hasNode_35 : decode cR_hasNode 35 = .ok (.ifCond .eq 7, 3) := by decide +kernel
theorem dR_hasNode_38 : decode cR_hasNode 38 = .ok (.iconst 1, 1) := by decide +kernel
theorem dR_hasNode_39 : decode cR_hasNode 39 = .ok (.goto 4, 3) := by decide +kernel
theorem dR_hasNode_42 : decode cR_hasNode 42 = .ok (.iconst 0, 1) := by decide +kernel
theorem dR_hasNode_43 : decode cR_hasNode 43 = .ok (.ireturn, 1) := by decide +kernel
theorem dR_node_0 : decode cR_node 0 = .ok (.aload_n 0, 1) := by decide +kernel
theorem dR_node_1 : decode cR_node 1 = .ok (.iload_n 1, 1) := by decide +kernel
theorem dR_node_2 : decode cR_node 2 = .ok (.iload_n 2, 1) := by decide +kernel
theorem dR_node_3 : decode cR_node 3 = .ok (.invokevirtual 215, 3) := by decide +kernel
theorem dR_node_6 : decode cR_node 6 = .ok (.invokestatic 86, 3) := by decide +kernel
theorem dR_node_9 : decode cR_node 9 = .ok (.aload_n 0, 1) := by decide +kernel
theorem dR_node_10 : decode cR_node 10 = .ok (.getfield 43, 3) := by decide +kernel
theorem dR_node_13 : decode cR_node 13 = .ok (.iload_n 1, 1) := by decide +kernel
theorem dR_node_14 : decode cR_node 14 = .ok (.invokevirtual 219, 3) := by decide +kernel
theorem dR_node_17 : decode cR_node 17 = .ok (.checkcast 207, 3) := by decide +kernel
theorem dR_node_20 : decode cR_node 20 = .ok (.iload_n 2, 1) := by decide +kernel
theorem dR_node_21 : decode cR_node 21 = .ok (.invokevirtual 223, 3) := by decide +kernel
theorem dR_node_24 : decode cR_node 24 = .ok (.astore 4, 2) := by decide +kernel
theorem dR_node_26 : decode cR_node 26 = .ok (.iload_n 3, 1) := by decide +kernel
theorem dR_node_27 : decode cR_node 27 = .ok (.tableswitch 109 0 7 #[45, 51, 57, 71, 77, 83, 89, 95], 45) := by decide +kernel
theorem dR_node_72 : decode cR_node 72 = .ok (.aload 4, 2) := by decide +kernel
theorem dR_node_74 : decode cR_node 74 = .ok (.getfield 227, 3) := by decide +kernel
theorem dR_node_77 : decode cR_node 77 = .ok (.ireturn, 1) := by decide +kernel
theorem dR_node_78 : decode cR_node 78 = .ok (.aload 4, 2) := by decide +kernel
theorem dR_node_80 : decode cR_node 80 = .ok (.getfield 232, 3) := by decide +kernel
theorem dR_node_83 : decode cR_node 83 = .ok (.ireturn, 1) := by decide +kernel
theorem dR_node_84 : decode cR_node 84 = .ok (.aload 4, 2) := by decide +kernel
theorem dR_node_86 : decode cR_node 86 = .ok (.getfield 235, 3) := by decide +kernel
theorem dR_node_89 : decode cR_node 89 = .ok (.ifCond .eq 7, 3) := by decide +kernel
theorem dR_node_92 : decode cR_node 92 = .ok (.iconst 1, 1) := by decide +kernel
theorem dR_node_93 : decode cR_node 93 = .ok (.goto 4, 3) := by decide +kernel
theorem dR_node_96 : decode cR_node 96 = .ok (.iconst 0, 1) := by decide +kernel
theorem dR_node_97 : decode cR_node 97 = .ok (.ireturn, 1) := by decide +kernel
theorem dR_node_98 : decode cR_node 98 = .ok (.aload 4, 2) := by decide +kernel
theorem dR_node_100 : decode cR_node 100 = .ok (.getfield 238, 3) := by decide +kernel
theorem dR_node_103 : decode cR_node 103 = .ok (.ireturn, 1) := by decide +kernel
theorem dR_node_104 : decode cR_node 104 = .ok (.aload 4, 2) := by decide +kernel
theorem dR_node_106 : decode cR_node 106 = .ok (.getfield 241, 3) := by decide +kernel
theorem dR_node_109 : decode cR_node 109 = .ok (.ireturn, 1) := by decide +kernel
theorem dR_node_110 : decode cR_node 110 = .ok (.aload 4, 2) := by decide +kernel
theorem dR_node_112 : decode cR_node 112 = .ok (.getfield 244, 3) := by decide +kernel
theorem dR_node_115 : decode cR_node 115 = .ok (.ireturn, 1) := by decide +kernel
theorem dR_node_116 : decode cR_node 116 = .ok (.aload 4, 2) := by decide +kernel
theorem dR_node_118 : decode cR_node 118 = .ok (.getfield 245, 3) := by decide +kernel
theorem dR_node_121 : decode cR_node 121 = .ok (.ireturn, 1) := by decide +kernel
theorem dR_node_122 : decode cR_node 122 = .ok (.aload 4, 2) := by decide +kernel
theorem dR_node_124 : decode cR_node 124 = .ok (.getfield 246, 3) := by decide +kernel
theorem dR_node_127 : decode cR_node 127 = .ok (.ifCond .eq 7, 3) := by decide +kernel
theorem dR_node_130 : decode cR_node 130 = .ok (.iconst 1, 1) := by decide +kernel
theorem dR_node_131 : decode cR_node 131 = .ok (.goto 4, 3) := by decide +kernel
theorem dR_node_134 : decode cR_node 134 = .ok (.iconst 0, 1) := by decide +kernel
theorem dR_node_135 : decode cR_node 135 = .ok (.ireturn, 1) := by decide +kernel
theorem dR_node_136 : decode cR_node 136 = .ok (.new 247, 3) := by decide +kernel
theorem dR_node_139 : decode cR_node 139 = .ok (.dup, 1) := by decide +kernel
theorem dR_node_140 : decode cR_node 140 = .ok (.invokespecial 249, 3) := by decide +kernel
theorem dR_node_143 : decode cR_node 143 = .ok (.athrow, 1) := by decide +kernel
theorem dR_tell_0 : decode cR_tell 0 = .ok (.aload_n 0, 1) := by decide +kernel
theorem dR_tell_1 : decode cR_tell 1 = .ok (.iload_n 1, 1) := by decide +kernel
theorem dR_tell_2 : decode cR_tell 2 = .ok (.iload_n 2, 1) := by decide +kernel
theorem dR_tell_3 : decode cR_tell 3 = .ok (.invokevirtual 215, 3) := by decide +kernel
theorem dR_tell_6 : decode cR_tell 6 = .ok (.invokestatic 86, 3) := by decide +kernel
theorem dR_tell_9 : decode cR_tell 9 = .ok (.aload_n 0, 1) := by decide +kernel
theorem dR_tell_10 : decode cR_tell 10 = .ok (.getfield 43, 3) := by decide +kernel
theorem dR_tell_13 : decode cR_tell 13 = .ok (.iload_n 1, 1) := by decide +kernel
theorem dR_tell_14 : decode cR_tell 14 = .ok (.invokevirtual 219, 3) := by decide +kernel
theorem dR_tell_17 : decode cR_tell 17 = .ok (.checkcast 207, 3) := by decide +kernel
theorem dR_tell_20 : decode cR_tell 20 = .ok (.astore_n 3, 1) := by decide +kernel
theorem dR_tell_21 : decode cR_tell 21 = .ok (.aload_n 3, 1) := by decide +kernel
theorem dR_tell_22 : decode cR_tell 22 = .ok (.iload_n 2, 1) := by decide +kernel
theorem dR_tell_23 : decode cR_tell 23 = .ok (.invokevirtual 223, 3) := by decide +kernel
theorem dR_tell_26 : decode cR_tell 26 = .ok (.astore 4, 2) := by decide +kernel
theorem dR_tell_28 : decode cR_tell 28 = .ok (.aload_n 0, 1) := by decide +kernel
theorem dR_tell_29 : decode cR_tell 29 = .ok (.aload_n 0, 1) := by decide +kernel
theorem dR_tell_30 : decode cR_tell 30 = .ok (.getfield 50, 3) := by decide +kernel
theorem dR_tell_33 : decode cR_tell 33 = .ok (.getfield 262, 3) := by decide +kernel
theorem dR_tell_36 : decode cR_tell 36 = .ok (.iload_n 1, 1) := by decide +kernel
theorem dR_tell_37 : decode cR_tell 37 = .ok (.invokevirtual 265, 3) := by decide +kernel
theorem dR_tell_40 : decode cR_tell 40 = .ok (.aload 4, 2) := by decide +kernel
theorem dR_tell_42 : decode cR_tell 42 = .ok (.getfield 227, 3) := by decide +kernel
theorem dR_tell_45 : decode cR_tell 45 = .ok (.iconst (-1), 1) := by decide +kernel
theorem dR_tell_46 : decode cR_tell 46 = .ok (.if_icmp .ne 66, 3) := by decide +kernel
theorem dR_tell_49 : decode cR_tell 49 = .ok (.aload_n 0, 1) := by decide +kernel
theorem dR_tell_50 : decode cR_tell 50 = .ok (.getfield 50, 3) := by decide +kernel
theorem dR_tell_53 : decode cR_tell 53 = .ok (.getfield 269, 3) := by decide +kernel
theorem dR_tell_56 : decode cR_tell 56 = .ok (.iconst 0, 1) := by decide +kernel
theorem dR_tell_57 : decode cR_tell 57 = .ok (.aaload, 1) := by decide +kernel
theorem dR_tell_58 : decode cR_tell 58 = .ok (.aload 4, 2) := by decide +kernel
theorem dR_tell_60 : decode cR_tell 60 = .ok (.getfield 272, 3) := by decide +kernel
theorem dR_tell_63 : decode cR_tell 63 = .ok (.invokevirtual 275, 3) := by decide +kernel
theorem dR_tell_66 : decode cR_tell 66 = .ok (.aload_n 0, 1) := by decide +kernel
theorem dR_tell_67 : decode cR_tell 67 = .ok (.getfield 50, 3) := by decide +kernel
theorem dR_tell_70 : decode cR_tell 70 = .ok (.getfield 269, 3) := by decide +kernel
theorem dR_tell_73 : decode cR_tell 73 = .ok (.iconst 0, 1) := by decide +kernel
theorem dR_tell_74 : decode cR_tell 74 = .ok (.aaload, 1) := by decide +kernel
theorem dR_tell_75 : decode cR_tell 75 = .ok (.aload_n 3, 1) := by decide +kernel
theorem dR_tell_76 : decode cR_tell 76 = .ok (.getfield 279, 3) := by decide +kernel
theorem dR_tell_79 : decode cR_tell 79 = .ok (.i2l, 1) := by decide +kernel
theorem dR_tell_80 : decode cR_tell 80 = .ok (.invokevirtual 280, 3) := by decide +kernel
theorem dR_tell_83 : decode cR_tell 83 = .ok (.aload_n 0, 1) := by decide +kernel
theorem dR_tell_84 : decode cR_tell 84 = .ok (.getfield 50, 3) := by decide +kernel
theorem dR_tell_87 : decode cR_tell 87 = .ok (.getfield 262, 3) := by decide +kernel
theorem dR_tell_90 : decode cR_tell 90 = .ok (.aload_n 3, 1) := by decide +kernel
theorem dR_tell_91 : decode cR_tell 91 = .ok (.getfield 284, 3) := by decide +kernel
theorem dR_tell_94 : decode cR_tell 94 = .ok (.aload 4, 2) := by decide +kernel
theorem dR_tell_96 : decode cR_tell 96 = .ok (.getfield 244, 3) := by decide +kernel
theorem dR_tell_99 : decode cR_tell 99 = .ok (.aload_n 3, 1) := by decide +kernel
theorem dR_tell_100 : decode cR_tell 100 = .ok (.getfield 285, 3) := by decide +kernel
theorem dR_tell_103 : decode cR_tell 103 = .ok (.iadd, 1) := by decide +kernel
theorem dR_tell_104 : decode cR_tell 104 = .ok (.imul, 1) := by decide +kernel
theorem dR_tell_105 : decode cR_tell 105 = .ok (.i2l, 1) := by decide +kernel
theorem dR_tell_106 : decode cR_tell 106 = .ok (.invokevirtual 280, 3) := by decide +kernel
theorem dR_tell_109 : decode cR_tell 109 = .ok (.goto 10, 3) := by decide +kernel
theorem dR_tell_112 : decode cR_tell 112 = .ok (.aload_n 0, 1) := by decide +kernel
theorem dR_tell_113 : decode cR_tell 113 = .ok (.aload_n 3, 1) := by decide +kernel
theorem dR_tell_114 : decode cR_tell 114 = .ok (.aload 4, 2) := by decide +kernel
theorem dR_tell_116 : decode cR_tell 116 = .ok (.invokevirtual 286, 3) := by decide +kernel
theorem dR_tell_119 : decode cR_tell 119 = .ok (.aload_n 0, 1) := by decide +kernel
theorem dR_tell_120 : decode cR_tell 120 = .ok (.getfield 50, 3) := by decide +kernel
theorem dR_tell_123 : decode cR_tell 123 = .ok (.invokevirtual 290, 3) := by decide +kernel
theorem dR_tell_126 : decode cR_tell 126 = .ok (.ireturn, 1) := by decide +kernel
theorem dR_count_0 : decode cR_count 0 = .ok (.iload_n 1, 1) := by decide +kernel
theorem dR_count_1 : decode cR_count 1 = .ok (.tableswitch 69 0 4 #[35, 43, 51, 56, 61], 35) := by decide +kernel
theorem dR_count_36 : decode cR_count 36 = .ok (.aload_n 0, 1) := by decide +kernel
theorem dR_count_37 : decode cR_count 37 = .ok (.getfield 12, 3) := by decide +kernel
theorem dR_count_40 : decode cR_count 40 = .ok (.getfield 250, 3) := by decide +kernel
theorem dR_count_43 : decode cR_count 43 = .ok (.ireturn, 1) := by decide +kernel
theorem dR_count_44 : decode cR_count 44 = .ok (.aload_n 0, 1) := by decide +kernel
theorem dR_count_45 : decode cR_count 45 = .ok (.getfield 12, 3) := by decide +kernel
theorem dR_count_48 : decode cR_count 48 = .ok (.getfield 94, 3) := by decide +kernel
theorem dR_count_51 : decode cR_count 51 = .ok (.ireturn, 1) := by decide +kernel
theorem dR_count_52 : decode cR_count 52 = .ok (.aload_n 0, 1) := by decide +kernel
theorem dR_count_53 : decode cR_count 53 = .ok (.getfield 192, 3) := by decide +kernel
theorem dR_count_56 : decode cR_count 56 = .ok (.ireturn, 1) := by decide +kernel
theorem dR_count_57 : decode cR_count 57 = .ok (.aload_n 0, 1) := by decide +kernel
theorem dR_count_58 : decode cR_count 58 = .ok (.invokevirtual 212, 3) := by decide +kernel
theorem dR_count_61 : decode cR_count 61 = .ok (.ireturn, 1) := by decide +kernel
theorem dR_count_62 : decode cR_count 62 = .ok (.aload_n 0, 1) := by decide +kernel
theorem dR_count_63 : decode cR_count 63 = .ok (.getfield 50, 3) := by decide +kernel
theorem dR_count_66 : decode cR_count 66 = .ok (.getfield 253, 3) := by decide +kernel
theorem dR_count_69 : decode cR_count 69 = .ok (.ireturn, 1) := by decide +kernel
theorem dR_count_70 : decode cR_count 70 = .ok (.new 247, 3) := by decide +kernel
theorem dR_count_73 : decode cR_count 73 = .ok (.dup, 1) := by decide +kernel
theorem dR_count_74 : decode cR_count 74 = .ok (.invokespecial 249, 3) := by decide +kernel
theorem dR_count_77 : decode cR_count 77 = .ok (.athrow, 1) := by decide +kernel
