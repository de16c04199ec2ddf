theorem dR_kinds_0 : decode cR_kinds 0 = .ok (.aload_n 0, 1) := by decide +kernel
theorem dR_kinds_1 : decode cR_kinds 1 = .ok (.getfield 12, 3) := by decide +kernel
theorem dR_kinds_4 : decode cR_kinds 4 = .ok (.iload_n 1, 1) := by decide +kernel
theorem dR_kinds_5 : decode cR_kinds 5 = .ok (.invokevirtual 108, 3) := by decide +kernel
theorem dR_kinds_8 : decode cR_kinds 8 = .ok (.invokestatic 86, 3) := by decide +kernel
theorem dR_kinds_11 : decode cR_kinds 11 = .ok (.iload_n 2, 1) := by decide +kernel
theorem dR_kinds_12 : decode cR_kinds 12 = .ok (.ifCond .eq 25, 3) := by decide +kernel
theorem dR_kinds_15 : decode cR_kinds 15 = .ok (.aload_n 0, 1) := by decide +kernel
theorem dR_kinds_16 : decode cR_kinds 16 = .ok (.getfield 12, 3) := by decide +kernel
theorem dR_kinds_19 : decode cR_kinds 19 = .ok (.getfield 111, 3) := by decide +kernel
theorem dR_kinds_22 : decode cR_kinds 22 = .ok (.iload_n 1, 1) := by decide +kernel
theorem dR_kinds_23 : decode cR_kinds 23 = .ok (.aaload, 1) := by decide +kernel
theorem dR_kinds_24 : decode cR_kinds 24 = .ok (.aload_n 0, 1) := by decide +kernel
theorem dR_kinds_25 : decode cR_kinds 25 = .ok (.getfield 12, 3) := by decide +kernel
theorem dR_kinds_28 : decode cR_kinds 28 = .ok (.getfield 94, 3) := by decide +kernel
theorem dR_kinds_31 : decode cR_kinds 31 = .ok (.invokevirtual 127, 3) := by decide +kernel
theorem dR_kinds_34 : decode cR_kinds 34 = .ok (.ifCond .eq 7, 3) := by decide +kernel
theorem dR_kinds_37 : decode cR_kinds 37 = .ok (.iconst 1, 1) := by decide +kernel
theorem dR_kinds_38 : decode cR_kinds 38 = .ok (.goto 4, 3) := by decide +kernel
theorem dR_kinds_41 : decode cR_kinds 41 = .ok (.iconst 0, 1) := by decide +kernel
theorem dR_kinds_42 : decode cR_kinds 42 = .ok (.invokestatic 98, 3) := by decide +kernel
theorem dR_kinds_45 : decode cR_kinds 45 = .ok (.aload_n 0, 1) := by decide +kernel
theorem dR_kinds_46 : decode cR_kinds 46 = .ok (.getfield 12, 3) := by decide +kernel
theorem dR_kinds_49 : decode cR_kinds 49 = .ok (.getfield 111, 3) := by decide +kernel
theorem dR_kinds_52 : decode cR_kinds 52 = .ok (.iload_n 1, 1) := by decide +kernel
theorem dR_kinds_53 : decode cR_kinds 53 = .ok (.aaload, 1) := by decide +kernel
theorem dR_kinds_54 : decode cR_kinds 54 = .ok (.iload_n 2, 1) := by decide +kernel
theorem dR_kinds_55 : decode cR_kinds 55 = .ok (.invokevirtual 130, 3) := by decide +kernel
theorem dR_kinds_58 : decode cR_kinds 58 = .ok (.ireturn, 1) := by decide +kernel
theorem dR_edge_0 : decode cR_edge 0 = .ok (.aload_n 0, 1) := by decide +kernel
theorem dR_edge_1 : decode cR_edge 1 = .ok (.getfield 12, 3) := by decide +kernel
theorem dR_edge_4 : decode cR_edge 4 = .ok (.iload_n 1, 1) := by decide +kernel
theorem dR_edge_5 : decode cR_edge 5 = .ok (.invokevirtual 108, 3) := by decide +kernel
theorem dR_edge_8 : decode cR_edge 8 = .ok (.invokestatic 86, 3) := by decide +kernel
theorem dR_edge_11 : decode cR_edge 11 = .ok (.iload_n 2, 1) := by decide +kernel
theorem dR_edge_12 : decode cR_edge 12 = .ok (.iconst 0, 1) := by decide +kernel
theorem dR_edge_13 : decode cR_edge 13 = .ok (.aload_n 0, 1) := by decide +kernel
theorem dR_edge_14 : decode cR_edge 14 = .ok (.getfield 12, 3) := by decide +kernel
theorem dR_edge_17 : decode cR_edge 17 = .ok (.getfield 111, 3) := by decide +kernel
theorem dR_edge_20 : decode cR_edge 20 = .ok (.iload_n 1, 1) := by decide +kernel
theorem dR_edge_21 : decode cR_edge 21 = .ok (.aaload, 1) := by decide +kernel
theorem dR_edge_22 : decode cR_edge 22 = .ok (.getfield 146, 3) := by decide +kernel
theorem dR_edge_25 : decode cR_edge 25 = .ok (.iconst 1, 1) := by decide +kernel
theorem dR_edge_26 : decode cR_edge 26 = .ok (.isub, 1) := by decide +kernel
theorem dR_edge_27 : decode cR_edge 27 = .ok (.invokestatic 82, 3) := by decide +kernel
theorem dR_edge_30 : decode cR_edge 30 = .ok (.invokestatic 86, 3) := by decide +kernel
theorem dR_edge_33 : decode cR_edge 33 = .ok (.aload_n 0, 1) := by decide +kernel
theorem dR_edge_34 : decode cR_edge 34 = .ok (.getfield 12, 3) := by decide +kernel
theorem dR_edge_37 : decode cR_edge 37 = .ok (.getfield 111, 3) := by decide +kernel
theorem dR_edge_40 : decode cR_edge 40 = .ok (.iload_n 1, 1) := by decide +kernel
theorem dR_edge_41 : decode cR_edge 41 = .ok (.aaload, 1) := by decide +kernel
theorem dR_edge_42 : decode cR_edge 42 = .ok (.getfield 149, 3) := by decide +kernel
theorem dR_edge_45 : decode cR_edge 45 = .ok (.iload_n 2, 1) := by decide +kernel
theorem dR_edge_46 : decode cR_edge 46 = .ok (.iaload, 1) := by decide +kernel
theorem dR_edge_47 : decode cR_edge 47 = .ok (.ireturn, 1) := by decide +kernel
theorem dR_bin_0 : decode cR_bin 0 = .ok (.aload_n 0, 1) := by decide +kernel
theorem dR_bin_1 : decode cR_bin 1 = .ok (.getfield 12, 3) := by decide +kernel
theorem dR_bin_4 : decode cR_bin 4 = .ok (.iload_n 1, 1) := by decide +kernel
theorem dR_bin_5 : decode cR_bin 5 = .ok (.invokevirtual 108, 3) := by decide +kernel
theorem dR_bin_8 : decode cR_bin 8 = .ok (.ifCond .eq 13, 3) := by decide +kernel
theorem dR_bin_11 : decode cR_bin 11 = .ok (.iload_n 2, 1) := by decide +kernel
theorem dR_bin_12 : decode cR_bin 12 = .ok (.ldc 152, 2) := by decide +kernel
theorem dR_bin_14 : decode cR_bin 14 = .ok (.if_icmp .eq 7, 3) := by decide +kernel
theorem dR_bin_17 : decode cR_bin 17 = .ok (.iconst 1, 1) := by decide +kernel
theorem dR_bin_18 : decode cR_bin 18 = .ok (.goto 4, 3) := by decide +kernel
theorem dR_bin_21 : decode cR_bin 21 = .ok (.iconst 0, 1) := by decide +kernel
theorem dR_bin_22 : decode cR_bin 22 = .ok (.invokestatic 86, 3) := by decide +kernel
theorem dR_bin_25 : decode cR_bin 25 = .ok (.aload_n 0, 1) := by decide +kernel
theorem dR_bin_26 : decode cR_bin 26 = .ok (.getfield 12, 3) := by decide +kernel
theorem dR_bin_29 : decode cR_bin 29 = .ok (.getfield 111, 3) := by decide +kernel
theorem dR_bin_32 : decode cR_bin 32 = .ok (.iload_n 1, 1) := by decide +kernel
theorem dR_bin_33 : decode cR_bin 33 = .ok (.aaload, 1) := by decide +kernel
theorem dR_bin_34 : decode cR_bin 34 = .ok (.iload_n 2, 1) := by decide +kernel
theorem dR_bin_35 : decode cR_bin 35 = .ok (.invokevirtual 115, 3) := by decide +kernel
theorem dR_bin_38 : decode cR_bin 38 = .ok (.invokestatic 86, 3) := by decide +kernel
theorem dR_bin_41 : decode cR_bin 41 = .ok (.aload_n 0, 1) := by decide +kernel
theorem dR_bin_42 : decode cR_bin 42 = .ok (.getfield 12, 3) := by decide +kernel
theorem dR_bin_45 : decode cR_bin 45 = .ok (.getfield 111, 3) := by decide +kernel
theorem dR_bin_48 : decode cR_bin 48 = .ok (.iload_n 1, 1) := by decide +kernel
theorem dR_bin_49 : decode cR_bin 49 = .ok (.aaload, 1) := by decide +kernel
theorem dR_bin_50 : decode cR_bin 50 = .ok (.iload_n 2, 1) := by decide +kernel
theorem dR_bin_51 : decode cR_bin 51 = .ok (.invokevirtual 153, 3) := by decide +kernel
theorem dR_bin_54 : decode cR_bin 54 = .ok (.ireturn, 1) := by decide +kernel
theorem dR_shape_0 : decode cR_shape 0 = .ok (.iload_n 1, 1) := by decide +kernel
theorem dR_shape_1 : decode cR_shape 1 = .ok (.iconst 1, 1) := by decide +kernel
theorem dR_shape_2 : decode cR_shape 2 = .ok (.iconst 4, 1) := by decide +kernel
theorem dR_shape_3 : decode cR_shape 3 = .ok (.invokestatic 82, 3) := by decide +kernel
theorem dR_shape_6 : decode cR_shape 6 = .ok (.ifCond .eq 27, 3) := by decide +kernel
theorem dR_shape_9 : decode cR_shape 9 = .ok (.iload_n 2, 1) := by decide +kernel
theorem dR_shape_10 : decode cR_shape 10 = .ok (.iconst 1, 1) := by decide +kernel
theorem dR_shape_11 : decode cR_shape 11 = .ok (.bipush 24, 2) := by decide +kernel
theorem dR_shape_13 : decode cR_shape 13 = .ok (.invokestatic 82, 3) := by decide +kernel
theorem dR_shape_16 : decode cR_shape 16 = .ok (.ifCond .eq 17, 3) := by decide +kernel
theorem dR_shape_19 : decode cR_shape 19 = .ok (.iload_n 3, 1) := by decide +kernel
theorem dR_shape_20 : decode cR_shape 20 = .ok (.iconst 0, 1) := by decide +kernel
theorem dR_shape_21 : decode cR_shape 21 = .ok (.bipush 20, 2) := by decide +kernel
theorem dR_shape_23 : decode cR_shape 23 = .ok (.invokestatic 82, 3) := by decide +kernel
theorem dR_shape_26 : decode cR_shape 26 = .ok (.ifCond .eq 7, 3) := by decide +kernel
theorem dR_shape_29 : decode cR_shape 29 = .ok (.iconst 1, 1) := by decide +kernel
theorem dR_shape_30 : decode cR_shape 30 = .ok (.goto 4, 3) := by decide +kernel
theorem dR_shape_33 : decode cR_shape 33 = .ok (.iconst 0, 1) := by decide +kernel
theorem dR_shape_34 : decode cR_shape 34 = .ok (.invokestatic 86, 3) := by decide +kernel
theorem dR_shape_37 : decode cR_shape 37 = .ok (.aload_n 0, 1) := by decide +kernel
theorem dR_shape_38 : decode cR_shape 38 = .ok (.getfield 19, 3) := by decide +kernel
theorem dR_shape_41 : decode cR_shape 41 = .ok (.iload_n 1, 1) := by decide +kernel
theorem dR_shape_42 : decode cR_shape 42 = .ok (.putfield 156, 3) := by decide +kernel
theorem dR_shape_45 : decode cR_shape 45 = .ok (.aload_n 0, 1) := by decide +kernel
theorem dR_shape_46 : decode cR_shape 46 = .ok (.getfield 19, 3) := by decide +kernel
theorem dR_shape_49 : decode cR_shape 49 = .ok (.iload_n 2, 1) := by decide +kernel
theorem dR_shape_50 : decode cR_shape 50 = .ok (.putfield 159, 3) := by decide +kernel
theorem dR_shape_53 : decode cR_shape 53 = .ok (.aload_n 0, 1) := by decide +kernel
theorem dR_shape_54 : decode cR_shape 54 = .ok (.getfield 19, 3) := by decide +kernel
theorem dR_shape_57 : decode cR_shape 57 = .ok (.iload_n 3, 1) := by decide +kernel
theorem dR_shape_58 : decode cR_shape 58 = .ok (.putfield 162, 3) := by decide +kernel
theorem dR_shape_61 : decode cR_shape 61 = .ok (.return_, 1) := by decide +kernel
theorem dR_rate_0 : decode cR_rate 0 = .ok (.iload_n 2, 1) := by decide +kernel
theorem dR_rate_1 : decode cR_rate 1 = .ok (.iconst 1, 1) := by decide +kernel
theorem dR_rate_2 : decode cR_rate 2 = .ok (.bipush 16, 2) := by decide +kernel
theorem dR_rate_4 : decode cR_rate 4 = .ok (.invokestatic 82, 3) := by decide +kernel
theorem dR_rate_7 : decode cR_rate 7 = .ok (.ifCond .eq 16, 3) := by decide +kernel
theorem dR_rate_10 : decode cR_rate 10 = .ok (.iload_n 1, 1) := by decide +kernel
theorem dR_rate_11 : decode cR_rate 11 = .ok (.iconst 1, 1) := by decide +kernel
theorem dR_rate_12 : decode cR_rate 12 = .ok (.iload_n 2, 1) := by decide +kernel
theorem dR_rate_13 : decode cR_rate 13 = .ok (.invokestatic 82, 3) := by decide +kernel
theorem dR_rate_16 : decode cR_rate 16 = .ok (.ifCond .eq 7, 3) := by decide +kernel
theorem dR_rate_19 : decode cR_rate 19 = .ok (.iconst 1, 1) := by decide +kernel
theorem dR_rate_20 : decode cR_rate 20 = .ok (.goto 4, 3) := by decide +kernel
theorem dR_rate_23 : decode cR_rate 23 = .ok (.iconst 0, 1) := by decide +kernel
theorem dR_rate_24 : decode cR_rate 24 = .ok (.invokestatic 86, 3) := by decide +kernel
theorem dR_rate_27 : decode cR_rate 27 = .ok (.aload_n 0, 1) := by decide +kernel
theorem dR_rate_28 : decode cR_rate 28 = .ok (.getfield 19, 3) := by decide +kernel
theorem dR_rate_31 : decode cR_rate 31 = .ok (.iload_n 1, 1) := by decide +kernel
theorem dR_rate_32 : decode cR_rate 32 = .ok (.putfield 165, 3) := by decide +kernel
theorem dR_rate_35 : decode cR_rate 35 = .ok (.aload_n 0, 1) := by decide +kernel
theorem dR_rate_36 : decode cR_rate 36 = .ok (.getfield 19, 3) := by decide +kernel
theorem dR_rate_39 : decode cR_rate 39 = .ok (.iload_n 2, 1) := by decide +kernel
theorem dR_rate_40 : decode cR_rate 40 = .ok (.putfield 168, 3) := by decide +kernel
theorem dR_rate_43 : decode cR_rate 43 = .ok (.return_, 1) := by decide +kernel
theorem dR_sample_0 : decode cR_sample 0 = .ok (.aload_n 0, 1) := by decide +kernel
theorem dR_sample_1 : decode cR_sample 1 = .ok (.getfield 19, 3) := by decide +kernel
theorem dR_sample_4 : decode cR_sample 4 = .ok (.lload_n 1, 1) := by decide +kernel
theorem dR_sample_5 : decode cR_sample 5 = .ok (.putfield 171, 3) := by decide +kernel
theorem dR_sample_8 : decode cR_sample 8 = .ok (.aload_n 0, 1) := by decide +kernel
theorem dR_sample_9 : decode cR_sample 9 = .ok (.getfield 19, 3) := by decide +kernel
theorem dR_sample_12 : decode cR_sample 12 = .ok (.iload_n 3, 1) := by decide +kernel
theorem dR_sample_13 : decode cR_sample 13 = .ok (.putfield 175, 3) := by decide +kernel
theorem dR_sample_16 : decode cR_sample 16 = .ok (.lload_n 1, 1) := by decide +kernel
theorem dR_sample_17 : decode cR_sample 17 = .ok (.aload_n 0, 1) := by decide +kernel
theorem dR_sample_18 : decode cR_sample 18 = .ok (.getfield 12, 3) := by decide +kernel
theorem dR_sample_21 : decode cR_sample 21 = .ok (.invokevirtual 178, 3) := by decide +kernel
theorem dR_sample_24 : decode cR_sample 24 = .ok (.land, 1) := by decide +kernel
theorem dR_sample_25 : decode cR_sample 25 = .ok (.invokestatic 182, 3) := by decide +kernel
theorem dR_sample_28 : decode cR_sample 28 = .ok (.ireturn, 1) := by decide +kernel
theorem dR_drop_0 : decode cR_drop 0 = .ok (.iload_n 1, 1) := by decide +kernel
theorem dR_drop_1 : decode cR_drop 1 = .ok (.iconst 0, 1) := by decide +kernel
theorem dR_drop_2 : decode cR_drop 2 = .ok (.aload_n 0, 1) := by decide +kernel
theorem dR_drop_3 : decode cR_drop 3 = .ok (.getfield 192, 3) := by decide +kernel
theorem dR_drop_6 : decode cR_drop 6 = .ok (.invokestatic 82, 3) := by decide +kernel
theorem dR_drop_9 : decode cR_drop 9 = .ok (.invokestatic 86, 3) := by decide +kernel
theorem dR_drop_12 : decode cR_drop 12 = .ok (.aload_n 0, 1) := by decide +kernel
theorem dR_drop_13 : decode cR_drop 13 = .ok (.getfield 192, 3) := by decide +kernel
theorem dR_drop_16 : decode cR_drop 16 = .ok (.iload_n 1, 1) := by decide +kernel
theorem dR_drop_17 : decode cR_drop 17 = .ok (.isub, 1) := by decide +kernel
theorem dR_drop_18 : decode cR_drop 18 = .ok (.istore_n 2, 1) := by decide +kernel
theorem dR_drop_19 : decode cR_drop 19 = .ok (.aload_n 0, 1) := by decide +kernel
theorem dR_drop_20 : decode cR_drop 20 = .ok (.iload_n 1, 1) := by decide +kernel
theorem dR_drop_21 : decode cR_drop 21 = .ok (.putfield 192, 3) := by decide +kernel
theorem dR_drop_24 : decode cR_drop 24 = .ok (.iload_n 2, 1) := by decide +kernel
theorem dR_drop_25 : decode cR_drop 25 = .ok (.ireturn, 1) := by decide +kernel
