theorem dTr_at_0 : decode cTr_at 0 = .ok (.aload_n 0, 1) := by decide +kernel
theorem dTr_at_1 : decode cTr_at 1 = .ok (.getfield 12, 3) := by decide +kernel
theorem dTr_at_4 : decode cTr_at 4 = .ok (.iload_n 1, 1) := by decide +kernel
theorem dTr_at_5 : decode cTr_at 5 = .ok (.invokevirtual 18, 3) := by decide +kernel
theorem dTr_at_8 : decode cTr_at 8 = .ok (.checkcast 22, 3) := by decide +kernel
theorem dTr_at_11 : decode cTr_at 11 = .ok (.areturn, 1) := by decide +kernel
theorem dR_hasNode_0 : decode cR_hasNode 0 = .ok (.iload_n 1, 1) := by decide +kernel
theorem dR_hasNode_1 : decode cR_hasNode 1 = .ok (.iconst 0, 1) := by decide +kernel
theorem dR_hasNode_2 : decode cR_hasNode 2 = .ok (.aload_n 0, 1) := by decide +kernel
theorem dR_hasNode_3 : decode cR_hasNode 3 = .ok (.getfield 192, 3) := by decide +kernel
theorem dR_hasNode_6 : decode cR_hasNode 6 = .ok (.iconst 1, 1) := by decide +kernel
theorem dR_hasNode_7 : decode cR_hasNode 7 = .ok (.isub, 1) := by decide +kernel
theorem dR_hasNode_8 : decode cR_hasNode 8 = .ok (.invokestatic 82, 3) := by decide +kernel
theorem dR_hasNode_11 : decode cR_hasNode 11 = .ok (.ifCond .eq 31, 3) := by decide +kernel
theorem dR_hasNode_14 : decode cR_hasNode 14 = .ok (.iload_n 2, 1) := by decide +kernel
theorem dR_hasNode_15 : decode cR_hasNode 15 = .ok (.iconst 0, 1) := by decide +kernel
theorem dR_hasNode_16 : decode cR_hasNode 16 = .ok (.aload_n 0, 1) := by decide +kernel
theorem dR_hasNode_17 : decode cR_hasNode 17 = .ok (.getfield 43, 3) := by decide +kernel
theorem dR_hasNode_20 : decode cR_hasNode 20 = .ok (.iload_n 1, 1) := by decide +kernel
theorem dR_hasNode_21 : decode cR_hasNode 21 = .ok (.invokevirtual 219, 3) := by decide +kernel
theorem dR_hasNode_24 : decode cR_hasNode 24 = .ok (.checkcast 207, 3) := by decide +kernel
theorem dR_hasNode_27 : decode cR_hasNode 27 = .ok (.getfield 256, 3) := by decide +kernel
theorem dR_hasNode_30 : decode cR_hasNode 30 = .ok (.iconst 1, 1) := by decide +kernel
theorem dR_hasNode_31 : decode cR_hasNode 31 = .ok (.isub, 1) := by decide +kernel
theorem dR_hasNode_32 : decode cR_hasNode 32 = .ok (.invokestatic 82, 3) := by decide +kernel
theorem dR_hasNode_35 : decode cR_hasNode 35 = .ok (.ifCond .eq 7, 3) := by decide +kernel
theorem dR_hasNode_38 : decode cR_hasNode 38 = .ok (.iconst 1, 1) := by decide +kernel
theorem dR_hasNode_39 : decode cR_hasNode 39 = .ok (.goto 4, 3) := by decide +kernel
theorem dR_hasNode_42 : decode cR_hasNode 42 = .ok (.iconst 0, 1) := by decide +kernel
theorem dR_hasNode_43 : decode cR_hasNode 43 = .ok (.ireturn, 1) := by decide +kernel
theorem dR_node_0 : decode cR_node 0 = .ok (.aload_n 0, 1) := by decide +kernel
theorem dR_node_1 : decode cR_node 1 = .ok (.iload_n 1, 1) := by decide +kernel
theorem dR_node_2 : decode cR_node 2 = .ok (.iload_n 2, 1) := by decide +kernel
theorem dR_node_3 : decode cR_node 3 = .ok (.invokevirtual 215, 3) := by decide +kernel
theorem dR_node_6 : decode cR_node 6 = .ok (.invokestatic 86, 3) := by decide +kernel
theorem dR_node_9 : decode cR_node 9 = .ok (.aload_n 0, 1) := by decide +kernel
theorem dR_node_10 : decode cR_node 10 = .ok (.getfield 43, 3) := by decide +kernel
theorem dR_node_13 : decode cR_node 13 = .ok (.iload_n 1, 1) := by decide +kernel
theorem dR_node_14 : decode cR_node 14 = .ok (.invokevirtual 219, 3) := by decide +kernel
theorem dR_node_17 : decode cR_node 17 = .ok (.checkcast 207, 3) := by decide +kernel
theorem dR_node_20 : decode cR_node 20 = .ok (.iload_n 2, 1) := by decide +kernel
theorem dR_node_21 : decode cR_node 21 = .ok (.invokevirtual 223, 3) := by decide +kernel
theorem dR_node_24 : decode cR_node 24 = .ok (.astore 4, 2) := by decide +kernel
theorem dR_node_26 : decode cR_node 26 = .ok (.iload_n 3, 1) := by decide +kernel
theorem dR_node_27 : decode cR_node 27 = .ok (.tableswitch 109 0 7 #[45, 51, 57, 71, 77, 83, 89, 95], 45) := by decide +kernel
theorem dR_node_72 : decode cR_node 72 = .ok (.aload 4, 2) := by decide +kernel
theorem dR_node_74 : decode cR_node 74 = .ok (.getfield 227, 3) := by decide +kernel
theorem dR_node_77 : decode cR_node 77 = .ok (.ireturn, 1) := by decide +kernel
theorem dR_node_78 : decode cR_node 78 = .ok (.aload 4, 2) := by decide +kernel
theorem dR_node_80 : decode cR_node 80 = .ok (.getfield 232, 3) := by decide +kernel
theorem dR_node_83 : decode cR_node 83 = .ok (.ireturn, 1) := by decide +kernel
theorem dR_node_84 : decode cR_node 84 = .ok (.aload 4, 2) := by decide +kernel
theorem dR_node_86 : decode cR_node 86 = .ok (.getfield 235, 3) := by decide +kernel
theorem dR_node_89 : decode cR_node 89 = .ok (.ifCond .eq 7, 3) := by decide +kernel
theorem dR_node_92 : decode cR_node 92 = .ok (.iconst 1, 1) := by decide +kernel
theorem dR_node_93 : decode cR_node 93 = .ok (.goto 4, 3) := by decide +kernel
theorem dR_node_96 : decode cR_node 96 = .ok (.iconst 0, 1) := by decide +kernel
theorem dR_node_97 : decode cR_node 97 = .ok (.ireturn, 1) := by decide +kernel
theorem dR_node_98 : decode cR_node 98 = .ok (.aload 4, 2) := by decide +kernel
theorem dR_node_100 : decode cR_node 100 = .ok (.getfield 238, 3) := by decide +kernel
theorem dR_node_103 : decode cR_node 103 = .ok (.ireturn, 1) := by decide +kernel
theorem dR_node_104 : decode cR_node 104 = .ok (.aload 4, 2) := by decide +kernel
theorem dR_node_106 : decode cR_node 106 = .ok (.getfield 241, 3) := by decide +kernel
theorem dR_node_109 : decode cR_node 109 = .ok (.ireturn, 1) := by decide +kernel
theorem dR_node_110 : decode cR_node 110 = .ok (.aload 4, 2) := by decide +kernel
theorem dR_node_112 : decode cR_node 112 = .ok (.getfield 244, 3) := by decide +kernel
theorem dR_node_115 : decode cR_node 115 = .ok (.ireturn, 1) := by decide +kernel
theorem dR_node_116 : decode cR_node 116 = .ok (.aload 4, 2) := by decide +kernel
theorem dR_node_118 : decode cR_node 118 = .ok (.getfield 245, 3) := by decide +kernel
theorem dR_node_121 : decode cR_node 121 = .ok (.ireturn, 1) := by decide +kernel
theorem dR_node_122 : decode cR_node 122 = .ok (.aload 4, 2) := by decide +kernel
theorem dR_node_124 : decode cR_node 124 = .ok (.getfield 246, 3) := by decide +kernel
theorem dR_node_127 : decode cR_node 127 = .ok (.ifCond .eq 7, 3) := by decide +kernel
theorem dR_node_130 : decode cR_node 130 = .ok (.iconst 1, 1) := by decide +kernel
theorem dR_node_131 : decode cR_node 131 = .ok (.goto 4, 3) := by decide +kernel
theorem dR_node_134 : decode cR_node 134 = .ok (.iconst 0, 1) := by decide +kernel
theorem dR_node_135 : decode cR_node 135 = .ok (.ireturn, 1) := by decide +kernel
theorem dR_node_136 : decode cR_node 136 = .ok (.new 247, 3) := by decide +kernel
theorem dR_node_139 : decode cR_node 139 = .ok (.dup, 1) := by decide +kernel
theorem dR_node_140 : decode cR_node 140 = .ok (.invokespecial 249, 3) := by decide +kernel
theorem dR_node_143 : decode cR_node 143 = .ok (.athrow, 1) := by decide +kernel
theorem dR_nodes_0 : decode cR_nodes 0 = .ok (.iload_n 1, 1) := by decide +kernel
theorem dR_nodes_1 : decode cR_nodes 1 = .ok (.iconst 0, 1) := by decide +kernel
theorem dR_nodes_2 : decode cR_nodes 2 = .ok (.aload_n 0, 1) := by decide +kernel
theorem dR_nodes_3 : decode cR_nodes 3 = .ok (.getfield 192, 3) := by decide +kernel
theorem dR_nodes_6 : decode cR_nodes 6 = .ok (.iconst 1, 1) := by decide +kernel
theorem dR_nodes_7 : decode cR_nodes 7 = .ok (.isub, 1) := by decide +kernel
theorem dR_nodes_8 : decode cR_nodes 8 = .ok (.invokestatic 82, 3) := by decide +kernel
theorem dR_nodes_11 : decode cR_nodes 11 = .ok (.invokestatic 86, 3) := by decide +kernel
theorem dR_nodes_14 : decode cR_nodes 14 = .ok (.aload_n 0, 1) := by decide +kernel
theorem dR_nodes_15 : decode cR_nodes 15 = .ok (.getfield 43, 3) := by decide +kernel
theorem dR_nodes_18 : decode cR_nodes 18 = .ok (.iload_n 1, 1) := by decide +kernel
theorem dR_nodes_19 : decode cR_nodes 19 = .ok (.invokevirtual 219, 3) := by decide +kernel
theorem dR_nodes_22 : decode cR_nodes 22 = .ok (.checkcast 207, 3) := by decide +kernel
theorem dR_nodes_25 : decode cR_nodes 25 = .ok (.getfield 256, 3) := by decide +kernel
theorem dR_nodes_28 : decode cR_nodes 28 = .ok (.ireturn, 1) := by decide +kernel
theorem dR_uses_0 : decode cR_uses 0 = .ok (.aload_n 0, 1) := by decide +kernel
theorem dR_uses_1 : decode cR_uses 1 = .ok (.getfield 12, 3) := by decide +kernel
theorem dR_uses_4 : decode cR_uses 4 = .ok (.iload_n 1, 1) := by decide +kernel
theorem dR_uses_5 : decode cR_uses 5 = .ok (.invokevirtual 108, 3) := by decide +kernel
theorem dR_uses_8 : decode cR_uses 8 = .ok (.invokestatic 86, 3) := by decide +kernel
theorem dR_uses_11 : decode cR_uses 11 = .ok (.iconst 0, 1) := by decide +kernel
theorem dR_uses_12 : decode cR_uses 12 = .ok (.istore_n 2, 1) := by decide +kernel
theorem dR_uses_13 : decode cR_uses 13 = .ok (.iconst 0, 1) := by decide +kernel
theorem dR_uses_14 : decode cR_uses 14 = .ok (.istore_n 3, 1) := by decide +kernel
theorem dR_uses_15 : decode cR_uses 15 = .ok (.iload_n 3, 1) := by decide +kernel
theorem dR_uses_16 : decode cR_uses 16 = .ok (.aload_n 0, 1) := by decide +kernel
theorem dR_uses_17 : decode cR_uses 17 = .ok (.getfield 192, 3) := by decide +kernel
theorem dR_uses_20 : decode cR_uses 20 = .ok (.if_icmp .ge 27, 3) := by decide +kernel
theorem dR_uses_23 : decode cR_uses 23 = .ok (.iload_n 2, 1) := by decide +kernel
theorem dR_uses_24 : decode cR_uses 24 = .ok (.aload_n 0, 1) := by decide +kernel
theorem dR_uses_25 : decode cR_uses 25 = .ok (.getfield 43, 3) := by decide +kernel
theorem dR_uses_28 : decode cR_uses 28 = .ok (.iload_n 3, 1) := by decide +kernel
theorem dR_uses_29 : decode cR_uses 29 = .ok (.invokevirtual 219, 3) := by decide +kernel
theorem dR_uses_32 : decode cR_uses 32 = .ok (.checkcast 207, 3) := by decide +kernel
theorem dR_uses_35 : decode cR_uses 35 = .ok (.iload_n 1, 1) := by decide +kernel
theorem dR_uses_36 : decode cR_uses 36 = .ok (.invokevirtual 259, 3) := by decide +kernel
theorem dR_uses_39 : decode cR_uses 39 = .ok (.iadd, 1) := by decide +kernel
theorem dR_uses_40 : decode cR_uses 40 = .ok (.istore_n 2, 1) := by decide +kernel
theorem dR_uses_41 : decode cR_uses 41 = .ok (.iinc 3 1, 3) := by decide +kernel
theorem dR_uses_44 : decode cR_uses 44 = .ok (.goto (-29), 3) := by decide +kernel
theorem dR_uses_47 : decode cR_uses 47 = .ok (.iload_n 2, 1) := by decide +kernel
theorem dR_uses_48 : decode cR_uses 48 = .ok (.ireturn, 1) := by decide +kernel
theorem dR_count_0 : decode cR_count 0 = .ok (.iload_n 1, 1) := by decide +kernel
theorem dR_count_1 : decode cR_count 1 = .ok (.tableswitch 69 0 4 #[35, 43, 51, 56, 61], 35) := by decide +kernel
theorem dR_count_36 : decode cR_count 36 = .ok (.aload_n 0, 1) := by decide +kernel
theorem dR_count_37 : decode cR_count 37 = .ok (.getfield 12, 3) := by decide +kernel
theorem dR_count_40 : decode cR_count 40 = .ok (.getfield 250, 3) := by decide +kernel
theorem dR_count_43 : decode cR_count 43 = .ok (.ireturn, 1) := by decide +kernel
theorem dR_count_44 : decode cR_count 44 = .ok (.aload_n 0, 1) := by decide +kernel
theorem dR_count_45 : decode cR_count 45 = .ok (.getfield 12, 3) := by decide +kernel
theorem dR_count_48 : decode cR_count 48 = .ok (.getfield 94, 3) := by decide +kernel
theorem dR_count_51 : decode cR_count 51 = .ok (.ireturn, 1) := by decide +kernel
theorem dR_count_52 : decode cR_count 52 = .ok (.aload_n 0, 1) := by decide +kernel
theorem dR_count_53 : decode cR_count 53 = .ok (.getfield 192, 3) := by decide +kernel
theorem dR_count_56 : decode cR_count 56 = .ok (.ireturn, 1) := by decide +kernel
theorem dR_count_57 : decode cR_count 57 = .ok (.aload_n 0, 1) := by decide +kernel
theorem dR_count_58 : decode cR_count 58 = .ok (.invokevirtual 212, 3) := by decide +kernel
theorem dR_count_61 : decode cR_count 61 = .ok (.ireturn, 1) := by decide +kernel
theorem dR_count_62 : decode cR_count 62 = .ok (.aload_n 0, 1) := by decide +kernel
theorem dR_count_63 : decode cR_count 63 = .ok (.getfield 50, 3) := by decide +kernel
theorem dR_count_66 : decode cR_count 66 = .ok (.getfield 253, 3) := by decide +kernel
theorem dR_count_69 : decode cR_count 69 = .ok (.ireturn, 1) := by decide +kernel
theorem dR_count_70 : decode cR_count 70 = .ok (.new 247, 3) := by decide +kernel
theorem dR_count_73 : decode cR_count 73 = .ok (.dup, 1) := by decide +kernel
theorem dR_count_74 : decode cR_count 74 = .ok (.invokespecial 249, 3) := by decide +kernel
theorem dR_count_77 : decode cR_count 77 = .ok (.athrow, 1) := by decide +kernel
theorem dR_byteAt_0 : decode cR_byteAt 0 = .ok (.iload_n 1, 1) := by decide +kernel
theorem dR_byteAt_1 : decode cR_byteAt 1 = .ok (.iconst 0, 1) := by decide +kernel
theorem dR_byteAt_2 : decode cR_byteAt 2 = .ok (.aload_n 0, 1) := by decide +kernel
theorem dR_byteAt_3 : decode cR_byteAt 3 = .ok (.getfield 50, 3) := by decide +kernel
theorem dR_byteAt_6 : decode cR_byteAt 6 = .ok (.getfield 253, 3) := by decide +kernel
theorem dR_byteAt_9 : decode cR_byteAt 9 = .ok (.iconst 1, 1) := by decide +kernel
theorem dR_byteAt_10 : decode cR_byteAt 10 = .ok (.isub, 1) := by decide +kernel
theorem dR_byteAt_11 : decode cR_byteAt 11 = .ok (.invokestatic 82, 3) := by decide +kernel
theorem dR_byteAt_14 : decode cR_byteAt 14 = .ok (.ifCond .eq 15, 3) := by decide +kernel
theorem dR_byteAt_17 : decode cR_byteAt 17 = .ok (.aload_n 0, 1) := by decide +kernel
theorem dR_byteAt_18 : decode cR_byteAt 18 = .ok (.getfield 50, 3) := by decide +kernel
theorem dR_byteAt_21 : decode cR_byteAt 21 = .ok (.getfield 321, 3) := by decide +kernel
theorem dR_byteAt_24 : decode cR_byteAt 24 = .ok (.iload_n 1, 1) := by decide +kernel
theorem dR_byteAt_25 : decode cR_byteAt 25 = .ok (.baload, 1) := by decide +kernel
theorem dR_byteAt_26 : decode cR_byteAt 26 = .ok (.goto 4, 3) := by decide +kernel
theorem dR_byteAt_29 : decode cR_byteAt 29 = .ok (.iconst (-1), 1) := by decide +kernel
theorem dR_byteAt_30 : decode cR_byteAt 30 = .ok (.ireturn, 1) := by decide +kernel
