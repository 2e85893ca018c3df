theorem dM_init_0 : decode cM_init 0 = .ok (.aload_n 0, 1) := by decide +kernel
theorem dM_init_1 : decode cM_init 1 = .ok (.invokespecial 1, 3) := by decide +kernel
theorem dM_init_4 : decode cM_init 4 = .ok (.aload_n 0, 1) := by decide +kernel
theorem dM_init_5 : decode cM_init 5 = .ok (.iconst 1, 1) := by decide +kernel
theorem dM_init_6 : decode cM_init 6 = .ok (.putfield 7, 3) := by decide +kernel
theorem dM_init_9 : decode cM_init 9 = .ok (.aload_n 0, 1) := by decide +kernel
theorem dM_init_10 : decode cM_init 10 = .ok (.bipush 14, 2) := by decide +kernel
theorem dM_init_12 : decode cM_init 12 = .ok (.newarray .int, 2) := by decide +kernel
theorem dM_init_14 : decode cM_init 14 = .ok (.putfield 13, 3) := by decide +kernel
theorem dM_init_17 : decode cM_init 17 = .ok (.aload_n 0, 1) := by decide +kernel
theorem dM_init_18 : decode cM_init 18 = .ok (.bipush 14, 2) := by decide +kernel
theorem dM_init_20 : decode cM_init 20 = .ok (.newarray .int, 2) := by decide +kernel
theorem dM_init_22 : decode cM_init 22 = .ok (.putfield 17, 3) := by decide +kernel
theorem dM_init_25 : decode cM_init 25 = .ok (.aload_n 0, 1) := by decide +kernel
theorem dM_init_26 : decode cM_init 26 = .ok (.bipush 9, 2) := by decide +kernel
theorem dM_init_28 : decode cM_init 28 = .ok (.newarray .int, 2) := by decide +kernel
theorem dM_init_30 : decode cM_init 30 = .ok (.putfield 20, 3) := by decide +kernel
theorem dM_init_33 : decode cM_init 33 = .ok (.aload_n 0, 1) := by decide +kernel
theorem dM_init_34 : decode cM_init 34 = .ok (.bipush 9, 2) := by decide +kernel
theorem dM_init_36 : decode cM_init 36 = .ok (.newarray .int, 2) := by decide +kernel
theorem dM_init_38 : decode cM_init 38 = .ok (.putfield 23, 3) := by decide +kernel
theorem dM_init_41 : decode cM_init 41 = .ok (.return_, 1) := by decide +kernel
theorem dM_isVertex_0 : decode cM_isVertex 0 = .ok (.iload_n 1, 1) := by decide +kernel
theorem dM_isVertex_1 : decode cM_isVertex 1 = .ok (.ifCond .lt 15, 3) := by decide +kernel
theorem dM_isVertex_4 : decode cM_isVertex 4 = .ok (.iload_n 1, 1) := by decide +kernel
theorem dM_isVertex_5 : decode cM_isVertex 5 = .ok (.aload_n 0, 1) := by decide +kernel
theorem dM_isVertex_6 : decode cM_isVertex 6 = .ok (.getfield 7, 3) := by decide +kernel
theorem dM_isVertex_9 : decode cM_isVertex 9 = .ok (.if_icmp .ge 7, 3) := by decide +kernel
theorem dM_isVertex_12 : decode cM_isVertex 12 = .ok (.iconst 1, 1) := by decide +kernel
theorem dM_isVertex_13 : decode cM_isVertex 13 = .ok (.goto 4, 3) := by decide +kernel
theorem dM_isVertex_16 : decode cM_isVertex 16 = .ok (.iconst 0, 1) := by decide +kernel
theorem dM_isVertex_17 : decode cM_isVertex 17 = .ok (.ireturn, 1) := by decide +kernel
theorem dM_isEdge_0 : decode cM_isEdge 0 = .ok (.iload_n 1, 1) := by decide +kernel
theorem dM_isEdge_1 : decode cM_isEdge 1 = .ok (.ifCond .lt 15, 3) := by decide +kernel
theorem dM_isEdge_4 : decode cM_isEdge 4 = .ok (.iload_n 1, 1) := by decide +kernel
theorem dM_isEdge_5 : decode cM_isEdge 5 = .ok (.aload_n 0, 1) := by decide +kernel
theorem dM_isEdge_6 : decode cM_isEdge 6 = .ok (.getfield 26, 3) := by decide +kernel
theorem dM_isEdge_9 : decode cM_isEdge 9 = .ok (.if_icmp .ge 7, 3) := by decide +kernel
theorem dM_isEdge_12 : decode cM_isEdge 12 = .ok (.iconst 1, 1) := by decide +kernel
theorem dM_isEdge_13 : decode cM_isEdge 13 = .ok (.goto 4, 3) := by decide +kernel
theorem dM_isEdge_16 : decode cM_isEdge 16 = .ok (.iconst 0, 1) := by decide +kernel
theorem dM_isEdge_17 : decode cM_isEdge 17 = .ok (.ireturn, 1) := by decide +kernel
theorem dM_begin_0 : decode cM_begin 0 = .ok (.iload_n 1, 1) := by decide +kernel
theorem dM_begin_1 : decode cM_begin 1 = .ok (.iconst 1, 1) := by decide +kernel
theorem dM_begin_2 : decode cM_begin 2 = .ok (.if_icmp .lt 9, 3) := by decide +kernel
theorem dM_begin_5 : decode cM_begin 5 = .ok (.iload_n 1, 1) := by decide +kernel
theorem dM_begin_6 : decode cM_begin 6 = .ok (.bipush 9, 2) := by decide +kernel
theorem dM_begin_8 : decode cM_begin 8 = .ok (.if_icmp .le 5, 3) := by decide +kernel
theorem dM_begin_11 : decode cM_begin 11 = .ok (.iconst 0, 1) := by decide +kernel
theorem dM_begin_12 : decode cM_begin 12 = .ok (.ireturn, 1) := by decide +kernel
theorem dM_begin_13 : decode cM_begin 13 = .ok (.aload_n 0, 1) := by decide +kernel
theorem dM_begin_14 : decode cM_begin 14 = .ok (.iload_n 1, 1) := by decide +kernel
theorem dM_begin_15 : decode cM_begin 15 = .ok (.putfield 7, 3) := by decide +kernel
theorem dM_begin_18 : decode cM_begin 18 = .ok (.aload_n 0, 1) := by decide +kernel
theorem dM_begin_19 : decode cM_begin 19 = .ok (.iconst 0, 1) := by decide +kernel
theorem dM_begin_20 : decode cM_begin 20 = .ok (.putfield 26, 3) := by decide +kernel
theorem dM_begin_23 : decode cM_begin 23 = .ok (.iconst 0, 1) := by decide +kernel
theorem dM_begin_24 : decode cM_begin 24 = .ok (.istore_n 2, 1) := by decide +kernel
theorem dM_begin_25 : decode cM_begin 25 = .ok (.iload_n 2, 1) := by decide +kernel
theorem dM_begin_26 : decode cM_begin 26 = .ok (.bipush 9, 2) := by decide +kernel
theorem dM_begin_28 : decode cM_begin 28 = .ok (.if_icmp .ge 16, 3) := by decide +kernel
theorem dM_begin_31 : decode cM_begin 31 = .ok (.aload_n 0, 1) := by decide +kernel
theorem dM_begin_32 : decode cM_begin 32 = .ok (.getfield 20, 3) := by decide +kernel
theorem dM_begin_35 : decode cM_begin 35 = .ok (.iload_n 2, 1) := by decide +kernel
theorem dM_begin_36 : decode cM_begin 36 = .ok (.iconst 0, 1) := by decide +kernel
theorem dM_begin_37 : decode cM_begin 37 = .ok (.iastore, 1) := by decide +kernel
theorem dM_begin_38 : decode cM_begin 38 = .ok (.iinc 2 1, 3) := by decide +kernel
theorem dM_begin_41 : decode cM_begin 41 = .ok (.goto (-16), 3) := by decide +kernel
theorem dM_begin_44 : decode cM_begin 44 = .ok (.iconst 1, 1) := by decide +kernel
theorem dM_begin_45 : decode cM_begin 45 = .ok (.ireturn, 1) := by decide +kernel
theorem dM_edge_0 : decode cM_edge 0 = .ok (.aload_n 0, 1) := by decide +kernel
theorem dM_edge_1 : decode cM_edge 1 = .ok (.getfield 26, 3) := by decide +kernel
theorem dM_edge_4 : decode cM_edge 4 = .ok (.bipush 14, 2) := by decide +kernel
theorem dM_edge_6 : decode cM_edge 6 = .ok (.if_icmp .eq 24, 3) := by decide +kernel
theorem dM_edge_9 : decode cM_edge 9 = .ok (.aload_n 0, 1) := by decide +kernel
theorem dM_edge_10 : decode cM_edge 10 = .ok (.iload_n 1, 1) := by decide +kernel
theorem dM_edge_11 : decode cM_edge 11 = .ok (.invokevirtual 29, 3) := by decide +kernel
theorem dM_edge_14 : decode cM_edge 14 = .ok (.ifCond .eq 16, 3) := by decide +kernel
theorem dM_edge_17 : decode cM_edge 17 = .ok (.aload_n 0, 1) := by decide +kernel
theorem dM_edge_18 : decode cM_edge 18 = .ok (.iload_n 2, 1) := by decide +kernel
theorem dM_edge_19 : decode cM_edge 19 = .ok (.invokevirtual 29, 3) := by decide +kernel
theorem dM_edge_22 : decode cM_edge 22 = .ok (.ifCond .eq 8, 3) := by decide +kernel
theorem dM_edge_25 : decode cM_edge 25 = .ok (.iload_n 1, 1) := by decide +kernel
theorem dM_edge_26 : decode cM_edge 26 = .ok (.iload_n 2, 1) := by decide +kernel
theorem dM_edge_27 : decode cM_edge 27 = .ok (.if_icmp .ne 5, 3) := by decide +kernel
theorem dM_edge_30 : decode cM_edge 30 = .ok (.iconst (-1), 1) := by decide +kernel
theorem dM_edge_31 : decode cM_edge 31 = .ok (.ireturn, 1) := by decide +kernel
theorem dM_edge_32 : decode cM_edge 32 = .ok (.aload_n 0, 1) := by decide +kernel
theorem dM_edge_33 : decode cM_edge 33 = .ok (.getfield 13, 3) := by decide +kernel
theorem dM_edge_36 : decode cM_edge 36 = .ok (.aload_n 0, 1) := by decide +kernel
theorem dM_edge_37 : decode cM_edge 37 = .ok (.getfield 26, 3) := by decide +kernel
theorem dM_edge_40 : decode cM_edge 40 = .ok (.iload_n 1, 1) := by decide +kernel
theorem dM_edge_41 : decode cM_edge 41 = .ok (.iastore, 1) := by decide +kernel
theorem dM_edge_42 : decode cM_edge 42 = .ok (.aload_n 0, 1) := by decide +kernel
theorem dM_edge_43 : decode cM_edge 43 = .ok (.getfield 17, 3) := by decide +kernel
theorem dM_edge_46 : decode cM_edge 46 = .ok (.aload_n 0, 1) := by decide +kernel
theorem dM_edge_47 : decode cM_edge 47 = .ok (.getfield 26, 3) := by decide +kernel
theorem dM_edge_50 : decode cM_edge 50 = .ok (.iload_n 2, 1) := by decide +kernel
theorem dM_edge_51 : decode cM_edge 51 = .ok (.iastore, 1) := by decide +kernel
theorem dM_edge_52 : decode cM_edge 52 = .ok (.aload_n 0, 1) := by decide +kernel
theorem dM_edge_53 : decode cM_edge 53 = .ok (.dup, 1) := by decide +kernel
theorem dM_edge_54 : decode cM_edge 54 = .ok (.getfield 26, 3) := by decide +kernel
theorem dM_edge_57 : decode cM_edge 57 = .ok (.iconst 1, 1) := by decide +kernel
theorem dM_edge_58 : decode cM_edge 58 = .ok (.iadd, 1) := by decide +kernel
theorem dM_edge_59 : decode cM_edge 59 = .ok (.putfield 26, 3) := by decide +kernel
theorem dM_edge_62 : decode cM_edge 62 = .ok (.aload_n 0, 1) := by decide +kernel
theorem dM_edge_63 : decode cM_edge 63 = .ok (.getfield 26, 3) := by decide +kernel
theorem dM_edge_66 : decode cM_edge 66 = .ok (.iconst 1, 1) := by decide +kernel
theorem dM_edge_67 : decode cM_edge 67 = .ok (.isub, 1) := by decide +kernel
theorem dM_edge_68 : decode cM_edge 68 = .ok (.ireturn, 1) := by decide +kernel
theorem dM_drop_0 : decode cM_drop 0 = .ok (.aload_n 0, 1) := by decide +kernel
theorem dM_drop_1 : decode cM_drop 1 = .ok (.iload_n 1, 1) := by decide +kernel
theorem dM_drop_2 : decode cM_drop 2 = .ok (.invokevirtual 33, 3) := by decide +kernel
theorem dM_drop_5 : decode cM_drop 5 = .ok (.ifCond .ne 5, 3) := by decide +kernel
theorem dM_drop_8 : decode cM_drop 8 = .ok (.iconst 0, 1) := by decide +kernel
theorem dM_drop_9 : decode cM_drop 9 = .ok (.ireturn, 1) := by decide +kernel
theorem dM_drop_10 : decode cM_drop 10 = .ok (.aload_n 0, 1) := by decide +kernel
theorem dM_drop_11 : decode cM_drop 11 = .ok (.dup, 1) := by decide +kernel
theorem dM_drop_12 : decode cM_drop 12 = .ok (.getfield 26, 3) := by decide +kernel
theorem dM_drop_15 : decode cM_drop 15 = .ok (.iconst 1, 1) := by decide +kernel
theorem dM_drop_16 : decode cM_drop 16 = .ok (.isub, 1) := by decide +kernel
theorem dM_drop_17 : decode cM_drop 17 = .ok (.putfield 26, 3) := by decide +kernel
theorem dM_drop_20 : decode cM_drop 20 = .ok (.iload_n 1, 1) := by decide +kernel
theorem dM_drop_21 : decode cM_drop 21 = .ok (.istore_n 2, 1) := by decide +kernel
theorem dM_drop_22 : decode cM_drop 22 = .ok (.iload_n 2, 1) := by decide +kernel
theorem dM_drop_23 : decode cM_drop 23 = .ok (.aload_n 0, 1) := by decide +kernel
theorem dM_drop_24 : decode cM_drop 24 = .ok (.getfield 26, 3) := by decide +kernel
theorem dM_drop_27 : decode cM_drop 27 = .ok (.if_icmp .ge 37, 3) := by decide +kernel
theorem dM_drop_30 : decode cM_drop 30 = .ok (.aload_n 0, 1) := by decide +kernel
theorem dM_drop_31 : decode cM_drop 31 = .ok (.getfield 13, 3) := by decide +kernel
theorem dM_drop_34 : decode cM_drop 34 = .ok (.iload_n 2, 1) := by decide +kernel
theorem dM_drop_35 : decode cM_drop 35 = .ok (.aload_n 0, 1) := by decide +kernel
theorem dM_drop_36 : decode cM_drop 36 = .ok (.getfield 13, 3) := by decide +kernel
theorem dM_drop_39 : decode cM_drop 39 = .ok (.iload_n 2, 1) := by decide +kernel
theorem dM_drop_40 : decode cM_drop 40 = .ok (.iconst 1, 1) := by decide +kernel
theorem dM_drop_41 : decode cM_drop 41 = .ok (.iadd, 1) := by decide +kernel
theorem dM_drop_42 : decode cM_drop 42 = .ok (.iaload, 1) := by decide +kernel
theorem dM_drop_43 : decode cM_drop 43 = .ok (.iastore, 1) := by decide +kernel
theorem dM_drop_44 : decode cM_drop 44 = .ok (.aload_n 0, 1) := by decide +kernel
theorem dM_drop_45 : decode cM_drop 45 = .ok (.getfield 17, 3) := by decide +kernel
theorem dM_drop_48 : decode cM_drop 48 = .ok (.iload_n 2, 1) := by decide +kernel
theorem dM_drop_49 : decode cM_drop 49 = .ok (.aload_n 0, 1) := by decide +kernel
theorem dM_drop_50 : decode cM_drop 50 = .ok (.getfield 17, 3) := by decide +kernel
theorem dM_drop_53 : decode cM_drop 53 = .ok (.iload_n 2, 1) := by decide +kernel
theorem dM_drop_54 : decode cM_drop 54 = .ok (.iconst 1, 1) := by decide +kernel
theorem dM_drop_55 : decode cM_drop 55 = .ok (.iadd, 1) := by decide +kernel
theorem dM_drop_56 : decode cM_drop 56 = .ok (.iaload, 1) := by decide +kernel
theorem dM_drop_57 : decode cM_drop 57 = .ok (.iastore, 1) := by decide +kernel
theorem dM_drop_58 : decode cM_drop 58 = .ok (.iinc 2 1, 3) := by decide +kernel
theorem dM_drop_61 : decode cM_drop 61 = .ok (.goto (-39), 3) := by decide +kernel
theorem dM_drop_64 : decode cM_drop 64 = .ok (.iconst 1, 1) := by decide +kernel
theorem dM_drop_65 : decode cM_drop 65 = .ok (.ireturn, 1) := by decide +kernel
theorem dM_ask_0 : decode cM_ask 0 = .ok (.aload_n 0, 1) := by decide +kernel
theorem dM_ask_1 : decode cM_ask 1 = .ok (.iload_n 1, 1) := by decide +kernel
theorem dM_ask_2 : decode cM_ask 2 = .ok (.invokevirtual 29, 3) := by decide +kernel
theorem dM_ask_5 : decode cM_ask 5 = .ok (.ifCond .eq 13, 3) := by decide +kernel
theorem dM_ask_8 : decode cM_ask 8 = .ok (.iload_n 2, 1) := by decide +kernel
theorem dM_ask_9 : decode cM_ask 9 = .ok (.ifCond .lt 9, 3) := by decide +kernel
theorem dM_ask_12 : decode cM_ask 12 = .ok (.iload_n 2, 1) := by decide +kernel
theorem dM_ask_13 : decode cM_ask 13 = .ok (.bipush 14, 2) := by decide +kernel
theorem dM_ask_15 : decode cM_ask 15 = .ok (.if_icmp .le 5, 3) := by decide +kernel
theorem dM_ask_18 : decode cM_ask 18 = .ok (.iconst 0, 1) := by decide +kernel
theorem dM_ask_19 : decode cM_ask 19 = .ok (.ireturn, 1) := by decide +kernel
theorem dM_ask_20 : decode cM_ask 20 = .ok (.aload_n 0, 1) := by decide +kernel
theorem dM_ask_21 : decode cM_ask 21 = .ok (.getfield 20, 3) := by decide +kernel
theorem dM_ask_24 : decode cM_ask 24 = .ok (.iload_n 1, 1) := by decide +kernel
theorem dM_ask_25 : decode cM_ask 25 = .ok (.iload_n 2, 1) := by decide +kernel
theorem dM_ask_26 : decode cM_ask 26 = .ok (.iastore, 1) := by decide +kernel
theorem dM_ask_27 : decode cM_ask 27 = .ok (.iconst 1, 1) := by decide +kernel
theorem dM_ask_28 : decode cM_ask 28 = .ok (.ireturn, 1) := by decide +kernel
theorem dM_vertices_0 : decode cM_vertices 0 = .ok (.aload_n 0, 1) := by decide +kernel
theorem dM_vertices_1 : decode cM_vertices 1 = .ok (.getfield 7, 3) := by decide +kernel
theorem dM_vertices_4 : decode cM_vertices 4 = .ok (.ireturn, 1) := by decide +kernel
theorem dM_edges_0 : decode cM_edges 0 = .ok (.aload_n 0, 1) := by decide +kernel
theorem dM_edges_1 : decode cM_edges 1 = .ok (.getfield 26, 3) := by decide +kernel
theorem dM_edges_4 : decode cM_edges 4 = .ok (.ireturn, 1) := by decide +kernel
theorem dM_end_0 : decode cM_end 0 = .ok (.aload_n 0, 1) := by decide +kernel
theorem dM_end_1 : decode cM_end 1 = .ok (.iload_n 1, 1) := by decide +kernel
theorem dM_end_2 : decode cM_end 2 = .ok (.invokevirtual 33, 3) := by decide +kernel
theorem dM_end_5 : decode cM_end 5 = .ok (.ifCond .eq 12, 3) := by decide +kernel
theorem dM_end_8 : decode cM_end 8 = .ok (.iload_n 2, 1) := by decide +kernel
theorem dM_end_9 : decode cM_end 9 = .ok (.ifCond .lt 8, 3) := by decide +kernel
theorem dM_end_12 : decode cM_end 12 = .ok (.iload_n 2, 1) := by decide +kernel
theorem dM_end_13 : decode cM_end 13 = .ok (.iconst 1, 1) := by decide +kernel
theorem dM_end_14 : decode cM_end 14 = .ok (.if_icmp .le 7, 3) := by decide +kernel
theorem dM_end_17 : decode cM_end 17 = .ok (.iconst (-1), 1) := by decide +kernel
theorem dM_end_18 : decode cM_end 18 = .ok (.goto 22, 3) := by decide +kernel
theorem dM_end_21 : decode cM_end 21 = .ok (.iload_n 2, 1) := by decide +kernel
theorem dM_end_22 : decode cM_end 22 = .ok (.ifCond .ne 12, 3) := by decide +kernel
theorem dM_end_25 : decode cM_end 25 = .ok (.aload_n 0, 1) := by decide +kernel
theorem dM_end_26 : decode cM_end 26 = .ok (.getfield 13, 3) := by decide +kernel
theorem dM_end_29 : decode cM_end 29 = .ok (.iload_n 1, 1) := by decide +kernel
theorem dM_end_30 : decode cM_end 30 = .ok (.iaload, 1) := by decide +kernel
theorem dM_end_31 : decode cM_end 31 = .ok (.goto 9, 3) := by decide +kernel
theorem dM_end_34 : decode cM_end 34 = .ok (.aload_n 0, 1) := by decide +kernel
theorem dM_end_35 : decode cM_end 35 = .ok (.getfield 17, 3) := by decide +kernel
theorem dM_end_38 : decode cM_end 38 = .ok (.iload_n 1, 1) := by decide +kernel
theorem dM_end_39 : decode cM_end 39 = .ok (.iaload, 1) := by decide +kernel
theorem dM_end_40 : decode cM_end 40 = .ok (.ireturn, 1) := by decide +kernel
theorem dM_demand_0 : decode cM_demand 0 = .ok (.aload_n 0, 1) := by decide +kernel
theorem dM_demand_1 : decode cM_demand 1 = .ok (.iload_n 1, 1) := by decide +kernel
theorem dM_demand_2 : decode cM_demand 2 = .ok (.invokevirtual 29, 3) := by decide +kernel
theorem dM_demand_5 : decode cM_demand 5 = .ok (.ifCond .eq 12, 3) := by decide +kernel
theorem dM_demand_8 : decode cM_demand 8 = .ok (.aload_n 0, 1) := by decide +kernel
theorem dM_demand_9 : decode cM_demand 9 = .ok (.getfield 20, 3) := by decide +kernel
theorem dM_demand_12 : decode cM_demand 12 = .ok (.iload_n 1, 1) := by decide +kernel
theorem dM_demand_13 : decode cM_demand 13 = .ok (.iaload, 1) := by decide +kernel
theorem dM_demand_14 : decode cM_demand 14 = .ok (.goto 4, 3) := by decide +kernel
theorem dM_demand_17 : decode cM_demand 17 = .ok (.iconst (-1), 1) := by decide +kernel
theorem dM_demand_18 : decode cM_demand 18 = .ok (.ireturn, 1) := by decide +kernel
theorem dM_has_0 : decode cM_has 0 = .ok (.iload_n 0, 1) := by decide +kernel
theorem dM_has_1 : decode cM_has 1 = .ok (.iload_n 1, 1) := by decide +kernel
theorem dM_has_2 : decode cM_has 2 = .ok (.ishr, 1) := by decide +kernel
theorem dM_has_3 : decode cM_has 3 = .ok (.iconst 1, 1) := by decide +kernel
theorem dM_has_4 : decode cM_has 4 = .ok (.iand, 1) := by decide +kernel
theorem dM_has_5 : decode cM_has 5 = .ok (.iconst 1, 1) := by decide +kernel
theorem dM_has_6 : decode cM_has 6 = .ok (.if_icmp .ne 7, 3) := by decide +kernel
theorem dM_has_9 : decode cM_has 9 = .ok (.iconst 1, 1) := by decide +kernel
theorem dM_has_10 : decode cM_has 10 = .ok (.goto 4, 3) := by decide +kernel
theorem dM_has_13 : decode cM_has 13 = .ok (.iconst 0, 1) := by decide +kernel
theorem dM_has_14 : decode cM_has 14 = .ok (.ireturn, 1) := by decide +kernel
theorem dM_size_0 : decode cM_size 0 = .ok (.iconst 0, 1) := by decide +kernel
theorem dM_size_1 : decode cM_size 1 = .ok (.istore_n 1, 1) := by decide +kernel
theorem dM_size_2 : decode cM_size 2 = .ok (.iconst 0, 1) := by decide +kernel
theorem dM_size_3 : decode cM_size 3 = .ok (.istore_n 2, 1) := by decide +kernel
theorem dM_size_4 : decode cM_size 4 = .ok (.iload_n 2, 1) := by decide +kernel
theorem dM_size_5 : decode cM_size 5 = .ok (.bipush 14, 2) := by decide +kernel
theorem dM_size_7 : decode cM_size 7 = .ok (.if_icmp .ge 25, 3) := by decide +kernel
theorem dM_size_10 : decode cM_size 10 = .ok (.iload_n 0, 1) := by decide +kernel
theorem dM_size_11 : decode cM_size 11 = .ok (.iload_n 2, 1) := by decide +kernel
theorem dM_size_12 : decode cM_size 12 = .ok (.invokestatic 36, 3) := by decide +kernel
theorem dM_size_15 : decode cM_size 15 = .ok (.ifCond .eq 9, 3) := by decide +kernel
theorem dM_size_18 : decode cM_size 18 = .ok (.iload_n 1, 1) := by decide +kernel
theorem dM_size_19 : decode cM_size 19 = .ok (.iconst 1, 1) := by decide +kernel
theorem dM_size_20 : decode cM_size 20 = .ok (.iadd, 1) := by decide +kernel
theorem dM_size_21 : decode cM_size 21 = .ok (.goto 4, 3) := by decide +kernel
theorem dM_size_24 : decode cM_size 24 = .ok (.iload_n 1, 1) := by decide +kernel
theorem dM_size_25 : decode cM_size 25 = .ok (.istore_n 1, 1) := by decide +kernel
theorem dM_size_26 : decode cM_size 26 = .ok (.iinc 2 1, 3) := by decide +kernel
theorem dM_size_29 : decode cM_size 29 = .ok (.goto (-25), 3) := by decide +kernel
theorem dM_size_32 : decode cM_size 32 = .ok (.iload_n 1, 1) := by decide +kernel
theorem dM_size_33 : decode cM_size 33 = .ok (.ireturn, 1) := by decide +kernel
theorem dM_isBefore_0 : decode cM_isBefore 0 = .ok (.iload_n 0, 1) := by decide +kernel
theorem dM_isBefore_1 : decode cM_isBefore 1 = .ok (.invokestatic 40, 3) := by decide +kernel
theorem dM_isBefore_4 : decode cM_isBefore 4 = .ok (.iload_n 1, 1) := by decide +kernel
theorem dM_isBefore_5 : decode cM_isBefore 5 = .ok (.invokestatic 40, 3) := by decide +kernel
theorem dM_isBefore_8 : decode cM_isBefore 8 = .ok (.if_icmp .eq 20, 3) := by decide +kernel
theorem dM_isBefore_11 : decode cM_isBefore 11 = .ok (.iload_n 0, 1) := by decide +kernel
theorem dM_isBefore_12 : decode cM_isBefore 12 = .ok (.invokestatic 40, 3) := by decide +kernel
theorem dM_isBefore_15 : decode cM_isBefore 15 = .ok (.iload_n 1, 1) := by decide +kernel
theorem dM_isBefore_16 : decode cM_isBefore 16 = .ok (.invokestatic 40, 3) := by decide +kernel
theorem dM_isBefore_19 : decode cM_isBefore 19 = .ok (.if_icmp .ge 7, 3) := by decide +kernel
theorem dM_isBefore_22 : decode cM_isBefore 22 = .ok (.iconst 1, 1) := by decide +kernel
theorem dM_isBefore_23 : decode cM_isBefore 23 = .ok (.goto 4, 3) := by decide +kernel
theorem dM_isBefore_26 : decode cM_isBefore 26 = .ok (.iconst 0, 1) := by decide +kernel
theorem dM_isBefore_27 : decode cM_isBefore 27 = .ok (.ireturn, 1) := by decide +kernel
theorem dM_isBefore_28 : decode cM_isBefore 28 = .ok (.iconst 0, 1) := by decide +kernel
theorem dM_isBefore_29 : decode cM_isBefore 29 = .ok (.istore_n 2, 1) := by decide +kernel
theorem dM_isBefore_30 : decode cM_isBefore 30 = .ok (.iload_n 2, 1) := by decide +kernel
theorem dM_isBefore_31 : decode cM_isBefore 31 = .ok (.bipush 14, 2) := by decide +kernel
theorem dM_isBefore_33 : decode cM_isBefore 33 = .ok (.if_icmp .ge 22, 3) := by decide +kernel
theorem dM_isBefore_36 : decode cM_isBefore 36 = .ok (.iload_n 0, 1) := by decide +kernel
theorem dM_isBefore_37 : decode cM_isBefore 37 = .ok (.iload_n 2, 1) := by decide +kernel
theorem dM_isBefore_38 : decode cM_isBefore 38 = .ok (.invokestatic 36, 3) := by decide +kernel
theorem dM_isBefore_41 : decode cM_isBefore 41 = .ok (.iload_n 1, 1) := by decide +kernel
theorem dM_isBefore_42 : decode cM_isBefore 42 = .ok (.iload_n 2, 1) := by decide +kernel
theorem dM_isBefore_43 : decode cM_isBefore 43 = .ok (.invokestatic 36, 3) := by decide +kernel
theorem dM_isBefore_46 : decode cM_isBefore 46 = .ok (.if_icmp .ne 9, 3) := by decide +kernel
theorem dM_isBefore_49 : decode cM_isBefore 49 = .ok (.iinc 2 1, 3) := by decide +kernel
theorem dM_isBefore_52 : decode cM_isBefore 52 = .ok (.goto (-22), 3) := by decide +kernel
theorem dM_isBefore_55 : decode cM_isBefore 55 = .ok (.iload_n 2, 1) := by decide +kernel
theorem dM_isBefore_56 : decode cM_isBefore 56 = .ok (.bipush 14, 2) := by decide +kernel
theorem dM_isBefore_58 : decode cM_isBefore 58 = .ok (.if_icmp .ge 15, 3) := by decide +kernel
theorem dM_isBefore_61 : decode cM_isBefore 61 = .ok (.iload_n 0, 1) := by decide +kernel
theorem dM_isBefore_62 : decode cM_isBefore 62 = .ok (.iload_n 2, 1) := by decide +kernel
theorem dM_isBefore_63 : decode cM_isBefore 63 = .ok (.invokestatic 36, 3) := by decide +kernel
theorem dM_isBefore_66 : decode cM_isBefore 66 = .ok (.ifCond .eq 7, 3) := by decide +kernel
theorem dM_isBefore_69 : decode cM_isBefore 69 = .ok (.iconst 1, 1) := by decide +kernel
theorem dM_isBefore_70 : decode cM_isBefore 70 = .ok (.goto 4, 3) := by decide +kernel
theorem dM_isBefore_73 : decode cM_isBefore 73 = .ok (.iconst 0, 1) := by decide +kernel
theorem dM_isBefore_74 : decode cM_isBefore 74 = .ok (.ireturn, 1) := by decide +kernel
theorem dM_degree_0 : decode cM_degree 0 = .ok (.iconst 0, 1) := by decide +kernel
theorem dM_degree_1 : decode cM_degree 1 = .ok (.istore_n 3, 1) := by decide +kernel
theorem dM_degree_2 : decode cM_degree 2 = .ok (.iconst 0, 1) := by decide +kernel
theorem dM_degree_3 : decode cM_degree 3 = .ok (.istore 4, 2) := by decide +kernel
theorem dM_degree_5 : decode cM_degree 5 = .ok (.iload 4, 2) := by decide +kernel
theorem dM_degree_7 : decode cM_degree 7 = .ok (.aload_n 0, 1) := by decide +kernel
theorem dM_degree_8 : decode cM_degree 8 = .ok (.getfield 26, 3) := by decide +kernel
theorem dM_degree_11 : decode cM_degree 11 = .ok (.if_icmp .ge 48, 3) := by decide +kernel
theorem dM_degree_14 : decode cM_degree 14 = .ok (.iload_n 1, 1) := by decide +kernel
theorem dM_degree_15 : decode cM_degree 15 = .ok (.iload 4, 2) := by decide +kernel
theorem dM_degree_17 : decode cM_degree 17 = .ok (.invokestatic 36, 3) := by decide +kernel
theorem dM_degree_20 : decode cM_degree 20 = .ok (.ifCond .eq 31, 3) := by decide +kernel
theorem dM_degree_23 : decode cM_degree 23 = .ok (.aload_n 0, 1) := by decide +kernel
theorem dM_degree_24 : decode cM_degree 24 = .ok (.getfield 13, 3) := by decide +kernel
theorem dM_degree_27 : decode cM_degree 27 = .ok (.iload 4, 2) := by decide +kernel
theorem dM_degree_29 : decode cM_degree 29 = .ok (.iaload, 1) := by decide +kernel
theorem dM_degree_30 : decode cM_degree 30 = .ok (.iload_n 2, 1) := by decide +kernel
theorem dM_degree_31 : decode cM_degree 31 = .ok (.if_icmp .eq 14, 3) := by decide +kernel
theorem dM_degree_34 : decode cM_degree 34 = .ok (.aload_n 0, 1) := by decide +kernel
theorem dM_degree_35 : decode cM_degree 35 = .ok (.getfield 17, 3) := by decide +kernel
theorem dM_degree_38 : decode cM_degree 38 = .ok (.iload 4, 2) := by decide +kernel
theorem dM_degree_40 : decode cM_degree 40 = .ok (.iaload, 1) := by decide +kernel
theorem dM_degree_41 : decode cM_degree 41 = .ok (.iload_n 2, 1) := by decide +kernel
theorem dM_degree_42 : decode cM_degree 42 = .ok (.if_icmp .ne 9, 3) := by decide +kernel
theorem dM_degree_45 : decode cM_degree 45 = .ok (.iload_n 3, 1) := by decide +kernel
theorem dM_degree_46 : decode cM_degree 46 = .ok (.iconst 1, 1) := by decide +kernel
theorem dM_degree_47 : decode cM_degree 47 = .ok (.iadd, 1) := by decide +kernel
theorem dM_degree_48 : decode cM_degree 48 = .ok (.goto 4, 3) := by decide +kernel
theorem dM_degree_51 : decode cM_degree 51 = .ok (.iload_n 3, 1) := by decide +kernel
theorem dM_degree_52 : decode cM_degree 52 = .ok (.istore_n 3, 1) := by decide +kernel
theorem dM_degree_53 : decode cM_degree 53 = .ok (.iinc 4 1, 3) := by decide +kernel
theorem dM_degree_56 : decode cM_degree 56 = .ok (.goto (-51), 3) := by decide +kernel
theorem dM_degree_59 : decode cM_degree 59 = .ok (.iload_n 3, 1) := by decide +kernel
theorem dM_degree_60 : decode cM_degree 60 = .ok (.ireturn, 1) := by decide +kernel
theorem dM_isFair_0 : decode cM_isFair 0 = .ok (.iconst 0, 1) := by decide +kernel
theorem dM_isFair_1 : decode cM_isFair 1 = .ok (.istore_n 2, 1) := by decide +kernel
theorem dM_isFair_2 : decode cM_isFair 2 = .ok (.iload_n 2, 1) := by decide +kernel
theorem dM_isFair_3 : decode cM_isFair 3 = .ok (.aload_n 0, 1) := by decide +kernel
theorem dM_isFair_4 : decode cM_isFair 4 = .ok (.getfield 7, 3) := by decide +kernel
theorem dM_isFair_7 : decode cM_isFair 7 = .ok (.if_icmp .ge 26, 3) := by decide +kernel
theorem dM_isFair_10 : decode cM_isFair 10 = .ok (.aload_n 0, 1) := by decide +kernel
theorem dM_isFair_11 : decode cM_isFair 11 = .ok (.iload_n 1, 1) := by decide +kernel
theorem dM_isFair_12 : decode cM_isFair 12 = .ok (.iload_n 2, 1) := by decide +kernel
theorem dM_isFair_13 : decode cM_isFair 13 = .ok (.invokevirtual 44, 3) := by decide +kernel
theorem dM_isFair_16 : decode cM_isFair 16 = .ok (.aload_n 0, 1) := by decide +kernel
theorem dM_isFair_17 : decode cM_isFair 17 = .ok (.getfield 20, 3) := by decide +kernel
theorem dM_isFair_20 : decode cM_isFair 20 = .ok (.iload_n 2, 1) := by decide +kernel
theorem dM_isFair_21 : decode cM_isFair 21 = .ok (.iaload, 1) := by decide +kernel
theorem dM_isFair_22 : decode cM_isFair 22 = .ok (.if_icmp .le 5, 3) := by decide +kernel
