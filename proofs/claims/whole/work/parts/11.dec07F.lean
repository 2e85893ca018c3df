theorem dF_init_0 : decode cF_init 0 = .ok (.aload_n 0, 1) := by decide +kernel
theorem dF_init_1 : decode cF_init 1 = .ok (.invokespecial 3, 3) := by decide +kernel
theorem dF_init_4 : decode cF_init 4 = .ok (.aload_n 0, 1) := by decide +kernel
theorem dF_init_5 : decode cF_init 5 = .ok (.new 9, 3) := by decide +kernel
theorem dF_init_8 : decode cF_init 8 = .ok (.dup, 1) := by decide +kernel
theorem dF_init_9 : decode cF_init 9 = .ok (.invokespecial 11, 3) := by decide +kernel
theorem dF_init_12 : decode cF_init 12 = .ok (.putfield 12, 3) := by decide +kernel
theorem dF_init_15 : decode cF_init 15 = .ok (.aload_n 0, 1) := by decide +kernel
theorem dF_init_16 : decode cF_init 16 = .ok (.new 16, 3) := by decide +kernel
theorem dF_init_19 : decode cF_init 19 = .ok (.dup, 1) := by decide +kernel
theorem dF_init_20 : decode cF_init 20 = .ok (.invokespecial 18, 3) := by decide +kernel
theorem dF_init_23 : decode cF_init 23 = .ok (.putfield 19, 3) := by decide +kernel
theorem dF_init_26 : decode cF_init 26 = .ok (.aload_n 0, 1) := by decide +kernel
theorem dF_init_27 : decode cF_init 27 = .ok (.new 23, 3) := by decide +kernel
theorem dF_init_30 : decode cF_init 30 = .ok (.dup, 1) := by decide +kernel
theorem dF_init_31 : decode cF_init 31 = .ok (.invokespecial 25, 3) := by decide +kernel
theorem dF_init_34 : decode cF_init 34 = .ok (.putfield 26, 3) := by decide +kernel
theorem dF_init_37 : decode cF_init 37 = .ok (.aload_n 0, 1) := by decide +kernel
theorem dF_init_38 : decode cF_init 38 = .ok (.new 30, 3) := by decide +kernel
theorem dF_init_41 : decode cF_init 41 = .ok (.dup, 1) := by decide +kernel
theorem dF_init_42 : decode cF_init 42 = .ok (.invokespecial 32, 3) := by decide +kernel
theorem dF_init_45 : decode cF_init 45 = .ok (.putfield 33, 3) := by decide +kernel
theorem dF_init_48 : decode cF_init 48 = .ok (.return_, 1) := by decide +kernel
theorem dF_begin_0 : decode cF_begin 0 = .ok (.iload_n 1, 1) := by decide +kernel
theorem dF_begin_1 : decode cF_begin 1 = .ok (.iconst 1, 1) := by decide +kernel
theorem dF_begin_2 : decode cF_begin 2 = .ok (.if_icmp .lt 9, 3) := by decide +kernel
theorem dF_begin_5 : decode cF_begin 5 = .ok (.iload_n 1, 1) := by decide +kernel
theorem dF_begin_6 : decode cF_begin 6 = .ok (.bipush 9, 2) := by decide +kernel
theorem dF_begin_8 : decode cF_begin 8 = .ok (.if_icmp .le 5, 3) := by decide +kernel
theorem dF_begin_11 : decode cF_begin 11 = .ok (.iconst 0, 1) := by decide +kernel
theorem dF_begin_12 : decode cF_begin 12 = .ok (.ireturn, 1) := by decide +kernel
theorem dF_begin_13 : decode cF_begin 13 = .ok (.aload_n 0, 1) := by decide +kernel
theorem dF_begin_14 : decode cF_begin 14 = .ok (.getfield 12, 3) := by decide +kernel
theorem dF_begin_17 : decode cF_begin 17 = .ok (.iload_n 1, 1) := by decide +kernel
theorem dF_begin_18 : decode cF_begin 18 = .ok (.invokevirtual 37, 3) := by decide +kernel
theorem dF_begin_21 : decode cF_begin 21 = .ok (.aload_n 0, 1) := by decide +kernel
theorem dF_begin_22 : decode cF_begin 22 = .ok (.getfield 33, 3) := by decide +kernel
theorem dF_begin_25 : decode cF_begin 25 = .ok (.invokevirtual 41, 3) := by decide +kernel
theorem dF_begin_28 : decode cF_begin 28 = .ok (.iconst 1, 1) := by decide +kernel
theorem dF_begin_29 : decode cF_begin 29 = .ok (.ireturn, 1) := by decide +kernel
theorem dF_edge_0 : decode cF_edge 0 = .ok (.aload_n 0, 1) := by decide +kernel
theorem dF_edge_1 : decode cF_edge 1 = .ok (.getfield 12, 3) := by decide +kernel
theorem dF_edge_4 : decode cF_edge 4 = .ok (.getfield 44, 3) := by decide +kernel
theorem dF_edge_7 : decode cF_edge 7 = .ok (.bipush 14, 2) := by decide +kernel
theorem dF_edge_9 : decode cF_edge 9 = .ok (.if_icmp .ge 30, 3) := by decide +kernel
theorem dF_edge_12 : decode cF_edge 12 = .ok (.iload_n 1, 1) := by decide +kernel
theorem dF_edge_13 : decode cF_edge 13 = .ok (.iload_n 2, 1) := by decide +kernel
theorem dF_edge_14 : decode cF_edge 14 = .ok (.if_icmp .eq 25, 3) := by decide +kernel
theorem dF_edge_17 : decode cF_edge 17 = .ok (.aload_n 0, 1) := by decide +kernel
theorem dF_edge_18 : decode cF_edge 18 = .ok (.getfield 12, 3) := by decide +kernel
theorem dF_edge_21 : decode cF_edge 21 = .ok (.iload_n 1, 1) := by decide +kernel
theorem dF_edge_22 : decode cF_edge 22 = .ok (.invokevirtual 48, 3) := by decide +kernel
theorem dF_edge_25 : decode cF_edge 25 = .ok (.ifCond .eq 14, 3) := by decide +kernel
theorem dF_edge_28 : decode cF_edge 28 = .ok (.aload_n 0, 1) := by decide +kernel
theorem dF_edge_29 : decode cF_edge 29 = .ok (.getfield 12, 3) := by decide +kernel
theorem dF_edge_32 : decode cF_edge 32 = .ok (.iload_n 2, 1) := by decide +kernel
theorem dF_edge_33 : decode cF_edge 33 = .ok (.invokevirtual 48, 3) := by decide +kernel
theorem dF_edge_36 : decode cF_edge 36 = .ok (.ifCond .ne 5, 3) := by decide +kernel
theorem dF_edge_39 : decode cF_edge 39 = .ok (.iconst (-1), 1) := by decide +kernel
theorem dF_edge_40 : decode cF_edge 40 = .ok (.ireturn, 1) := by decide +kernel
theorem dF_edge_41 : decode cF_edge 41 = .ok (.aload_n 0, 1) := by decide +kernel
theorem dF_edge_42 : decode cF_edge 42 = .ok (.getfield 12, 3) := by decide +kernel
theorem dF_edge_45 : decode cF_edge 45 = .ok (.iload_n 1, 1) := by decide +kernel
theorem dF_edge_46 : decode cF_edge 46 = .ok (.iload_n 2, 1) := by decide +kernel
theorem dF_edge_47 : decode cF_edge 47 = .ok (.invokevirtual 52, 3) := by decide +kernel
theorem dF_edge_50 : decode cF_edge 50 = .ok (.aload_n 0, 1) := by decide +kernel
theorem dF_edge_51 : decode cF_edge 51 = .ok (.getfield 33, 3) := by decide +kernel
theorem dF_edge_54 : decode cF_edge 54 = .ok (.invokevirtual 41, 3) := by decide +kernel
theorem dF_edge_57 : decode cF_edge 57 = .ok (.aload_n 0, 1) := by decide +kernel
theorem dF_edge_58 : decode cF_edge 58 = .ok (.getfield 12, 3) := by decide +kernel
theorem dF_edge_61 : decode cF_edge 61 = .ok (.getfield 44, 3) := by decide +kernel
theorem dF_edge_64 : decode cF_edge 64 = .ok (.iconst 1, 1) := by decide +kernel
theorem dF_edge_65 : decode cF_edge 65 = .ok (.isub, 1) := by decide +kernel
theorem dF_edge_66 : decode cF_edge 66 = .ok (.ireturn, 1) := by decide +kernel
theorem dF_drop_0 : decode cF_drop 0 = .ok (.aload_n 0, 1) := by decide +kernel
theorem dF_drop_1 : decode cF_drop 1 = .ok (.getfield 12, 3) := by decide +kernel
theorem dF_drop_4 : decode cF_drop 4 = .ok (.iload_n 1, 1) := by decide +kernel
theorem dF_drop_5 : decode cF_drop 5 = .ok (.invokevirtual 56, 3) := by decide +kernel
theorem dF_drop_8 : decode cF_drop 8 = .ok (.ifCond .ne 5, 3) := by decide +kernel
theorem dF_drop_11 : decode cF_drop 11 = .ok (.iconst 0, 1) := by decide +kernel
theorem dF_drop_12 : decode cF_drop 12 = .ok (.ireturn, 1) := by decide +kernel
theorem dF_drop_13 : decode cF_drop 13 = .ok (.aload_n 0, 1) := by decide +kernel
theorem dF_drop_14 : decode cF_drop 14 = .ok (.getfield 12, 3) := by decide +kernel
theorem dF_drop_17 : decode cF_drop 17 = .ok (.iload_n 1, 1) := by decide +kernel
theorem dF_drop_18 : decode cF_drop 18 = .ok (.invokevirtual 59, 3) := by decide +kernel
theorem dF_drop_21 : decode cF_drop 21 = .ok (.aload_n 0, 1) := by decide +kernel
theorem dF_drop_22 : decode cF_drop 22 = .ok (.getfield 33, 3) := by decide +kernel
theorem dF_drop_25 : decode cF_drop 25 = .ok (.invokevirtual 41, 3) := by decide +kernel
theorem dF_drop_28 : decode cF_drop 28 = .ok (.iconst 1, 1) := by decide +kernel
theorem dF_drop_29 : decode cF_drop 29 = .ok (.ireturn, 1) := by decide +kernel
theorem dF_ask_0 : decode cF_ask 0 = .ok (.aload_n 0, 1) := by decide +kernel
theorem dF_ask_1 : decode cF_ask 1 = .ok (.getfield 12, 3) := by decide +kernel
theorem dF_ask_4 : decode cF_ask 4 = .ok (.iload_n 1, 1) := by decide +kernel
theorem dF_ask_5 : decode cF_ask 5 = .ok (.invokevirtual 48, 3) := by decide +kernel
theorem dF_ask_8 : decode cF_ask 8 = .ok (.ifCond .eq 13, 3) := by decide +kernel
theorem dF_ask_11 : decode cF_ask 11 = .ok (.iload_n 2, 1) := by decide +kernel
theorem dF_ask_12 : decode cF_ask 12 = .ok (.ifCond .lt 9, 3) := by decide +kernel
theorem dF_ask_15 : decode cF_ask 15 = .ok (.iload_n 2, 1) := by decide +kernel
theorem dF_ask_16 : decode cF_ask 16 = .ok (.bipush 14, 2) := by decide +kernel
theorem dF_ask_18 : decode cF_ask 18 = .ok (.if_icmp .le 5, 3) := by decide +kernel
theorem dF_ask_21 : decode cF_ask 21 = .ok (.iconst 0, 1) := by decide +kernel
theorem dF_ask_22 : decode cF_ask 22 = .ok (.ireturn, 1) := by decide +kernel
theorem dF_ask_23 : decode cF_ask 23 = .ok (.aload_n 0, 1) := by decide +kernel
theorem dF_ask_24 : decode cF_ask 24 = .ok (.getfield 12, 3) := by decide +kernel
theorem dF_ask_27 : decode cF_ask 27 = .ok (.getfield 62, 3) := by decide +kernel
theorem dF_ask_30 : decode cF_ask 30 = .ok (.iload_n 1, 1) := by decide +kernel
theorem dF_ask_31 : decode cF_ask 31 = .ok (.iload_n 2, 1) := by decide +kernel
theorem dF_ask_32 : decode cF_ask 32 = .ok (.iastore, 1) := by decide +kernel
theorem dF_ask_33 : decode cF_ask 33 = .ok (.aload_n 0, 1) := by decide +kernel
theorem dF_ask_34 : decode cF_ask 34 = .ok (.getfield 33, 3) := by decide +kernel
theorem dF_ask_37 : decode cF_ask 37 = .ok (.invokevirtual 41, 3) := by decide +kernel
theorem dF_ask_40 : decode cF_ask 40 = .ok (.iconst 1, 1) := by decide +kernel
theorem dF_ask_41 : decode cF_ask 41 = .ok (.ireturn, 1) := by decide +kernel
theorem dF_vertices_0 : decode cF_vertices 0 = .ok (.aload_n 0, 1) := by decide +kernel
theorem dF_vertices_1 : decode cF_vertices 1 = .ok (.getfield 12, 3) := by decide +kernel
theorem dF_vertices_4 : decode cF_vertices 4 = .ok (.getfield 66, 3) := by decide +kernel
theorem dF_vertices_7 : decode cF_vertices 7 = .ok (.ireturn, 1) := by decide +kernel
theorem dF_edges_0 : decode cF_edges 0 = .ok (.aload_n 0, 1) := by decide +kernel
theorem dF_edges_1 : decode cF_edges 1 = .ok (.getfield 12, 3) := by decide +kernel
theorem dF_edges_4 : decode cF_edges 4 = .ok (.getfield 44, 3) := by decide +kernel
theorem dF_edges_7 : decode cF_edges 7 = .ok (.ireturn, 1) := by decide +kernel
theorem dF_end_0 : decode cF_end 0 = .ok (.aload_n 0, 1) := by decide +kernel
theorem dF_end_1 : decode cF_end 1 = .ok (.getfield 12, 3) := by decide +kernel
theorem dF_end_4 : decode cF_end 4 = .ok (.iload_n 1, 1) := by decide +kernel
theorem dF_end_5 : decode cF_end 5 = .ok (.invokevirtual 56, 3) := by decide +kernel
theorem dF_end_8 : decode cF_end 8 = .ok (.ifCond .eq 12, 3) := by decide +kernel
theorem dF_end_11 : decode cF_end 11 = .ok (.iload_n 2, 1) := by decide +kernel
theorem dF_end_12 : decode cF_end 12 = .ok (.ifCond .lt 8, 3) := by decide +kernel
theorem dF_end_15 : decode cF_end 15 = .ok (.iload_n 2, 1) := by decide +kernel
theorem dF_end_16 : decode cF_end 16 = .ok (.iconst 1, 1) := by decide +kernel
theorem dF_end_17 : decode cF_end 17 = .ok (.if_icmp .le 5, 3) := by decide +kernel
theorem dF_end_20 : decode cF_end 20 = .ok (.iconst (-1), 1) := by decide +kernel
theorem dF_end_21 : decode cF_end 21 = .ok (.ireturn, 1) := by decide +kernel
theorem dF_end_22 : decode cF_end 22 = .ok (.iload_n 2, 1) := by decide +kernel
theorem dF_end_23 : decode cF_end 23 = .ok (.ifCond .ne 15, 3) := by decide +kernel
theorem dF_end_26 : decode cF_end 26 = .ok (.aload_n 0, 1) := by decide +kernel
theorem dF_end_27 : decode cF_end 27 = .ok (.getfield 12, 3) := by decide +kernel
theorem dF_end_30 : decode cF_end 30 = .ok (.getfield 69, 3) := by decide +kernel
theorem dF_end_33 : decode cF_end 33 = .ok (.iload_n 1, 1) := by decide +kernel
theorem dF_end_34 : decode cF_end 34 = .ok (.iaload, 1) := by decide +kernel
theorem dF_end_35 : decode cF_end 35 = .ok (.goto 12, 3) := by decide +kernel
theorem dF_end_38 : decode cF_end 38 = .ok (.aload_n 0, 1) := by decide +kernel
theorem dF_end_39 : decode cF_end 39 = .ok (.getfield 12, 3) := by decide +kernel
theorem dF_end_42 : decode cF_end 42 = .ok (.getfield 72, 3) := by decide +kernel
theorem dF_end_45 : decode cF_end 45 = .ok (.iload_n 1, 1) := by decide +kernel
theorem dF_end_46 : decode cF_end 46 = .ok (.iaload, 1) := by decide +kernel
theorem dF_end_47 : decode cF_end 47 = .ok (.ireturn, 1) := by decide +kernel
theorem dF_demand_0 : decode cF_demand 0 = .ok (.aload_n 0, 1) := by decide +kernel
theorem dF_demand_1 : decode cF_demand 1 = .ok (.getfield 12, 3) := by decide +kernel
theorem dF_demand_4 : decode cF_demand 4 = .ok (.iload_n 1, 1) := by decide +kernel
theorem dF_demand_5 : decode cF_demand 5 = .ok (.invokevirtual 48, 3) := by decide +kernel
theorem dF_demand_8 : decode cF_demand 8 = .ok (.ifCond .eq 15, 3) := by decide +kernel
theorem dF_demand_11 : decode cF_demand 11 = .ok (.aload_n 0, 1) := by decide +kernel
theorem dF_demand_12 : decode cF_demand 12 = .ok (.getfield 12, 3) := by decide +kernel
theorem dF_demand_15 : decode cF_demand 15 = .ok (.getfield 62, 3) := by decide +kernel
theorem dF_demand_18 : decode cF_demand 18 = .ok (.iload_n 1, 1) := by decide +kernel
theorem dF_demand_19 : decode cF_demand 19 = .ok (.iaload, 1) := by decide +kernel
theorem dF_demand_20 : decode cF_demand 20 = .ok (.goto 4, 3) := by decide +kernel
theorem dF_demand_23 : decode cF_demand 23 = .ok (.iconst (-1), 1) := by decide +kernel
theorem dF_demand_24 : decode cF_demand 24 = .ok (.ireturn, 1) := by decide +kernel
theorem dF_judge_0 : decode cF_judge 0 = .ok (.iload_n 1, 1) := by decide +kernel
theorem dF_judge_1 : decode cF_judge 1 = .ok (.ifCond .lt 15, 3) := by decide +kernel
theorem dF_judge_4 : decode cF_judge 4 = .ok (.iload_n 1, 1) := by decide +kernel
theorem dF_judge_5 : decode cF_judge 5 = .ok (.aload_n 0, 1) := by decide +kernel
theorem dF_judge_6 : decode cF_judge 6 = .ok (.getfield 12, 3) := by decide +kernel
theorem dF_judge_9 : decode cF_judge 9 = .ok (.getfield 44, 3) := by decide +kernel
theorem dF_judge_12 : decode cF_judge 12 = .ok (.ishr, 1) := by decide +kernel
theorem dF_judge_13 : decode cF_judge 13 = .ok (.ifCond .eq 5, 3) := by decide +kernel
theorem dF_judge_16 : decode cF_judge 16 = .ok (.iconst (-1), 1) := by decide +kernel
theorem dF_judge_17 : decode cF_judge 17 = .ok (.ireturn, 1) := by decide +kernel
theorem dF_judge_18 : decode cF_judge 18 = .ok (.iconst 2, 1) := by decide +kernel
theorem dF_judge_19 : decode cF_judge 19 = .ok (.istore_n 2, 1) := by decide +kernel
theorem dF_judge_20 : decode cF_judge 20 = .ok (.iconst 0, 1) := by decide +kernel
theorem dF_judge_21 : decode cF_judge 21 = .ok (.istore_n 3, 1) := by decide +kernel
theorem dF_judge_22 : decode cF_judge 22 = .ok (.iload_n 3, 1) := by decide +kernel
theorem dF_judge_23 : decode cF_judge 23 = .ok (.aload_n 0, 1) := by decide +kernel
theorem dF_judge_24 : decode cF_judge 24 = .ok (.getfield 12, 3) := by decide +kernel
theorem dF_judge_27 : decode cF_judge 27 = .ok (.getfield 66, 3) := by decide +kernel
theorem dF_judge_30 : decode cF_judge 30 = .ok (.if_icmp .ge 52, 3) := by decide +kernel
theorem dF_judge_33 : decode cF_judge 33 = .ok (.aload_n 0, 1) := by decide +kernel
theorem dF_judge_34 : decode cF_judge 34 = .ok (.getfield 12, 3) := by decide +kernel
theorem dF_judge_37 : decode cF_judge 37 = .ok (.iload_n 3, 1) := by decide +kernel
theorem dF_judge_38 : decode cF_judge 38 = .ok (.iload_n 1, 1) := by decide +kernel
theorem dF_judge_39 : decode cF_judge 39 = .ok (.invokevirtual 75, 3) := by decide +kernel
theorem dF_judge_42 : decode cF_judge 42 = .ok (.istore 4, 2) := by decide +kernel
theorem dF_judge_44 : decode cF_judge 44 = .ok (.iload 4, 2) := by decide +kernel
theorem dF_judge_46 : decode cF_judge 46 = .ok (.aload_n 0, 1) := by decide +kernel
theorem dF_judge_47 : decode cF_judge 47 = .ok (.getfield 12, 3) := by decide +kernel
theorem dF_judge_50 : decode cF_judge 50 = .ok (.getfield 62, 3) := by decide +kernel
theorem dF_judge_53 : decode cF_judge 53 = .ok (.iload_n 3, 1) := by decide +kernel
theorem dF_judge_54 : decode cF_judge 54 = .ok (.iaload, 1) := by decide +kernel
theorem dF_judge_55 : decode cF_judge 55 = .ok (.if_icmp .le 5, 3) := by decide +kernel
theorem dF_judge_58 : decode cF_judge 58 = .ok (.iconst 0, 1) := by decide +kernel
theorem dF_judge_59 : decode cF_judge 59 = .ok (.ireturn, 1) := by decide +kernel
theorem dF_judge_60 : decode cF_judge 60 = .ok (.iload 4, 2) := by decide +kernel
theorem dF_judge_62 : decode cF_judge 62 = .ok (.aload_n 0, 1) := by decide +kernel
theorem dF_judge_63 : decode cF_judge 63 = .ok (.getfield 12, 3) := by decide +kernel
theorem dF_judge_66 : decode cF_judge 66 = .ok (.getfield 62, 3) := by decide +kernel
theorem dF_judge_69 : decode cF_judge 69 = .ok (.iload_n 3, 1) := by decide +kernel
theorem dF_judge_70 : decode cF_judge 70 = .ok (.iaload, 1) := by decide +kernel
theorem dF_judge_71 : decode cF_judge 71 = .ok (.if_icmp .ge 5, 3) := by decide +kernel
theorem dF_judge_74 : decode cF_judge 74 = .ok (.iconst 1, 1) := by decide +kernel
theorem dF_judge_75 : decode cF_judge 75 = .ok (.istore_n 2, 1) := by decide +kernel
theorem dF_judge_76 : decode cF_judge 76 = .ok (.iinc 3 1, 3) := by decide +kernel
theorem dF_judge_79 : decode cF_judge 79 = .ok (.goto (-57), 3) := by decide +kernel
theorem dF_judge_82 : decode cF_judge 82 = .ok (.iload_n 2, 1) := by decide +kernel
theorem dF_judge_83 : decode cF_judge 83 = .ok (.ireturn, 1) := by decide +kernel
theorem dF_most_0 : decode cF_most 0 = .ok (.aload_n 0, 1) := by decide +kernel
theorem dF_most_1 : decode cF_most 1 = .ok (.invokevirtual 79, 3) := by decide +kernel
theorem dF_most_4 : decode cF_most 4 = .ok (.aload_n 0, 1) := by decide +kernel
theorem dF_most_5 : decode cF_most 5 = .ok (.getfield 33, 3) := by decide +kernel
theorem dF_most_8 : decode cF_most 8 = .ok (.getfield 82, 3) := by decide +kernel
theorem dF_most_11 : decode cF_most 11 = .ok (.ireturn, 1) := by decide +kernel
theorem dF_best_0 : decode cF_best 0 = .ok (.aload_n 0, 1) := by decide +kernel
theorem dF_best_1 : decode cF_best 1 = .ok (.invokevirtual 79, 3) := by decide +kernel
theorem dF_best_4 : decode cF_best 4 = .ok (.aload_n 0, 1) := by decide +kernel
theorem dF_best_5 : decode cF_best 5 = .ok (.getfield 33, 3) := by decide +kernel
theorem dF_best_8 : decode cF_best 8 = .ok (.getfield 85, 3) := by decide +kernel
theorem dF_best_11 : decode cF_best 11 = .ok (.ireturn, 1) := by decide +kernel
theorem dF_factor_0 : decode cF_factor 0 = .ok (.aload_n 0, 1) := by decide +kernel
theorem dF_factor_1 : decode cF_factor 1 = .ok (.invokevirtual 79, 3) := by decide +kernel
theorem dF_factor_4 : decode cF_factor 4 = .ok (.iconst 2, 1) := by decide +kernel
theorem dF_factor_5 : decode cF_factor 5 = .ok (.aload_n 0, 1) := by decide +kernel
theorem dF_factor_6 : decode cF_factor 6 = .ok (.getfield 33, 3) := by decide +kernel
theorem dF_factor_9 : decode cF_factor 9 = .ok (.getfield 82, 3) := by decide +kernel
theorem dF_factor_12 : decode cF_factor 12 = .ok (.imul, 1) := by decide +kernel
theorem dF_factor_13 : decode cF_factor 13 = .ok (.aload_n 0, 1) := by decide +kernel
theorem dF_factor_14 : decode cF_factor 14 = .ok (.getfield 12, 3) := by decide +kernel
theorem dF_factor_17 : decode cF_factor 17 = .ok (.invokevirtual 88, 3) := by decide +kernel
theorem dF_factor_20 : decode cF_factor 20 = .ok (.if_icmp .ne 13, 3) := by decide +kernel
theorem dF_factor_23 : decode cF_factor 23 = .ok (.aload_n 0, 1) := by decide +kernel
theorem dF_factor_24 : decode cF_factor 24 = .ok (.getfield 33, 3) := by decide +kernel
theorem dF_factor_27 : decode cF_factor 27 = .ok (.getfield 85, 3) := by decide +kernel
theorem dF_factor_30 : decode cF_factor 30 = .ok (.goto 4, 3) := by decide +kernel
theorem dF_factor_33 : decode cF_factor 33 = .ok (.iconst (-1), 1) := by decide +kernel
theorem dF_factor_34 : decode cF_factor 34 = .ok (.ireturn, 1) := by decide +kernel
theorem dF_role_0 : decode cF_role 0 = .ok (.aload_n 0, 1) := by decide +kernel
theorem dF_role_1 : decode cF_role 1 = .ok (.getfield 12, 3) := by decide +kernel
theorem dF_role_4 : decode cF_role 4 = .ok (.iload_n 1, 1) := by decide +kernel
theorem dF_role_5 : decode cF_role 5 = .ok (.invokevirtual 56, 3) := by decide +kernel
theorem dF_role_8 : decode cF_role 8 = .ok (.ifCond .ne 5, 3) := by decide +kernel
theorem dF_role_11 : decode cF_role 11 = .ok (.iconst (-1), 1) := by decide +kernel
theorem dF_role_12 : decode cF_role 12 = .ok (.ireturn, 1) := by decide +kernel
theorem dF_role_13 : decode cF_role 13 = .ok (.aload_n 0, 1) := by decide +kernel
theorem dF_role_14 : decode cF_role 14 = .ok (.invokevirtual 79, 3) := by decide +kernel
theorem dF_role_17 : decode cF_role 17 = .ok (.aload_n 0, 1) := by decide +kernel
theorem dF_role_18 : decode cF_role 18 = .ok (.getfield 19, 3) := by decide +kernel
theorem dF_role_21 : decode cF_role 21 = .ok (.aload_n 0, 1) := by decide +kernel
theorem dF_role_22 : decode cF_role 22 = .ok (.getfield 12, 3) := by decide +kernel
theorem dF_role_25 : decode cF_role 25 = .ok (.iload_n 1, 1) := by decide +kernel
theorem dF_role_26 : decode cF_role 26 = .ok (.invokevirtual 92, 3) := by decide +kernel
theorem dF_role_29 : decode cF_role 29 = .ok (.aload_n 0, 1) := by decide +kernel
theorem dF_role_30 : decode cF_role 30 = .ok (.getfield 33, 3) := by decide +kernel
theorem dF_role_33 : decode cF_role 33 = .ok (.getfield 85, 3) := by decide +kernel
theorem dF_role_36 : decode cF_role 36 = .ok (.iload_n 1, 1) := by decide +kernel
theorem dF_role_37 : decode cF_role 37 = .ok (.ishr, 1) := by decide +kernel
theorem dF_role_38 : decode cF_role 38 = .ok (.iconst 1, 1) := by decide +kernel
theorem dF_role_39 : decode cF_role 39 = .ok (.iand, 1) := by decide +kernel
theorem dF_role_40 : decode cF_role 40 = .ok (.iconst 1, 1) := by decide +kernel
theorem dF_role_41 : decode cF_role 41 = .ok (.if_icmp .ne 26, 3) := by decide +kernel
theorem dF_role_44 : decode cF_role 44 = .ok (.aload_n 0, 1) := by decide +kernel
theorem dF_role_45 : decode cF_role 45 = .ok (.getfield 19, 3) := by decide +kernel
theorem dF_role_48 : decode cF_role 48 = .ok (.aload_n 0, 1) := by decide +kernel
theorem dF_role_49 : decode cF_role 49 = .ok (.getfield 33, 3) := by decide +kernel
theorem dF_role_52 : decode cF_role 52 = .ok (.getfield 82, 3) := by decide +kernel
theorem dF_role_55 : decode cF_role 55 = .ok (.invokevirtual 96, 3) := by decide +kernel
theorem dF_role_58 : decode cF_role 58 = .ok (.ifCond .eq 7, 3) := by decide +kernel
theorem dF_role_61 : decode cF_role 61 = .ok (.iconst 1, 1) := by decide +kernel
theorem dF_role_62 : decode cF_role 62 = .ok (.goto 4, 3) := by decide +kernel
theorem dF_role_65 : decode cF_role 65 = .ok (.iconst 2, 1) := by decide +kernel
theorem dF_role_66 : decode cF_role 66 = .ok (.ireturn, 1) := by decide +kernel
theorem dF_role_67 : decode cF_role 67 = .ok (.aload_n 0, 1) := by decide +kernel
theorem dF_role_68 : decode cF_role 68 = .ok (.getfield 19, 3) := by decide +kernel
theorem dF_role_71 : decode cF_role 71 = .ok (.aload_n 0, 1) := by decide +kernel
theorem dF_role_72 : decode cF_role 72 = .ok (.getfield 12, 3) := by decide +kernel
theorem dF_role_75 : decode cF_role 75 = .ok (.getfield 69, 3) := by decide +kernel
theorem dF_role_78 : decode cF_role 78 = .ok (.iload_n 1, 1) := by decide +kernel
theorem dF_role_79 : decode cF_role 79 = .ok (.iaload, 1) := by decide +kernel
theorem dF_role_80 : decode cF_role 80 = .ok (.invokevirtual 99, 3) := by decide +kernel
theorem dF_role_83 : decode cF_role 83 = .ok (.ifCond .eq 26, 3) := by decide +kernel
theorem dF_role_86 : decode cF_role 86 = .ok (.aload_n 0, 1) := by decide +kernel
theorem dF_role_87 : decode cF_role 87 = .ok (.getfield 19, 3) := by decide +kernel
theorem dF_role_90 : decode cF_role 90 = .ok (.aload_n 0, 1) := by decide +kernel
theorem dF_role_91 : decode cF_role 91 = .ok (.getfield 12, 3) := by decide +kernel
theorem dF_role_94 : decode cF_role 94 = .ok (.getfield 72, 3) := by decide +kernel
theorem dF_role_97 : decode cF_role 97 = .ok (.iload_n 1, 1) := by decide +kernel
theorem dF_role_98 : decode cF_role 98 = .ok (.iaload, 1) := by decide +kernel
theorem dF_role_99 : decode cF_role 99 = .ok (.invokevirtual 99, 3) := by decide +kernel
theorem dF_role_102 : decode cF_role 102 = .ok (.ifCond .eq 7, 3) := by decide +kernel
theorem dF_role_105 : decode cF_role 105 = .ok (.iconst 1, 1) := by decide +kernel
theorem dF_role_106 : decode cF_role 106 = .ok (.goto 4, 3) := by decide +kernel
theorem dF_role_109 : decode cF_role 109 = .ok (.iconst 0, 1) := by decide +kernel
theorem dF_role_110 : decode cF_role 110 = .ok (.istore_n 2, 1) := by decide +kernel
theorem dF_role_111 : decode cF_role 111 = .ok (.iload_n 2, 1) := by decide +kernel
theorem dF_role_112 : decode cF_role 112 = .ok (.ifCond .eq 26, 3) := by decide +kernel
theorem dF_role_115 : decode cF_role 115 = .ok (.aload_n 0, 1) := by decide +kernel
theorem dF_role_116 : decode cF_role 116 = .ok (.getfield 19, 3) := by decide +kernel
theorem dF_role_119 : decode cF_role 119 = .ok (.aload_n 0, 1) := by decide +kernel
theorem dF_role_120 : decode cF_role 120 = .ok (.getfield 33, 3) := by decide +kernel
theorem dF_role_123 : decode cF_role 123 = .ok (.getfield 82, 3) := by decide +kernel
theorem dF_role_126 : decode cF_role 126 = .ok (.iconst 1, 1) := by decide +kernel
theorem dF_role_127 : decode cF_role 127 = .ok (.isub, 1) := by decide +kernel
theorem dF_role_128 : decode cF_role 128 = .ok (.invokevirtual 96, 3) := by decide +kernel
theorem dF_role_131 : decode cF_role 131 = .ok (.ifCond .eq 7, 3) := by decide +kernel
theorem dF_role_134 : decode cF_role 134 = .ok (.iconst 1, 1) := by decide +kernel
theorem dF_role_135 : decode cF_role 135 = .ok (.goto 4, 3) := by decide +kernel
theorem dF_role_138 : decode cF_role 138 = .ok (.iconst 0, 1) := by decide +kernel
theorem dF_role_139 : decode cF_role 139 = .ok (.ireturn, 1) := by decide +kernel
theorem dF_slack_0 : decode cF_slack 0 = .ok (.aload_n 0, 1) := by decide +kernel
theorem dF_slack_1 : decode cF_slack 1 = .ok (.getfield 12, 3) := by decide +kernel
theorem dF_slack_4 : decode cF_slack 4 = .ok (.iload_n 1, 1) := by decide +kernel
theorem dF_slack_5 : decode cF_slack 5 = .ok (.invokevirtual 48, 3) := by decide +kernel
theorem dF_slack_8 : decode cF_slack 8 = .ok (.ifCond .ne 5, 3) := by decide +kernel
theorem dF_slack_11 : decode cF_slack 11 = .ok (.iconst (-1), 1) := by decide +kernel
theorem dF_slack_12 : decode cF_slack 12 = .ok (.ireturn, 1) := by decide +kernel
theorem dF_slack_13 : decode cF_slack 13 = .ok (.aload_n 0, 1) := by decide +kernel
theorem dF_slack_14 : decode cF_slack 14 = .ok (.invokevirtual 79, 3) := by decide +kernel
theorem dF_slack_17 : decode cF_slack 17 = .ok (.aload_n 0, 1) := by decide +kernel
theorem dF_slack_18 : decode cF_slack 18 = .ok (.getfield 12, 3) := by decide +kernel
theorem dF_slack_21 : decode cF_slack 21 = .ok (.iload_n 1, 1) := by decide +kernel
theorem dF_slack_22 : decode cF_slack 22 = .ok (.aload_n 0, 1) := by decide +kernel
theorem dF_slack_23 : decode cF_slack 23 = .ok (.getfield 33, 3) := by decide +kernel
theorem dF_slack_26 : decode cF_slack 26 = .ok (.getfield 85, 3) := by decide +kernel
theorem dF_slack_29 : decode cF_slack 29 = .ok (.invokevirtual 75, 3) := by decide +kernel
theorem dF_slack_32 : decode cF_slack 32 = .ok (.istore_n 2, 1) := by decide +kernel
theorem dF_slack_33 : decode cF_slack 33 = .ok (.iload_n 2, 1) := by decide +kernel
theorem dF_slack_34 : decode cF_slack 34 = .ok (.ifCond .le 27, 3) := by decide +kernel
theorem dF_slack_37 : decode cF_slack 37 = .ok (.aload_n 0, 1) := by decide +kernel
theorem dF_slack_38 : decode cF_slack 38 = .ok (.iload_n 1, 1) := by decide +kernel
theorem dF_slack_39 : decode cF_slack 39 = .ok (.iload_n 2, 1) := by decide +kernel
