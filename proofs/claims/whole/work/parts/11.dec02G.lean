theorem dG_init_0 : decode cG_init 0 = .ok (.aload_n 0, 1) := by decide +kernel
theorem dG_init_1 : decode cG_init 1 = .ok (.invokespecial 3, 3) := by decide +kernel
theorem dG_init_4 : decode cG_init 4 = .ok (.aload_n 0, 1) := by decide +kernel
theorem dG_init_5 : decode cG_init 5 = .ok (.iconst 1, 1) := by decide +kernel
theorem dG_init_6 : decode cG_init 6 = .ok (.putfield 9, 3) := by decide +kernel
theorem dG_init_9 : decode cG_init 9 = .ok (.aload_n 0, 1) := by decide +kernel
theorem dG_init_10 : decode cG_init 10 = .ok (.bipush 14, 2) := by decide +kernel
theorem dG_init_12 : decode cG_init 12 = .ok (.newarray .int, 2) := by decide +kernel
theorem dG_init_14 : decode cG_init 14 = .ok (.putfield 15, 3) := by decide +kernel
theorem dG_init_17 : decode cG_init 17 = .ok (.aload_n 0, 1) := by decide +kernel
theorem dG_init_18 : decode cG_init 18 = .ok (.bipush 14, 2) := by decide +kernel
theorem dG_init_20 : decode cG_init 20 = .ok (.newarray .int, 2) := by decide +kernel
theorem dG_init_22 : decode cG_init 22 = .ok (.putfield 19, 3) := by decide +kernel
theorem dG_init_25 : decode cG_init 25 = .ok (.aload_n 0, 1) := by decide +kernel
theorem dG_init_26 : decode cG_init 26 = .ok (.bipush 9, 2) := by decide +kernel
theorem dG_init_28 : decode cG_init 28 = .ok (.newarray .int, 2) := by decide +kernel
theorem dG_init_30 : decode cG_init 30 = .ok (.putfield 22, 3) := by decide +kernel
theorem dG_init_33 : decode cG_init 33 = .ok (.return_, 1) := by decide +kernel
theorem dG_clear_0 : decode cG_clear 0 = .ok (.aload_n 0, 1) := by decide +kernel
theorem dG_clear_1 : decode cG_clear 1 = .ok (.iload_n 1, 1) := by decide +kernel
theorem dG_clear_2 : decode cG_clear 2 = .ok (.putfield 9, 3) := by decide +kernel
theorem dG_clear_5 : decode cG_clear 5 = .ok (.aload_n 0, 1) := by decide +kernel
theorem dG_clear_6 : decode cG_clear 6 = .ok (.iconst 0, 1) := by decide +kernel
theorem dG_clear_7 : decode cG_clear 7 = .ok (.putfield 25, 3) := by decide +kernel
theorem dG_clear_10 : decode cG_clear 10 = .ok (.iconst 0, 1) := by decide +kernel
theorem dG_clear_11 : decode cG_clear 11 = .ok (.istore_n 2, 1) := by decide +kernel
theorem dG_clear_12 : decode cG_clear 12 = .ok (.iload_n 2, 1) := by decide +kernel
theorem dG_clear_13 : decode cG_clear 13 = .ok (.bipush 9, 2) := by decide +kernel
theorem dG_clear_15 : decode cG_clear 15 = .ok (.if_icmp .ge 16, 3) := by decide +kernel
theorem dG_clear_18 : decode cG_clear 18 = .ok (.aload_n 0, 1) := by decide +kernel
theorem dG_clear_19 : decode cG_clear 19 = .ok (.getfield 22, 3) := by decide +kernel
theorem dG_clear_22 : decode cG_clear 22 = .ok (.iload_n 2, 1) := by decide +kernel
theorem dG_clear_23 : decode cG_clear 23 = .ok (.iconst 0, 1) := by decide +kernel
theorem dG_clear_24 : decode cG_clear 24 = .ok (.iastore, 1) := by decide +kernel
theorem dG_clear_25 : decode cG_clear 25 = .ok (.iinc 2 1, 3) := by decide +kernel
theorem dG_clear_28 : decode cG_clear 28 = .ok (.goto (-16), 3) := by decide +kernel
theorem dG_clear_31 : decode cG_clear 31 = .ok (.return_, 1) := by decide +kernel
theorem dG_hasVertex_0 : decode cG_hasVertex 0 = .ok (.iload_n 1, 1) := by decide +kernel
theorem dG_hasVertex_1 : decode cG_hasVertex 1 = .ok (.ifCond .lt 15, 3) := by decide +kernel
theorem dG_hasVertex_4 : decode cG_hasVertex 4 = .ok (.iload_n 1, 1) := by decide +kernel
theorem dG_hasVertex_5 : decode cG_hasVertex 5 = .ok (.aload_n 0, 1) := by decide +kernel
theorem dG_hasVertex_6 : decode cG_hasVertex 6 = .ok (.getfield 9, 3) := by decide +kernel
theorem dG_hasVertex_9 : decode cG_hasVertex 9 = .ok (.if_icmp .ge 7, 3) := by decide +kernel
theorem dG_hasVertex_12 : decode cG_hasVertex 12 = .ok (.iconst 1, 1) := by decide +kernel
theorem dG_hasVertex_13 : decode cG_hasVertex 13 = .ok (.goto 4, 3) := by decide +kernel
theorem dG_hasVertex_16 : decode cG_hasVertex 16 = .ok (.iconst 0, 1) := by decide +kernel
theorem dG_hasVertex_17 : decode cG_hasVertex 17 = .ok (.ireturn, 1) := by decide +kernel
theorem dG_hasEdge_0 : decode cG_hasEdge 0 = .ok (.iload_n 1, 1) := by decide +kernel
theorem dG_hasEdge_1 : decode cG_hasEdge 1 = .ok (.ifCond .lt 15, 3) := by decide +kernel
theorem dG_hasEdge_4 : decode cG_hasEdge 4 = .ok (.iload_n 1, 1) := by decide +kernel
theorem dG_hasEdge_5 : decode cG_hasEdge 5 = .ok (.aload_n 0, 1) := by decide +kernel
theorem dG_hasEdge_6 : decode cG_hasEdge 6 = .ok (.getfield 25, 3) := by decide +kernel
theorem dG_hasEdge_9 : decode cG_hasEdge 9 = .ok (.if_icmp .ge 7, 3) := by decide +kernel
theorem dG_hasEdge_12 : decode cG_hasEdge 12 = .ok (.iconst 1, 1) := by decide +kernel
theorem dG_hasEdge_13 : decode cG_hasEdge 13 = .ok (.goto 4, 3) := by decide +kernel
theorem dG_hasEdge_16 : decode cG_hasEdge 16 = .ok (.iconst 0, 1) := by decide +kernel
theorem dG_hasEdge_17 : decode cG_hasEdge 17 = .ok (.ireturn, 1) := by decide +kernel
theorem dG_append_0 : decode cG_append 0 = .ok (.aload_n 0, 1) := by decide +kernel
theorem dG_append_1 : decode cG_append 1 = .ok (.getfield 15, 3) := by decide +kernel
theorem dG_append_4 : decode cG_append 4 = .ok (.aload_n 0, 1) := by decide +kernel
theorem dG_append_5 : decode cG_append 5 = .ok (.getfield 25, 3) := by decide +kernel
theorem dG_append_8 : decode cG_append 8 = .ok (.iload_n 1, 1) := by decide +kernel
theorem dG_append_9 : decode cG_append 9 = .ok (.iastore, 1) := by decide +kernel
theorem dG_append_10 : decode cG_append 10 = .ok (.aload_n 0, 1) := by decide +kernel
theorem dG_append_11 : decode cG_append 11 = .ok (.getfield 19, 3) := by decide +kernel
theorem dG_append_14 : decode cG_append 14 = .ok (.aload_n 0, 1) := by decide +kernel
theorem dG_append_15 : decode cG_append 15 = .ok (.getfield 25, 3) := by decide +kernel
theorem dG_append_18 : decode cG_append 18 = .ok (.iload_n 2, 1) := by decide +kernel
theorem dG_append_19 : decode cG_append 19 = .ok (.iastore, 1) := by decide +kernel
theorem dG_append_20 : decode cG_append 20 = .ok (.aload_n 0, 1) := by decide +kernel
theorem dG_append_21 : decode cG_append 21 = .ok (.dup, 1) := by decide +kernel
theorem dG_append_22 : decode cG_append 22 = .ok (.getfield 25, 3) := by decide +kernel
theorem dG_append_25 : decode cG_append 25 = .ok (.iconst 1, 1) := by decide +kernel
theorem dG_append_26 : decode cG_append 26 = .ok (.iadd, 1) := by decide +kernel
theorem dG_append_27 : decode cG_append 27 = .ok (.putfield 25, 3) := by decide +kernel
theorem dG_append_30 : decode cG_append 30 = .ok (.return_, 1) := by decide +kernel
theorem dG_remove_0 : decode cG_remove 0 = .ok (.aload_n 0, 1) := by decide +kernel
theorem dG_remove_1 : decode cG_remove 1 = .ok (.dup, 1) := by decide +kernel
theorem dG_remove_2 : decode cG_remove 2 = .ok (.getfield 25, 3) := by decide +kernel
theorem dG_remove_5 : decode cG_remove 5 = .ok (.iconst 1, 1) := by decide +kernel
theorem dG_remove_6 : decode cG_remove 6 = .ok (.isub, 1) := by decide +kernel
theorem dG_remove_7 : decode cG_remove 7 = .ok (.putfield 25, 3) := by decide +kernel
theorem dG_remove_10 : decode cG_remove 10 = .ok (.iload_n 1, 1) := by decide +kernel
theorem dG_remove_11 : decode cG_remove 11 = .ok (.istore_n 2, 1) := by decide +kernel
theorem dG_remove_12 : decode cG_remove 12 = .ok (.iload_n 2, 1) := by decide +kernel
theorem dG_remove_13 : decode cG_remove 13 = .ok (.aload_n 0, 1) := by decide +kernel
theorem dG_remove_14 : decode cG_remove 14 = .ok (.getfield 25, 3) := by decide +kernel
theorem dG_remove_17 : decode cG_remove 17 = .ok (.if_icmp .ge 37, 3) := by decide +kernel
theorem dG_remove_20 : decode cG_remove 20 = .ok (.aload_n 0, 1) := by decide +kernel
theorem dG_remove_21 : decode cG_remove 21 = .ok (.getfield 15, 3) := by decide +kernel
theorem dG_remove_24 : decode cG_remove 24 = .ok (.iload_n 2, 1) := by decide +kernel
theorem dG_remove_25 : decode cG_remove 25 = .ok (.aload_n 0, 1) := by decide +kernel
theorem dG_remove_26 : decode cG_remove 26 = .ok (.getfield 15, 3) := by decide +kernel
theorem dG_remove_29 : decode cG_remove 29 = .ok (.iload_n 2, 1) := by decide +kernel
theorem dG_remove_30 : decode cG_remove 30 = .ok (.iconst 1, 1) := by decide +kernel
theorem dG_remove_31 : decode cG_remove 31 = .ok (.iadd, 1) := by decide +kernel
theorem dG_remove_32 : decode cG_remove 32 = .ok (.iaload, 1) := by decide +kernel
theorem dG_remove_33 : decode cG_remove 33 = .ok (.iastore, 1) := by decide +kernel
theorem dG_remove_34 : decode cG_remove 34 = .ok (.aload_n 0, 1) := by decide +kernel
theorem dG_remove_35 : decode cG_remove 35 = .ok (.getfield 19, 3) := by decide +kernel
theorem dG_remove_38 : decode cG_remove 38 = .ok (.iload_n 2, 1) := by decide +kernel
theorem dG_remove_39 : decode cG_remove 39 = .ok (.aload_n 0, 1) := by decide +kernel
theorem dG_remove_40 : decode cG_remove 40 = .ok (.getfield 19, 3) := by decide +kernel
theorem dG_remove_43 : decode cG_remove 43 = .ok (.iload_n 2, 1) := by decide +kernel
theorem dG_remove_44 : decode cG_remove 44 = .ok (.iconst 1, 1) := by decide +kernel
theorem dG_remove_45 : decode cG_remove 45 = .ok (.iadd, 1) := by decide +kernel
theorem dG_remove_46 : decode cG_remove 46 = .ok (.iaload, 1) := by decide +kernel
theorem dG_remove_47 : decode cG_remove 47 = .ok (.iastore, 1) := by decide +kernel
theorem dG_remove_48 : decode cG_remove 48 = .ok (.iinc 2 1, 3) := by decide +kernel
theorem dG_remove_51 : decode cG_remove 51 = .ok (.goto (-39), 3) := by decide +kernel
theorem dG_remove_54 : decode cG_remove 54 = .ok (.return_, 1) := by decide +kernel
theorem dG_degree_0 : decode cG_degree 0 = .ok (.iconst 0, 1) := by decide +kernel
theorem dG_degree_1 : decode cG_degree 1 = .ok (.istore_n 3, 1) := by decide +kernel
theorem dG_degree_2 : decode cG_degree 2 = .ok (.iconst 0, 1) := by decide +kernel
theorem dG_degree_3 : decode cG_degree 3 = .ok (.istore 4, 2) := by decide +kernel
theorem dG_degree_5 : decode cG_degree 5 = .ok (.iload 4, 2) := by decide +kernel
theorem dG_degree_7 : decode cG_degree 7 = .ok (.aload_n 0, 1) := by decide +kernel
theorem dG_degree_8 : decode cG_degree 8 = .ok (.getfield 25, 3) := by decide +kernel
theorem dG_degree_11 : decode cG_degree 11 = .ok (.if_icmp .ge 44, 3) := by decide +kernel
theorem dG_degree_14 : decode cG_degree 14 = .ok (.iload_n 2, 1) := by decide +kernel
theorem dG_degree_15 : decode cG_degree 15 = .ok (.iload 4, 2) := by decide +kernel
theorem dG_degree_17 : decode cG_degree 17 = .ok (.ishr, 1) := by decide +kernel
theorem dG_degree_18 : decode cG_degree 18 = .ok (.iconst 1, 1) := by decide +kernel
theorem dG_degree_19 : decode cG_degree 19 = .ok (.iand, 1) := by decide +kernel
theorem dG_degree_20 : decode cG_degree 20 = .ok (.iconst 1, 1) := by decide +kernel
theorem dG_degree_21 : decode cG_degree 21 = .ok (.if_icmp .ne 28, 3) := by decide +kernel
theorem dG_degree_24 : decode cG_degree 24 = .ok (.aload_n 0, 1) := by decide +kernel
theorem dG_degree_25 : decode cG_degree 25 = .ok (.getfield 15, 3) := by decide +kernel
theorem dG_degree_28 : decode cG_degree 28 = .ok (.iload 4, 2) := by decide +kernel
theorem dG_degree_30 : decode cG_degree 30 = .ok (.iaload, 1) := by decide +kernel
theorem dG_degree_31 : decode cG_degree 31 = .ok (.iload_n 1, 1) := by decide +kernel
theorem dG_degree_32 : decode cG_degree 32 = .ok (.if_icmp .eq 14, 3) := by decide +kernel
theorem dG_degree_35 : decode cG_degree 35 = .ok (.aload_n 0, 1) := by decide +kernel
theorem dG_degree_36 : decode cG_degree 36 = .ok (.getfield 19, 3) := by decide +kernel
theorem dG_degree_39 : decode cG_degree 39 = .ok (.iload 4, 2) := by decide +kernel
theorem dG_degree_41 : decode cG_degree 41 = .ok (.iaload, 1) := by decide +kernel
theorem dG_degree_42 : decode cG_degree 42 = .ok (.iload_n 1, 1) := by decide +kernel
theorem dG_degree_43 : decode cG_degree 43 = .ok (.if_icmp .ne 6, 3) := by decide +kernel
theorem dG_degree_46 : decode cG_degree 46 = .ok (.iinc 3 1, 3) := by decide +kernel
theorem dG_degree_49 : decode cG_degree 49 = .ok (.iinc 4 1, 3) := by decide +kernel
theorem dG_degree_52 : decode cG_degree 52 = .ok (.goto (-47), 3) := by decide +kernel
theorem dG_degree_55 : decode cG_degree 55 = .ok (.iload_n 3, 1) := by decide +kernel
theorem dG_degree_56 : decode cG_degree 56 = .ok (.ireturn, 1) := by decide +kernel
theorem dG_wantedByAll_0 : decode cG_wantedByAll 0 = .ok (.iconst 0, 1) := by decide +kernel
theorem dG_wantedByAll_1 : decode cG_wantedByAll 1 = .ok (.istore_n 1, 1) := by decide +kernel
theorem dG_wantedByAll_2 : decode cG_wantedByAll 2 = .ok (.iconst 0, 1) := by decide +kernel
theorem dG_wantedByAll_3 : decode cG_wantedByAll 3 = .ok (.istore_n 2, 1) := by decide +kernel
theorem dG_wantedByAll_4 : decode cG_wantedByAll 4 = .ok (.iload_n 2, 1) := by decide +kernel
theorem dG_wantedByAll_5 : decode cG_wantedByAll 5 = .ok (.aload_n 0, 1) := by decide +kernel
theorem dG_wantedByAll_6 : decode cG_wantedByAll 6 = .ok (.getfield 9, 3) := by decide +kernel
theorem dG_wantedByAll_9 : decode cG_wantedByAll 9 = .ok (.if_icmp .ge 18, 3) := by decide +kernel
theorem dG_wantedByAll_12 : decode cG_wantedByAll 12 = .ok (.iload_n 1, 1) := by decide +kernel
theorem dG_wantedByAll_13 : decode cG_wantedByAll 13 = .ok (.aload_n 0, 1) := by decide +kernel
theorem dG_wantedByAll_14 : decode cG_wantedByAll 14 = .ok (.getfield 22, 3) := by decide +kernel
theorem dG_wantedByAll_17 : decode cG_wantedByAll 17 = .ok (.iload_n 2, 1) := by decide +kernel
theorem dG_wantedByAll_18 : decode cG_wantedByAll 18 = .ok (.iaload, 1) := by decide +kernel
theorem dG_wantedByAll_19 : decode cG_wantedByAll 19 = .ok (.iadd, 1) := by decide +kernel
theorem dG_wantedByAll_20 : decode cG_wantedByAll 20 = .ok (.istore_n 1, 1) := by decide +kernel
theorem dG_wantedByAll_21 : decode cG_wantedByAll 21 = .ok (.iinc 2 1, 3) := by decide +kernel
theorem dG_wantedByAll_24 : decode cG_wantedByAll 24 = .ok (.goto (-20), 3) := by decide +kernel
theorem dG_wantedByAll_27 : decode cG_wantedByAll 27 = .ok (.iload_n 1, 1) := by decide +kernel
theorem dG_wantedByAll_28 : decode cG_wantedByAll 28 = .ok (.ireturn, 1) := by decide +kernel
