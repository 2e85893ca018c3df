theorem dF_slack_40 : decode cF_slack 40 = .ok (.iconst 1, 1) := by decide +kernel
theorem dF_slack_41 : decode cF_slack 41 = .ok (.isub, 1) := by decide +kernel
theorem dF_slack_42 : decode cF_slack 42 = .ok (.aload_n 0, 1) := by decide +kernel
theorem dF_slack_43 : decode cF_slack 43 = .ok (.getfield 33, 3) := by decide +kernel
theorem dF_slack_46 : decode cF_slack 46 = .ok (.getfield 82, 3) := by decide +kernel
theorem dF_slack_49 : decode cF_slack 49 = .ok (.invokevirtual 102, 3) := by decide +kernel
theorem dF_slack_52 : decode cF_slack 52 = .ok (.ifCond .eq 9, 3) := by decide +kernel
theorem dF_slack_55 : decode cF_slack 55 = .ok (.iinc 2 (-1), 3) := by decide +kernel
theorem dF_slack_58 : decode cF_slack 58 = .ok (.goto (-25), 3) := by decide +kernel
theorem dF_slack_61 : decode cF_slack 61 = .ok (.aload_n 0, 1) := by decide +kernel
theorem dF_slack_62 : decode cF_slack 62 = .ok (.getfield 12, 3) := by decide +kernel
theorem dF_slack_65 : decode cF_slack 65 = .ok (.getfield 62, 3) := by decide +kernel
theorem dF_slack_68 : decode cF_slack 68 = .ok (.iload_n 1, 1) := by decide +kernel
theorem dF_slack_69 : decode cF_slack 69 = .ok (.iaload, 1) := by decide +kernel
theorem dF_slack_70 : decode cF_slack 70 = .ok (.iload_n 2, 1) := by decide +kernel
theorem dF_slack_71 : decode cF_slack 71 = .ok (.isub, 1) := by decide +kernel
theorem dF_slack_72 : decode cF_slack 72 = .ok (.ireturn, 1) := by decide +kernel
theorem dF_gain_0 : decode cF_gain 0 = .ok (.aload_n 0, 1) := by decide +kernel
theorem dF_gain_1 : decode cF_gain 1 = .ok (.getfield 12, 3) := by decide +kernel
theorem dF_gain_4 : decode cF_gain 4 = .ok (.iload_n 1, 1) := by decide +kernel
theorem dF_gain_5 : decode cF_gain 5 = .ok (.invokevirtual 48, 3) := by decide +kernel
theorem dF_gain_8 : decode cF_gain 8 = .ok (.ifCond .ne 5, 3) := by decide +kernel
theorem dF_gain_11 : decode cF_gain 11 = .ok (.iconst (-1), 1) := by decide +kernel
theorem dF_gain_12 : decode cF_gain 12 = .ok (.ireturn, 1) := by decide +kernel
theorem dF_gain_13 : decode cF_gain 13 = .ok (.aload_n 0, 1) := by decide +kernel
theorem dF_gain_14 : decode cF_gain 14 = .ok (.invokevirtual 79, 3) := by decide +kernel
theorem dF_gain_17 : decode cF_gain 17 = .ok (.aload_n 0, 1) := by decide +kernel
theorem dF_gain_18 : decode cF_gain 18 = .ok (.iload_n 1, 1) := by decide +kernel
theorem dF_gain_19 : decode cF_gain 19 = .ok (.aload_n 0, 1) := by decide +kernel
theorem dF_gain_20 : decode cF_gain 20 = .ok (.getfield 12, 3) := by decide +kernel
theorem dF_gain_23 : decode cF_gain 23 = .ok (.getfield 62, 3) := by decide +kernel
theorem dF_gain_26 : decode cF_gain 26 = .ok (.iload_n 1, 1) := by decide +kernel
theorem dF_gain_27 : decode cF_gain 27 = .ok (.iaload, 1) := by decide +kernel
theorem dF_gain_28 : decode cF_gain 28 = .ok (.iconst 1, 1) := by decide +kernel
theorem dF_gain_29 : decode cF_gain 29 = .ok (.iadd, 1) := by decide +kernel
theorem dF_gain_30 : decode cF_gain 30 = .ok (.aload_n 0, 1) := by decide +kernel
theorem dF_gain_31 : decode cF_gain 31 = .ok (.getfield 33, 3) := by decide +kernel
theorem dF_gain_34 : decode cF_gain 34 = .ok (.getfield 82, 3) := by decide +kernel
theorem dF_gain_37 : decode cF_gain 37 = .ok (.iconst 1, 1) := by decide +kernel
theorem dF_gain_38 : decode cF_gain 38 = .ok (.iadd, 1) := by decide +kernel
theorem dF_gain_39 : decode cF_gain 39 = .ok (.invokevirtual 102, 3) := by decide +kernel
theorem dF_gain_42 : decode cF_gain 42 = .ok (.ifCond .eq 7, 3) := by decide +kernel
theorem dF_gain_45 : decode cF_gain 45 = .ok (.iconst 1, 1) := by decide +kernel
theorem dF_gain_46 : decode cF_gain 46 = .ok (.goto 4, 3) := by decide +kernel
theorem dF_gain_49 : decode cF_gain 49 = .ok (.iconst 0, 1) := by decide +kernel
theorem dF_gain_50 : decode cF_gain 50 = .ok (.ireturn, 1) := by decide +kernel
theorem dF_bound_0 : decode cF_bound 0 = .ok (.iload_n 1, 1) := by decide +kernel
theorem dF_bound_1 : decode cF_bound 1 = .ok (.ifCond .lt 27, 3) := by decide +kernel
theorem dF_bound_4 : decode cF_bound 4 = .ok (.iload_n 2, 1) := by decide +kernel
theorem dF_bound_5 : decode cF_bound 5 = .ok (.ifCond .lt 23, 3) := by decide +kernel
theorem dF_bound_8 : decode cF_bound 8 = .ok (.iload_n 1, 1) := by decide +kernel
theorem dF_bound_9 : decode cF_bound 9 = .ok (.iload_n 2, 1) := by decide +kernel
theorem dF_bound_10 : decode cF_bound 10 = .ok (.iand, 1) := by decide +kernel
theorem dF_bound_11 : decode cF_bound 11 = .ok (.ifCond .ne 17, 3) := by decide +kernel
theorem dF_bound_14 : decode cF_bound 14 = .ok (.iload_n 1, 1) := by decide +kernel
theorem dF_bound_15 : decode cF_bound 15 = .ok (.iload_n 2, 1) := by decide +kernel
theorem dF_bound_16 : decode cF_bound 16 = .ok (.ior, 1) := by decide +kernel
theorem dF_bound_17 : decode cF_bound 17 = .ok (.aload_n 0, 1) := by decide +kernel
theorem dF_bound_18 : decode cF_bound 18 = .ok (.getfield 12, 3) := by decide +kernel
theorem dF_bound_21 : decode cF_bound 21 = .ok (.getfield 66, 3) := by decide +kernel
theorem dF_bound_24 : decode cF_bound 24 = .ok (.ishr, 1) := by decide +kernel
theorem dF_bound_25 : decode cF_bound 25 = .ok (.ifCond .eq 5, 3) := by decide +kernel
theorem dF_bound_28 : decode cF_bound 28 = .ok (.iconst (-1), 1) := by decide +kernel
theorem dF_bound_29 : decode cF_bound 29 = .ok (.ireturn, 1) := by decide +kernel
theorem dF_bound_30 : decode cF_bound 30 = .ok (.aload_n 0, 1) := by decide +kernel
theorem dF_bound_31 : decode cF_bound 31 = .ok (.invokevirtual 106, 3) := by decide +kernel
theorem dF_bound_34 : decode cF_bound 34 = .ok (.aload_n 0, 1) := by decide +kernel
theorem dF_bound_35 : decode cF_bound 35 = .ok (.getfield 26, 3) := by decide +kernel
theorem dF_bound_38 : decode cF_bound 38 = .ok (.iload_n 1, 1) := by decide +kernel
theorem dF_bound_39 : decode cF_bound 39 = .ok (.iload_n 2, 1) := by decide +kernel
theorem dF_bound_40 : decode cF_bound 40 = .ok (.invokevirtual 109, 3) := by decide +kernel
theorem dF_bound_43 : decode cF_bound 43 = .ok (.ireturn, 1) := by decide +kernel
theorem dF_witness_0 : decode cF_witness 0 = .ok (.iload_n 1, 1) := by decide +kernel
theorem dF_witness_1 : decode cF_witness 1 = .ok (.ifCond .lt 8, 3) := by decide +kernel
theorem dF_witness_4 : decode cF_witness 4 = .ok (.iload_n 1, 1) := by decide +kernel
theorem dF_witness_5 : decode cF_witness 5 = .ok (.iconst 1, 1) := by decide +kernel
theorem dF_witness_6 : decode cF_witness 6 = .ok (.if_icmp .le 5, 3) := by decide +kernel
theorem dF_witness_9 : decode cF_witness 9 = .ok (.iconst (-1), 1) := by decide +kernel
theorem dF_witness_10 : decode cF_witness 10 = .ok (.ireturn, 1) := by decide +kernel
theorem dF_witness_11 : decode cF_witness 11 = .ok (.aload_n 0, 1) := by decide +kernel
theorem dF_witness_12 : decode cF_witness 12 = .ok (.invokevirtual 112, 3) := by decide +kernel
theorem dF_witness_15 : decode cF_witness 15 = .ok (.iload_n 1, 1) := by decide +kernel
theorem dF_witness_16 : decode cF_witness 16 = .ok (.ifCond .ne 13, 3) := by decide +kernel
theorem dF_witness_19 : decode cF_witness 19 = .ok (.aload_n 0, 1) := by decide +kernel
theorem dF_witness_20 : decode cF_witness 20 = .ok (.getfield 33, 3) := by decide +kernel
theorem dF_witness_23 : decode cF_witness 23 = .ok (.getfield 115, 3) := by decide +kernel
theorem dF_witness_26 : decode cF_witness 26 = .ok (.goto 10, 3) := by decide +kernel
theorem dF_witness_29 : decode cF_witness 29 = .ok (.aload_n 0, 1) := by decide +kernel
theorem dF_witness_30 : decode cF_witness 30 = .ok (.getfield 33, 3) := by decide +kernel
theorem dF_witness_33 : decode cF_witness 33 = .ok (.getfield 118, 3) := by decide +kernel
theorem dF_witness_36 : decode cF_witness 36 = .ok (.ireturn, 1) := by decide +kernel
theorem dF_solve_0 : decode cF_solve 0 = .ok (.aload_n 0, 1) := by decide +kernel
theorem dF_solve_1 : decode cF_solve 1 = .ok (.getfield 33, 3) := by decide +kernel
theorem dF_solve_4 : decode cF_solve 4 = .ok (.getfield 121, 3) := by decide +kernel
theorem dF_solve_7 : decode cF_solve 7 = .ok (.ifCond .ne 58, 3) := by decide +kernel
theorem dF_solve_10 : decode cF_solve 10 = .ok (.aload_n 0, 1) := by decide +kernel
theorem dF_solve_11 : decode cF_solve 11 = .ok (.getfield 19, 3) := by decide +kernel
theorem dF_solve_14 : decode cF_solve 14 = .ok (.aload_n 0, 1) := by decide +kernel
theorem dF_solve_15 : decode cF_solve 15 = .ok (.getfield 12, 3) := by decide +kernel
theorem dF_solve_18 : decode cF_solve 18 = .ok (.iconst (-1), 1) := by decide +kernel
theorem dF_solve_19 : decode cF_solve 19 = .ok (.invokevirtual 92, 3) := by decide +kernel
theorem dF_solve_22 : decode cF_solve 22 = .ok (.aload_n 0, 1) := by decide +kernel
theorem dF_solve_23 : decode cF_solve 23 = .ok (.getfield 19, 3) := by decide +kernel
theorem dF_solve_26 : decode cF_solve 26 = .ok (.invokevirtual 125, 3) := by decide +kernel
theorem dF_solve_29 : decode cF_solve 29 = .ok (.aload_n 0, 1) := by decide +kernel
theorem dF_solve_30 : decode cF_solve 30 = .ok (.getfield 33, 3) := by decide +kernel
theorem dF_solve_33 : decode cF_solve 33 = .ok (.aload_n 0, 1) := by decide +kernel
theorem dF_solve_34 : decode cF_solve 34 = .ok (.getfield 19, 3) := by decide +kernel
theorem dF_solve_37 : decode cF_solve 37 = .ok (.getfield 128, 3) := by decide +kernel
theorem dF_solve_40 : decode cF_solve 40 = .ok (.putfield 85, 3) := by decide +kernel
theorem dF_solve_43 : decode cF_solve 43 = .ok (.aload_n 0, 1) := by decide +kernel
theorem dF_solve_44 : decode cF_solve 44 = .ok (.getfield 33, 3) := by decide +kernel
theorem dF_solve_47 : decode cF_solve 47 = .ok (.aload_n 0, 1) := by decide +kernel
theorem dF_solve_48 : decode cF_solve 48 = .ok (.getfield 19, 3) := by decide +kernel
theorem dF_solve_51 : decode cF_solve 51 = .ok (.getfield 131, 3) := by decide +kernel
theorem dF_solve_54 : decode cF_solve 54 = .ok (.putfield 82, 3) := by decide +kernel
theorem dF_solve_57 : decode cF_solve 57 = .ok (.aload_n 0, 1) := by decide +kernel
theorem dF_solve_58 : decode cF_solve 58 = .ok (.getfield 33, 3) := by decide +kernel
theorem dF_solve_61 : decode cF_solve 61 = .ok (.iconst 1, 1) := by decide +kernel
theorem dF_solve_62 : decode cF_solve 62 = .ok (.putfield 121, 3) := by decide +kernel
theorem dF_solve_65 : decode cF_solve 65 = .ok (.return_, 1) := by decide +kernel
theorem dF_tabulate_0 : decode cF_tabulate 0 = .ok (.aload_n 0, 1) := by decide +kernel
theorem dF_tabulate_1 : decode cF_tabulate 1 = .ok (.getfield 33, 3) := by decide +kernel
theorem dF_tabulate_4 : decode cF_tabulate 4 = .ok (.getfield 134, 3) := by decide +kernel
theorem dF_tabulate_7 : decode cF_tabulate 7 = .ok (.ifCond .ne 22, 3) := by decide +kernel
theorem dF_tabulate_10 : decode cF_tabulate 10 = .ok (.aload_n 0, 1) := by decide +kernel
theorem dF_tabulate_11 : decode cF_tabulate 11 = .ok (.getfield 26, 3) := by decide +kernel
theorem dF_tabulate_14 : decode cF_tabulate 14 = .ok (.aload_n 0, 1) := by decide +kernel
theorem dF_tabulate_15 : decode cF_tabulate 15 = .ok (.getfield 12, 3) := by decide +kernel
theorem dF_tabulate_18 : decode cF_tabulate 18 = .ok (.invokevirtual 137, 3) := by decide +kernel
theorem dF_tabulate_21 : decode cF_tabulate 21 = .ok (.aload_n 0, 1) := by decide +kernel
theorem dF_tabulate_22 : decode cF_tabulate 22 = .ok (.getfield 33, 3) := by decide +kernel
theorem dF_tabulate_25 : decode cF_tabulate 25 = .ok (.iconst 1, 1) := by decide +kernel
theorem dF_tabulate_26 : decode cF_tabulate 26 = .ok (.putfield 134, 3) := by decide +kernel
theorem dF_tabulate_29 : decode cF_tabulate 29 = .ok (.return_, 1) := by decide +kernel
theorem dF_explain_0 : decode cF_explain 0 = .ok (.aload_n 0, 1) := by decide +kernel
theorem dF_explain_1 : decode cF_explain 1 = .ok (.getfield 33, 3) := by decide +kernel
theorem dF_explain_4 : decode cF_explain 4 = .ok (.getfield 140, 3) := by decide +kernel
theorem dF_explain_7 : decode cF_explain 7 = .ok (.ifCond .ne 61, 3) := by decide +kernel
theorem dF_explain_10 : decode cF_explain 10 = .ok (.aload_n 0, 1) := by decide +kernel
theorem dF_explain_11 : decode cF_explain 11 = .ok (.invokevirtual 79, 3) := by decide +kernel
theorem dF_explain_14 : decode cF_explain 14 = .ok (.aload_n 0, 1) := by decide +kernel
theorem dF_explain_15 : decode cF_explain 15 = .ok (.invokevirtual 106, 3) := by decide +kernel
theorem dF_explain_18 : decode cF_explain 18 = .ok (.aload_n 0, 1) := by decide +kernel
theorem dF_explain_19 : decode cF_explain 19 = .ok (.getfield 26, 3) := by decide +kernel
theorem dF_explain_22 : decode cF_explain 22 = .ok (.aload_n 0, 1) := by decide +kernel
theorem dF_explain_23 : decode cF_explain 23 = .ok (.getfield 33, 3) := by decide +kernel
theorem dF_explain_26 : decode cF_explain 26 = .ok (.getfield 82, 3) := by decide +kernel
theorem dF_explain_29 : decode cF_explain 29 = .ok (.invokevirtual 143, 3) := by decide +kernel
theorem dF_explain_32 : decode cF_explain 32 = .ok (.aload_n 0, 1) := by decide +kernel
theorem dF_explain_33 : decode cF_explain 33 = .ok (.getfield 33, 3) := by decide +kernel
theorem dF_explain_36 : decode cF_explain 36 = .ok (.aload_n 0, 1) := by decide +kernel
theorem dF_explain_37 : decode cF_explain 37 = .ok (.getfield 26, 3) := by decide +kernel
theorem dF_explain_40 : decode cF_explain 40 = .ok (.getfield 146, 3) := by decide +kernel
theorem dF_explain_43 : decode cF_explain 43 = .ok (.putfield 115, 3) := by decide +kernel
theorem dF_explain_46 : decode cF_explain 46 = .ok (.aload_n 0, 1) := by decide +kernel
theorem dF_explain_47 : decode cF_explain 47 = .ok (.getfield 33, 3) := by decide +kernel
theorem dF_explain_50 : decode cF_explain 50 = .ok (.aload_n 0, 1) := by decide +kernel
theorem dF_explain_51 : decode cF_explain 51 = .ok (.getfield 26, 3) := by decide +kernel
theorem dF_explain_54 : decode cF_explain 54 = .ok (.getfield 149, 3) := by decide +kernel
theorem dF_explain_57 : decode cF_explain 57 = .ok (.putfield 118, 3) := by decide +kernel
theorem dF_explain_60 : decode cF_explain 60 = .ok (.aload_n 0, 1) := by decide +kernel
theorem dF_explain_61 : decode cF_explain 61 = .ok (.getfield 33, 3) := by decide +kernel
theorem dF_explain_64 : decode cF_explain 64 = .ok (.iconst 1, 1) := by decide +kernel
theorem dF_explain_65 : decode cF_explain 65 = .ok (.putfield 140, 3) := by decide +kernel
theorem dF_explain_68 : decode cF_explain 68 = .ok (.return_, 1) := by decide +kernel
theorem dF_reachesWith_0 : decode cF_reachesWith 0 = .ok (.aload_n 0, 1) := by decide +kernel
theorem dF_reachesWith_1 : decode cF_reachesWith 1 = .ok (.getfield 19, 3) := by decide +kernel
theorem dF_reachesWith_4 : decode cF_reachesWith 4 = .ok (.aload_n 0, 1) := by decide +kernel
theorem dF_reachesWith_5 : decode cF_reachesWith 5 = .ok (.getfield 12, 3) := by decide +kernel
theorem dF_reachesWith_8 : decode cF_reachesWith 8 = .ok (.iconst (-1), 1) := by decide +kernel
theorem dF_reachesWith_9 : decode cF_reachesWith 9 = .ok (.invokevirtual 92, 3) := by decide +kernel
theorem dF_reachesWith_12 : decode cF_reachesWith 12 = .ok (.aload_n 0, 1) := by decide +kernel
theorem dF_reachesWith_13 : decode cF_reachesWith 13 = .ok (.getfield 19, 3) := by decide +kernel
theorem dF_reachesWith_16 : decode cF_reachesWith 16 = .ok (.getfield 152, 3) := by decide +kernel
theorem dF_reachesWith_19 : decode cF_reachesWith 19 = .ok (.iload_n 1, 1) := by decide +kernel
theorem dF_reachesWith_20 : decode cF_reachesWith 20 = .ok (.iload_n 2, 1) := by decide +kernel
theorem dF_reachesWith_21 : decode cF_reachesWith 21 = .ok (.iastore, 1) := by decide +kernel
theorem dF_reachesWith_22 : decode cF_reachesWith 22 = .ok (.aload_n 0, 1) := by decide +kernel
theorem dF_reachesWith_23 : decode cF_reachesWith 23 = .ok (.getfield 19, 3) := by decide +kernel
theorem dF_reachesWith_26 : decode cF_reachesWith 26 = .ok (.iload_n 3, 1) := by decide +kernel
theorem dF_reachesWith_27 : decode cF_reachesWith 27 = .ok (.invokevirtual 96, 3) := by decide +kernel
theorem dF_reachesWith_30 : decode cF_reachesWith 30 = .ok (.ireturn, 1) := by decide +kernel
