theorem dM_isFair_25 : decode cM_isFair 25 = .ok (.iconst 0, 1) := by decide +kernel
theorem dM_isFair_26 : decode cM_isFair 26 = .ok (.ireturn, 1) := by decide +kernel
theorem dM_isFair_27 : decode cM_isFair 27 = .ok (.iinc 2 1, 3) := by decide +kernel
theorem dM_isFair_30 : decode cM_isFair 30 = .ok (.goto (-28), 3) := by decide +kernel
theorem dM_isFair_33 : decode cM_isFair 33 = .ok (.iconst 1, 1) := by decide +kernel
theorem dM_isFair_34 : decode cM_isFair 34 = .ok (.ireturn, 1) := by decide +kernel
theorem dM_isFactor_0 : decode cM_isFactor 0 = .ok (.iconst 0, 1) := by decide +kernel
theorem dM_isFactor_1 : decode cM_isFactor 1 = .ok (.istore_n 2, 1) := by decide +kernel
theorem dM_isFactor_2 : decode cM_isFactor 2 = .ok (.iload_n 2, 1) := by decide +kernel
theorem dM_isFactor_3 : decode cM_isFactor 3 = .ok (.aload_n 0, 1) := by decide +kernel
theorem dM_isFactor_4 : decode cM_isFactor 4 = .ok (.getfield 7, 3) := by decide +kernel
theorem dM_isFactor_7 : decode cM_isFactor 7 = .ok (.if_icmp .ge 26, 3) := by decide +kernel
theorem dM_isFactor_10 : decode cM_isFactor 10 = .ok (.aload_n 0, 1) := by decide +kernel
theorem dM_isFactor_11 : decode cM_isFactor 11 = .ok (.iload_n 1, 1) := by decide +kernel
theorem dM_isFactor_12 : decode cM_isFactor 12 = .ok (.iload_n 2, 1) := by decide +kernel
theorem dM_isFactor_13 : decode cM_isFactor 13 = .ok (.invokevirtual 44, 3) := by decide +kernel
theorem dM_isFactor_16 : decode cM_isFactor 16 = .ok (.aload_n 0, 1) := by decide +kernel
theorem dM_isFactor_17 : decode cM_isFactor 17 = .ok (.getfield 20, 3) := by decide +kernel
theorem dM_isFactor_20 : decode cM_isFactor 20 = .ok (.iload_n 2, 1) := by decide +kernel
theorem dM_isFactor_21 : decode cM_isFactor 21 = .ok (.iaload, 1) := by decide +kernel
theorem dM_isFactor_22 : decode cM_isFactor 22 = .ok (.if_icmp .eq 5, 3) := by decide +kernel
theorem dM_isFactor_25 : decode cM_isFactor 25 = .ok (.iconst 0, 1) := by decide +kernel
theorem dM_isFactor_26 : decode cM_isFactor 26 = .ok (.ireturn, 1) := by decide +kernel
theorem dM_isFactor_27 : decode cM_isFactor 27 = .ok (.iinc 2 1, 3) := by decide +kernel
theorem dM_isFactor_30 : decode cM_isFactor 30 = .ok (.goto (-28), 3) := by decide +kernel
theorem dM_isFactor_33 : decode cM_isFactor 33 = .ok (.iconst 1, 1) := by decide +kernel
theorem dM_isFactor_34 : decode cM_isFactor 34 = .ok (.ireturn, 1) := by decide +kernel
theorem dM_allEdges_0 : decode cM_allEdges 0 = .ok (.iconst 1, 1) := by decide +kernel
theorem dM_allEdges_1 : decode cM_allEdges 1 = .ok (.aload_n 0, 1) := by decide +kernel
theorem dM_allEdges_2 : decode cM_allEdges 2 = .ok (.getfield 26, 3) := by decide +kernel
theorem dM_allEdges_5 : decode cM_allEdges 5 = .ok (.ishl, 1) := by decide +kernel
theorem dM_allEdges_6 : decode cM_allEdges 6 = .ok (.iconst 1, 1) := by decide +kernel
theorem dM_allEdges_7 : decode cM_allEdges 7 = .ok (.isub, 1) := by decide +kernel
theorem dM_allEdges_8 : decode cM_allEdges 8 = .ok (.ireturn, 1) := by decide +kernel
theorem dM_judge_0 : decode cM_judge 0 = .ok (.iload_n 1, 1) := by decide +kernel
theorem dM_judge_1 : decode cM_judge 1 = .ok (.ifCond .lt 11, 3) := by decide +kernel
theorem dM_judge_4 : decode cM_judge 4 = .ok (.iload_n 1, 1) := by decide +kernel
theorem dM_judge_5 : decode cM_judge 5 = .ok (.aload_n 0, 1) := by decide +kernel
theorem dM_judge_6 : decode cM_judge 6 = .ok (.invokevirtual 48, 3) := by decide +kernel
theorem dM_judge_9 : decode cM_judge 9 = .ok (.if_icmp .le 5, 3) := by decide +kernel
theorem dM_judge_12 : decode cM_judge 12 = .ok (.iconst (-1), 1) := by decide +kernel
theorem dM_judge_13 : decode cM_judge 13 = .ok (.ireturn, 1) := by decide +kernel
theorem dM_judge_14 : decode cM_judge 14 = .ok (.aload_n 0, 1) := by decide +kernel
theorem dM_judge_15 : decode cM_judge 15 = .ok (.iload_n 1, 1) := by decide +kernel
theorem dM_judge_16 : decode cM_judge 16 = .ok (.invokevirtual 52, 3) := by decide +kernel
theorem dM_judge_19 : decode cM_judge 19 = .ok (.ifCond .eq 7, 3) := by decide +kernel
theorem dM_judge_22 : decode cM_judge 22 = .ok (.iconst 2, 1) := by decide +kernel
theorem dM_judge_23 : decode cM_judge 23 = .ok (.goto 16, 3) := by decide +kernel
theorem dM_judge_26 : decode cM_judge 26 = .ok (.aload_n 0, 1) := by decide +kernel
theorem dM_judge_27 : decode cM_judge 27 = .ok (.iload_n 1, 1) := by decide +kernel
theorem dM_judge_28 : decode cM_judge 28 = .ok (.invokevirtual 55, 3) := by decide +kernel
theorem dM_judge_31 : decode cM_judge 31 = .ok (.ifCond .eq 7, 3) := by decide +kernel
theorem dM_judge_34 : decode cM_judge 34 = .ok (.iconst 1, 1) := by decide +kernel
theorem dM_judge_35 : decode cM_judge 35 = .ok (.goto 4, 3) := by decide +kernel
theorem dM_judge_38 : decode cM_judge 38 = .ok (.iconst 0, 1) := by decide +kernel
theorem dM_judge_39 : decode cM_judge 39 = .ok (.ireturn, 1) := by decide +kernel
theorem dM_best_0 : decode cM_best 0 = .ok (.iconst 0, 1) := by decide +kernel
theorem dM_best_1 : decode cM_best 1 = .ok (.istore_n 1, 1) := by decide +kernel
theorem dM_best_2 : decode cM_best 2 = .ok (.iconst 0, 1) := by decide +kernel
theorem dM_best_3 : decode cM_best 3 = .ok (.istore_n 2, 1) := by decide +kernel
theorem dM_best_4 : decode cM_best 4 = .ok (.iload_n 2, 1) := by decide +kernel
theorem dM_best_5 : decode cM_best 5 = .ok (.aload_n 0, 1) := by decide +kernel
theorem dM_best_6 : decode cM_best 6 = .ok (.invokevirtual 48, 3) := by decide +kernel
theorem dM_best_9 : decode cM_best 9 = .ok (.if_icmp .gt 45, 3) := by decide +kernel
theorem dM_best_12 : decode cM_best 12 = .ok (.iload_n 2, 1) := by decide +kernel
theorem dM_best_13 : decode cM_best 13 = .ok (.invokestatic 40, 3) := by decide +kernel
theorem dM_best_16 : decode cM_best 16 = .ok (.iload_n 1, 1) := by decide +kernel
theorem dM_best_17 : decode cM_best 17 = .ok (.invokestatic 40, 3) := by decide +kernel
theorem dM_best_20 : decode cM_best 20 = .ok (.isub, 1) := by decide +kernel
theorem dM_best_21 : decode cM_best 21 = .ok (.istore_n 3, 1) := by decide +kernel
theorem dM_best_22 : decode cM_best 22 = .ok (.iload_n 3, 1) := by decide +kernel
theorem dM_best_23 : decode cM_best 23 = .ok (.ifCond .lt 25, 3) := by decide +kernel
theorem dM_best_26 : decode cM_best 26 = .ok (.aload_n 0, 1) := by decide +kernel
theorem dM_best_27 : decode cM_best 27 = .ok (.iload_n 2, 1) := by decide +kernel
theorem dM_best_28 : decode cM_best 28 = .ok (.invokevirtual 55, 3) := by decide +kernel
theorem dM_best_31 : decode cM_best 31 = .ok (.ifCond .eq 17, 3) := by decide +kernel
theorem dM_best_34 : decode cM_best 34 = .ok (.iload_n 3, 1) := by decide +kernel
theorem dM_best_35 : decode cM_best 35 = .ok (.ifCond .gt 11, 3) := by decide +kernel
theorem dM_best_38 : decode cM_best 38 = .ok (.iload_n 2, 1) := by decide +kernel
theorem dM_best_39 : decode cM_best 39 = .ok (.iload_n 1, 1) := by decide +kernel
theorem dM_best_40 : decode cM_best 40 = .ok (.invokestatic 58, 3) := by decide +kernel
theorem dM_best_43 : decode cM_best 43 = .ok (.ifCond .eq 5, 3) := by decide +kernel
theorem dM_best_46 : decode cM_best 46 = .ok (.iload_n 2, 1) := by decide +kernel
theorem dM_best_47 : decode cM_best 47 = .ok (.istore_n 1, 1) := by decide +kernel
theorem dM_best_48 : decode cM_best 48 = .ok (.iinc 2 1, 3) := by decide +kernel
theorem dM_best_51 : decode cM_best 51 = .ok (.goto (-47), 3) := by decide +kernel
theorem dM_best_54 : decode cM_best 54 = .ok (.iload_n 1, 1) := by decide +kernel
theorem dM_best_55 : decode cM_best 55 = .ok (.ireturn, 1) := by decide +kernel
theorem dM_most_0 : decode cM_most 0 = .ok (.aload_n 0, 1) := by decide +kernel
theorem dM_most_1 : decode cM_most 1 = .ok (.invokevirtual 61, 3) := by decide +kernel
theorem dM_most_4 : decode cM_most 4 = .ok (.invokestatic 40, 3) := by decide +kernel
theorem dM_most_7 : decode cM_most 7 = .ok (.ireturn, 1) := by decide +kernel
theorem dM_factor_0 : decode cM_factor 0 = .ok (.iconst (-1), 1) := by decide +kernel
theorem dM_factor_1 : decode cM_factor 1 = .ok (.istore_n 1, 1) := by decide +kernel
theorem dM_factor_2 : decode cM_factor 2 = .ok (.iconst 0, 1) := by decide +kernel
theorem dM_factor_3 : decode cM_factor 3 = .ok (.istore_n 2, 1) := by decide +kernel
theorem dM_factor_4 : decode cM_factor 4 = .ok (.iload_n 2, 1) := by decide +kernel
theorem dM_factor_5 : decode cM_factor 5 = .ok (.aload_n 0, 1) := by decide +kernel
theorem dM_factor_6 : decode cM_factor 6 = .ok (.invokevirtual 48, 3) := by decide +kernel
theorem dM_factor_9 : decode cM_factor 9 = .ok (.if_icmp .gt 31, 3) := by decide +kernel
theorem dM_factor_12 : decode cM_factor 12 = .ok (.iload_n 1, 1) := by decide +kernel
theorem dM_factor_13 : decode cM_factor 13 = .ok (.ifCond .lt 11, 3) := by decide +kernel
theorem dM_factor_16 : decode cM_factor 16 = .ok (.iload_n 2, 1) := by decide +kernel
theorem dM_factor_17 : decode cM_factor 17 = .ok (.iload_n 1, 1) := by decide +kernel
theorem dM_factor_18 : decode cM_factor 18 = .ok (.invokestatic 58, 3) := by decide +kernel
theorem dM_factor_21 : decode cM_factor 21 = .ok (.ifCond .eq 13, 3) := by decide +kernel
theorem dM_factor_24 : decode cM_factor 24 = .ok (.aload_n 0, 1) := by decide +kernel
theorem dM_factor_25 : decode cM_factor 25 = .ok (.iload_n 2, 1) := by decide +kernel
theorem dM_factor_26 : decode cM_factor 26 = .ok (.invokevirtual 52, 3) := by decide +kernel
theorem dM_factor_29 : decode cM_factor 29 = .ok (.ifCond .eq 5, 3) := by decide +kernel
theorem dM_factor_32 : decode cM_factor 32 = .ok (.iload_n 2, 1) := by decide +kernel
theorem dM_factor_33 : decode cM_factor 33 = .ok (.istore_n 1, 1) := by decide +kernel
theorem dM_factor_34 : decode cM_factor 34 = .ok (.iinc 2 1, 3) := by decide +kernel
theorem dM_factor_37 : decode cM_factor 37 = .ok (.goto (-33), 3) := by decide +kernel
theorem dM_factor_40 : decode cM_factor 40 = .ok (.iload_n 1, 1) := by decide +kernel
theorem dM_factor_41 : decode cM_factor 41 = .ok (.ireturn, 1) := by decide +kernel
theorem dM_role_0 : decode cM_role 0 = .ok (.aload_n 0, 1) := by decide +kernel
theorem dM_role_1 : decode cM_role 1 = .ok (.iload_n 1, 1) := by decide +kernel
theorem dM_role_2 : decode cM_role 2 = .ok (.invokevirtual 33, 3) := by decide +kernel
theorem dM_role_5 : decode cM_role 5 = .ok (.ifCond .ne 5, 3) := by decide +kernel
theorem dM_role_8 : decode cM_role 8 = .ok (.iconst (-1), 1) := by decide +kernel
theorem dM_role_9 : decode cM_role 9 = .ok (.ireturn, 1) := by decide +kernel
theorem dM_role_10 : decode cM_role 10 = .ok (.aload_n 0, 1) := by decide +kernel
theorem dM_role_11 : decode cM_role 11 = .ok (.invokevirtual 64, 3) := by decide +kernel
theorem dM_role_14 : decode cM_role 14 = .ok (.istore_n 2, 1) := by decide +kernel
theorem dM_role_15 : decode cM_role 15 = .ok (.iconst 0, 1) := by decide +kernel
theorem dM_role_16 : decode cM_role 16 = .ok (.istore_n 3, 1) := by decide +kernel
theorem dM_role_17 : decode cM_role 17 = .ok (.iconst 0, 1) := by decide +kernel
theorem dM_role_18 : decode cM_role 18 = .ok (.istore 4, 2) := by decide +kernel
theorem dM_role_20 : decode cM_role 20 = .ok (.iconst 0, 1) := by decide +kernel
theorem dM_role_21 : decode cM_role 21 = .ok (.istore 5, 2) := by decide +kernel
theorem dM_role_23 : decode cM_role 23 = .ok (.iload 5, 2) := by decide +kernel
theorem dM_role_25 : decode cM_role 25 = .ok (.aload_n 0, 1) := by decide +kernel
theorem dM_role_26 : decode cM_role 26 = .ok (.invokevirtual 48, 3) := by decide +kernel
theorem dM_role_29 : decode cM_role 29 = .ok (.if_icmp .gt 67, 3) := by decide +kernel
theorem dM_role_32 : decode cM_role 32 = .ok (.iload 5, 2) := by decide +kernel
theorem dM_role_34 : decode cM_role 34 = .ok (.invokestatic 40, 3) := by decide +kernel
theorem dM_role_37 : decode cM_role 37 = .ok (.iload_n 2, 1) := by decide +kernel
theorem dM_role_38 : decode cM_role 38 = .ok (.if_icmp .ne 52, 3) := by decide +kernel
theorem dM_role_41 : decode cM_role 41 = .ok (.aload_n 0, 1) := by decide +kernel
theorem dM_role_42 : decode cM_role 42 = .ok (.iload 5, 2) := by decide +kernel
theorem dM_role_44 : decode cM_role 44 = .ok (.invokevirtual 55, 3) := by decide +kernel
theorem dM_role_47 : decode cM_role 47 = .ok (.ifCond .eq 43, 3) := by decide +kernel
theorem dM_role_50 : decode cM_role 50 = .ok (.iload_n 3, 1) := by decide +kernel
theorem dM_role_51 : decode cM_role 51 = .ok (.ifCond .ne 12, 3) := by decide +kernel
theorem dM_role_54 : decode cM_role 54 = .ok (.iload 5, 2) := by decide +kernel
theorem dM_role_56 : decode cM_role 56 = .ok (.iload_n 1, 1) := by decide +kernel
theorem dM_role_57 : decode cM_role 57 = .ok (.invokestatic 36, 3) := by decide +kernel
theorem dM_role_60 : decode cM_role 60 = .ok (.ifCond .eq 7, 3) := by decide +kernel
theorem dM_role_63 : decode cM_role 63 = .ok (.iconst 1, 1) := by decide +kernel
theorem dM_role_64 : decode cM_role 64 = .ok (.goto 4, 3) := by decide +kernel
theorem dM_role_67 : decode cM_role 67 = .ok (.iconst 0, 1) := by decide +kernel
theorem dM_role_68 : decode cM_role 68 = .ok (.istore_n 3, 1) := by decide +kernel
theorem dM_role_69 : decode cM_role 69 = .ok (.iload 4, 2) := by decide +kernel
theorem dM_role_71 : decode cM_role 71 = .ok (.ifCond .ne 12, 3) := by decide +kernel
theorem dM_role_74 : decode cM_role 74 = .ok (.iload 5, 2) := by decide +kernel
theorem dM_role_76 : decode cM_role 76 = .ok (.iload_n 1, 1) := by decide +kernel
theorem dM_role_77 : decode cM_role 77 = .ok (.invokestatic 36, 3) := by decide +kernel
theorem dM_role_80 : decode cM_role 80 = .ok (.ifCond .ne 7, 3) := by decide +kernel
theorem dM_role_83 : decode cM_role 83 = .ok (.iconst 1, 1) := by decide +kernel
theorem dM_role_84 : decode cM_role 84 = .ok (.goto 4, 3) := by decide +kernel
theorem dM_role_87 : decode cM_role 87 = .ok (.iconst 0, 1) := by decide +kernel
theorem dM_role_88 : decode cM_role 88 = .ok (.istore 4, 2) := by decide +kernel
theorem dM_role_90 : decode cM_role 90 = .ok (.iinc 5 1, 3) := by decide +kernel
theorem dM_role_93 : decode cM_role 93 = .ok (.goto (-70), 3) := by decide +kernel
theorem dM_role_96 : decode cM_role 96 = .ok (.iload_n 3, 1) := by decide +kernel
theorem dM_role_97 : decode cM_role 97 = .ok (.ifCond .ne 7, 3) := by decide +kernel
theorem dM_role_100 : decode cM_role 100 = .ok (.iconst 0, 1) := by decide +kernel
theorem dM_role_101 : decode cM_role 101 = .ok (.goto 13, 3) := by decide +kernel
theorem dM_role_104 : decode cM_role 104 = .ok (.iload 4, 2) := by decide +kernel
theorem dM_role_106 : decode cM_role 106 = .ok (.ifCond .eq 7, 3) := by decide +kernel
theorem dM_role_109 : decode cM_role 109 = .ok (.iconst 1, 1) := by decide +kernel
theorem dM_role_110 : decode cM_role 110 = .ok (.goto 4, 3) := by decide +kernel
theorem dM_role_113 : decode cM_role 113 = .ok (.iconst 2, 1) := by decide +kernel
theorem dM_role_114 : decode cM_role 114 = .ok (.ireturn, 1) := by decide +kernel
theorem dM_mostWith_0 : decode cM_mostWith 0 = .ok (.aload_n 0, 1) := by decide +kernel
theorem dM_mostWith_1 : decode cM_mostWith 1 = .ok (.getfield 20, 3) := by decide +kernel
theorem dM_mostWith_4 : decode cM_mostWith 4 = .ok (.iload_n 1, 1) := by decide +kernel
theorem dM_mostWith_5 : decode cM_mostWith 5 = .ok (.iaload, 1) := by decide +kernel
theorem dM_mostWith_6 : decode cM_mostWith 6 = .ok (.istore_n 3, 1) := by decide +kernel
theorem dM_mostWith_7 : decode cM_mostWith 7 = .ok (.aload_n 0, 1) := by decide +kernel
theorem dM_mostWith_8 : decode cM_mostWith 8 = .ok (.getfield 20, 3) := by decide +kernel
theorem dM_mostWith_11 : decode cM_mostWith 11 = .ok (.iload_n 1, 1) := by decide +kernel
theorem dM_mostWith_12 : decode cM_mostWith 12 = .ok (.iload_n 2, 1) := by decide +kernel
theorem dM_mostWith_13 : decode cM_mostWith 13 = .ok (.iastore, 1) := by decide +kernel
theorem dM_mostWith_14 : decode cM_mostWith 14 = .ok (.aload_n 0, 1) := by decide +kernel
theorem dM_mostWith_15 : decode cM_mostWith 15 = .ok (.invokevirtual 64, 3) := by decide +kernel
theorem dM_mostWith_18 : decode cM_mostWith 18 = .ok (.istore 4, 2) := by decide +kernel
theorem dM_mostWith_20 : decode cM_mostWith 20 = .ok (.aload_n 0, 1) := by decide +kernel
theorem dM_mostWith_21 : decode cM_mostWith 21 = .ok (.getfield 20, 3) := by decide +kernel
theorem dM_mostWith_24 : decode cM_mostWith 24 = .ok (.iload_n 1, 1) := by decide +kernel
theorem dM_mostWith_25 : decode cM_mostWith 25 = .ok (.iload_n 3, 1) := by decide +kernel
theorem dM_mostWith_26 : decode cM_mostWith 26 = .ok (.iastore, 1) := by decide +kernel
theorem dM_mostWith_27 : decode cM_mostWith 27 = .ok (.iload 4, 2) := by decide +kernel
theorem dM_mostWith_29 : decode cM_mostWith 29 = .ok (.ireturn, 1) := by decide +kernel
theorem dM_slack_0 : decode cM_slack 0 = .ok (.aload_n 0, 1) := by decide +kernel
theorem dM_slack_1 : decode cM_slack 1 = .ok (.iload_n 1, 1) := by decide +kernel
theorem dM_slack_2 : decode cM_slack 2 = .ok (.invokevirtual 29, 3) := by decide +kernel
theorem dM_slack_5 : decode cM_slack 5 = .ok (.ifCond .ne 5, 3) := by decide +kernel
theorem dM_slack_8 : decode cM_slack 8 = .ok (.iconst (-1), 1) := by decide +kernel
theorem dM_slack_9 : decode cM_slack 9 = .ok (.ireturn, 1) := by decide +kernel
theorem dM_slack_10 : decode cM_slack 10 = .ok (.aload_n 0, 1) := by decide +kernel
theorem dM_slack_11 : decode cM_slack 11 = .ok (.invokevirtual 64, 3) := by decide +kernel
theorem dM_slack_14 : decode cM_slack 14 = .ok (.istore_n 2, 1) := by decide +kernel
theorem dM_slack_15 : decode cM_slack 15 = .ok (.iconst 0, 1) := by decide +kernel
theorem dM_slack_16 : decode cM_slack 16 = .ok (.istore_n 3, 1) := by decide +kernel
theorem dM_slack_17 : decode cM_slack 17 = .ok (.iload_n 3, 1) := by decide +kernel
theorem dM_slack_18 : decode cM_slack 18 = .ok (.aload_n 0, 1) := by decide +kernel
theorem dM_slack_19 : decode cM_slack 19 = .ok (.getfield 20, 3) := by decide +kernel
theorem dM_slack_22 : decode cM_slack 22 = .ok (.iload_n 1, 1) := by decide +kernel
theorem dM_slack_23 : decode cM_slack 23 = .ok (.iaload, 1) := by decide +kernel
theorem dM_slack_24 : decode cM_slack 24 = .ok (.if_icmp .ge 28, 3) := by decide +kernel
theorem dM_slack_27 : decode cM_slack 27 = .ok (.aload_n 0, 1) := by decide +kernel
theorem dM_slack_28 : decode cM_slack 28 = .ok (.iload_n 1, 1) := by decide +kernel
theorem dM_slack_29 : decode cM_slack 29 = .ok (.aload_n 0, 1) := by decide +kernel
theorem dM_slack_30 : decode cM_slack 30 = .ok (.getfield 20, 3) := by decide +kernel
theorem dM_slack_33 : decode cM_slack 33 = .ok (.iload_n 1, 1) := by decide +kernel
theorem dM_slack_34 : decode cM_slack 34 = .ok (.iaload, 1) := by decide +kernel
theorem dM_slack_35 : decode cM_slack 35 = .ok (.iload_n 3, 1) := by decide +kernel
theorem dM_slack_36 : decode cM_slack 36 = .ok (.isub, 1) := by decide +kernel
theorem dM_slack_37 : decode cM_slack 37 = .ok (.iconst 1, 1) := by decide +kernel
theorem dM_slack_38 : decode cM_slack 38 = .ok (.isub, 1) := by decide +kernel
theorem dM_slack_39 : decode cM_slack 39 = .ok (.invokevirtual 67, 3) := by decide +kernel
theorem dM_slack_42 : decode cM_slack 42 = .ok (.iload_n 2, 1) := by decide +kernel
theorem dM_slack_43 : decode cM_slack 43 = .ok (.if_icmp .ne 9, 3) := by decide +kernel
theorem dM_slack_46 : decode cM_slack 46 = .ok (.iinc 3 1, 3) := by decide +kernel
theorem dM_slack_49 : decode cM_slack 49 = .ok (.goto (-32), 3) := by decide +kernel
theorem dM_slack_52 : decode cM_slack 52 = .ok (.iload_n 3, 1) := by decide +kernel
theorem dM_slack_53 : decode cM_slack 53 = .ok (.ireturn, 1) := by decide +kernel
theorem dM_gain_0 : decode cM_gain 0 = .ok (.aload_n 0, 1) := by decide +kernel
theorem dM_gain_1 : decode cM_gain 1 = .ok (.iload_n 1, 1) := by decide +kernel
theorem dM_gain_2 : decode cM_gain 2 = .ok (.invokevirtual 29, 3) := by decide +kernel
theorem dM_gain_5 : decode cM_gain 5 = .ok (.ifCond .eq 24, 3) := by decide +kernel
theorem dM_gain_8 : decode cM_gain 8 = .ok (.aload_n 0, 1) := by decide +kernel
theorem dM_gain_9 : decode cM_gain 9 = .ok (.iload_n 1, 1) := by decide +kernel
theorem dM_gain_10 : decode cM_gain 10 = .ok (.aload_n 0, 1) := by decide +kernel
theorem dM_gain_11 : decode cM_gain 11 = .ok (.getfield 20, 3) := by decide +kernel
theorem dM_gain_14 : decode cM_gain 14 = .ok (.iload_n 1, 1) := by decide +kernel
theorem dM_gain_15 : decode cM_gain 15 = .ok (.iaload, 1) := by decide +kernel
theorem dM_gain_16 : decode cM_gain 16 = .ok (.iconst 1, 1) := by decide +kernel
theorem dM_gain_17 : decode cM_gain 17 = .ok (.iadd, 1) := by decide +kernel
theorem dM_gain_18 : decode cM_gain 18 = .ok (.invokevirtual 67, 3) := by decide +kernel
theorem dM_gain_21 : decode cM_gain 21 = .ok (.aload_n 0, 1) := by decide +kernel
theorem dM_gain_22 : decode cM_gain 22 = .ok (.invokevirtual 64, 3) := by decide +kernel
theorem dM_gain_25 : decode cM_gain 25 = .ok (.isub, 1) := by decide +kernel
theorem dM_gain_26 : decode cM_gain 26 = .ok (.goto 4, 3) := by decide +kernel
theorem dM_gain_29 : decode cM_gain 29 = .ok (.iconst (-1), 1) := by decide +kernel
theorem dM_gain_30 : decode cM_gain 30 = .ok (.ireturn, 1) := by decide +kernel
theorem dM_partition_0 : decode cM_partition 0 = .ok (.iconst 0, 1) := by decide +kernel
theorem dM_partition_1 : decode cM_partition 1 = .ok (.istore_n 3, 1) := by decide +kernel
theorem dM_partition_2 : decode cM_partition 2 = .ok (.iload_n 3, 1) := by decide +kernel
theorem dM_partition_3 : decode cM_partition 3 = .ok (.aload_n 0, 1) := by decide +kernel
theorem dM_partition_4 : decode cM_partition 4 = .ok (.getfield 7, 3) := by decide +kernel
theorem dM_partition_7 : decode cM_partition 7 = .ok (.if_icmp .ge 30, 3) := by decide +kernel
theorem dM_partition_10 : decode cM_partition 10 = .ok (.aload_n 0, 1) := by decide +kernel
theorem dM_partition_11 : decode cM_partition 11 = .ok (.getfield 23, 3) := by decide +kernel
theorem dM_partition_14 : decode cM_partition 14 = .ok (.iload_n 3, 1) := by decide +kernel
theorem dM_partition_15 : decode cM_partition 15 = .ok (.iload_n 1, 1) := by decide +kernel
theorem dM_partition_16 : decode cM_partition 16 = .ok (.iload_n 2, 1) := by decide +kernel
theorem dM_partition_17 : decode cM_partition 17 = .ok (.ior, 1) := by decide +kernel
theorem dM_partition_18 : decode cM_partition 18 = .ok (.iload_n 3, 1) := by decide +kernel
theorem dM_partition_19 : decode cM_partition 19 = .ok (.invokestatic 36, 3) := by decide +kernel
theorem dM_partition_22 : decode cM_partition 22 = .ok (.ifCond .eq 7, 3) := by decide +kernel
theorem dM_partition_25 : decode cM_partition 25 = .ok (.iconst (-1), 1) := by decide +kernel
theorem dM_partition_26 : decode cM_partition 26 = .ok (.goto 4, 3) := by decide +kernel
theorem dM_partition_29 : decode cM_partition 29 = .ok (.iload_n 3, 1) := by decide +kernel
theorem dM_partition_30 : decode cM_partition 30 = .ok (.iastore, 1) := by decide +kernel
theorem dM_partition_31 : decode cM_partition 31 = .ok (.iinc 3 1, 3) := by decide +kernel
theorem dM_partition_34 : decode cM_partition 34 = .ok (.goto (-32), 3) := by decide +kernel
theorem dM_partition_37 : decode cM_partition 37 = .ok (.iconst 0, 1) := by decide +kernel
theorem dM_partition_38 : decode cM_partition 38 = .ok (.istore_n 3, 1) := by decide +kernel
theorem dM_partition_39 : decode cM_partition 39 = .ok (.iload_n 3, 1) := by decide +kernel
theorem dM_partition_40 : decode cM_partition 40 = .ok (.aload_n 0, 1) := by decide +kernel
theorem dM_partition_41 : decode cM_partition 41 = .ok (.getfield 7, 3) := by decide +kernel
theorem dM_partition_44 : decode cM_partition 44 = .ok (.if_icmp .ge 117, 3) := by decide +kernel
theorem dM_partition_47 : decode cM_partition 47 = .ok (.iconst 0, 1) := by decide +kernel
theorem dM_partition_48 : decode cM_partition 48 = .ok (.istore 4, 2) := by decide +kernel
theorem dM_partition_50 : decode cM_partition 50 = .ok (.iload 4, 2) := by decide +kernel
theorem dM_partition_52 : decode cM_partition 52 = .ok (.aload_n 0, 1) := by decide +kernel
theorem dM_partition_53 : decode cM_partition 53 = .ok (.getfield 26, 3) := by decide +kernel
theorem dM_partition_56 : decode cM_partition 56 = .ok (.if_icmp .ge 99, 3) := by decide +kernel
theorem dM_partition_59 : decode cM_partition 59 = .ok (.aload_n 0, 1) := by decide +kernel
theorem dM_partition_60 : decode cM_partition 60 = .ok (.getfield 23, 3) := by decide +kernel
theorem dM_partition_63 : decode cM_partition 63 = .ok (.aload_n 0, 1) := by decide +kernel
theorem dM_partition_64 : decode cM_partition 64 = .ok (.getfield 13, 3) := by decide +kernel
theorem dM_partition_67 : decode cM_partition 67 = .ok (.iload 4, 2) := by decide +kernel
theorem dM_partition_69 : decode cM_partition 69 = .ok (.iaload, 1) := by decide +kernel
theorem dM_partition_70 : decode cM_partition 70 = .ok (.iaload, 1) := by decide +kernel
theorem dM_partition_71 : decode cM_partition 71 = .ok (.istore 5, 2) := by decide +kernel
theorem dM_partition_73 : decode cM_partition 73 = .ok (.aload_n 0, 1) := by decide +kernel
theorem dM_partition_74 : decode cM_partition 74 = .ok (.getfield 23, 3) := by decide +kernel
theorem dM_partition_77 : decode cM_partition 77 = .ok (.aload_n 0, 1) := by decide +kernel
theorem dM_partition_78 : decode cM_partition 78 = .ok (.getfield 17, 3) := by decide +kernel
theorem dM_partition_81 : decode cM_partition 81 = .ok (.iload 4, 2) := by decide +kernel
theorem dM_partition_83 : decode cM_partition 83 = .ok (.iaload, 1) := by decide +kernel
theorem dM_partition_84 : decode cM_partition 84 = .ok (.iaload, 1) := by decide +kernel
theorem dM_partition_85 : decode cM_partition 85 = .ok (.istore 6, 2) := by decide +kernel
theorem dM_partition_87 : decode cM_partition 87 = .ok (.iload 5, 2) := by decide +kernel
theorem dM_partition_89 : decode cM_partition 89 = .ok (.ifCond .lt 60, 3) := by decide +kernel
theorem dM_partition_92 : decode cM_partition 92 = .ok (.iload 6, 2) := by decide +kernel
theorem dM_partition_94 : decode cM_partition 94 = .ok (.ifCond .lt 55, 3) := by decide +kernel
theorem dM_partition_97 : decode cM_partition 97 = .ok (.aload_n 0, 1) := by decide +kernel
theorem dM_partition_98 : decode cM_partition 98 = .ok (.getfield 23, 3) := by decide +kernel
theorem dM_partition_101 : decode cM_partition 101 = .ok (.aload_n 0, 1) := by decide +kernel
theorem dM_partition_102 : decode cM_partition 102 = .ok (.getfield 13, 3) := by decide +kernel
theorem dM_partition_105 : decode cM_partition 105 = .ok (.iload 4, 2) := by decide +kernel
theorem dM_partition_107 : decode cM_partition 107 = .ok (.iaload, 1) := by decide +kernel
theorem dM_partition_108 : decode cM_partition 108 = .ok (.iload 5, 2) := by decide +kernel
theorem dM_partition_110 : decode cM_partition 110 = .ok (.iload 6, 2) := by decide +kernel
theorem dM_partition_112 : decode cM_partition 112 = .ok (.if_icmp .ge 8, 3) := by decide +kernel
theorem dM_partition_115 : decode cM_partition 115 = .ok (.iload 5, 2) := by decide +kernel
theorem dM_partition_117 : decode cM_partition 117 = .ok (.goto 5, 3) := by decide +kernel
theorem dM_partition_120 : decode cM_partition 120 = .ok (.iload 6, 2) := by decide +kernel
theorem dM_partition_122 : decode cM_partition 122 = .ok (.iastore, 1) := by decide +kernel
theorem dM_partition_123 : decode cM_partition 123 = .ok (.aload_n 0, 1) := by decide +kernel
theorem dM_partition_124 : decode cM_partition 124 = .ok (.getfield 23, 3) := by decide +kernel
theorem dM_partition_127 : decode cM_partition 127 = .ok (.aload_n 0, 1) := by decide +kernel
theorem dM_partition_128 : decode cM_partition 128 = .ok (.getfield 17, 3) := by decide +kernel
theorem dM_partition_131 : decode cM_partition 131 = .ok (.iload 4, 2) := by decide +kernel
theorem dM_partition_133 : decode cM_partition 133 = .ok (.iaload, 1) := by decide +kernel
theorem dM_partition_134 : decode cM_partition 134 = .ok (.iload 5, 2) := by decide +kernel
theorem dM_partition_136 : decode cM_partition 136 = .ok (.iload 6, 2) := by decide +kernel
theorem dM_partition_138 : decode cM_partition 138 = .ok (.if_icmp .ge 8, 3) := by decide +kernel
theorem dM_partition_141 : decode cM_partition 141 = .ok (.iload 5, 2) := by decide +kernel
theorem dM_partition_143 : decode cM_partition 143 = .ok (.goto 5, 3) := by decide +kernel
theorem dM_partition_146 : decode cM_partition 146 = .ok (.iload 6, 2) := by decide +kernel
theorem dM_partition_148 : decode cM_partition 148 = .ok (.iastore, 1) := by decide +kernel
theorem dM_partition_149 : decode cM_partition 149 = .ok (.iinc 4 1, 3) := by decide +kernel
theorem dM_partition_152 : decode cM_partition 152 = .ok (.goto (-102), 3) := by decide +kernel
theorem dM_partition_155 : decode cM_partition 155 = .ok (.iinc 3 1, 3) := by decide +kernel
