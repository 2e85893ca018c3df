theorem dS_init_0 : decode cS_init 0 = .ok (.aload_n 0, 1) := by decide +kernel
theorem dS_init_1 : decode cS_init 1 = .ok (.invokespecial 3, 3) := by decide +kernel
theorem dS_init_4 : decode cS_init 4 = .ok (.aload_n 0, 1) := by decide +kernel
theorem dS_init_5 : decode cS_init 5 = .ok (.bipush 14, 2) := by decide +kernel
theorem dS_init_7 : decode cS_init 7 = .ok (.newarray .int, 2) := by decide +kernel
theorem dS_init_9 : decode cS_init 9 = .ok (.putfield 9, 3) := by decide +kernel
theorem dS_init_12 : decode cS_init 12 = .ok (.aload_n 0, 1) := by decide +kernel
theorem dS_init_13 : decode cS_init 13 = .ok (.bipush 14, 2) := by decide +kernel
theorem dS_init_15 : decode cS_init 15 = .ok (.newarray .int, 2) := by decide +kernel
theorem dS_init_17 : decode cS_init 17 = .ok (.putfield 15, 3) := by decide +kernel
theorem dS_init_20 : decode cS_init 20 = .ok (.aload_n 0, 1) := by decide +kernel
theorem dS_init_21 : decode cS_init 21 = .ok (.bipush 14, 2) := by decide +kernel
theorem dS_init_23 : decode cS_init 23 = .ok (.newarray .int, 2) := by decide +kernel
theorem dS_init_25 : decode cS_init 25 = .ok (.putfield 18, 3) := by decide +kernel
theorem dS_init_28 : decode cS_init 28 = .ok (.aload_n 0, 1) := by decide +kernel
theorem dS_init_29 : decode cS_init 29 = .ok (.bipush 9, 2) := by decide +kernel
theorem dS_init_31 : decode cS_init 31 = .ok (.newarray .int, 2) := by decide +kernel
theorem dS_init_33 : decode cS_init 33 = .ok (.putfield 21, 3) := by decide +kernel
theorem dS_init_36 : decode cS_init 36 = .ok (.aload_n 0, 1) := by decide +kernel
theorem dS_init_37 : decode cS_init 37 = .ok (.bipush 9, 2) := by decide +kernel
theorem dS_init_39 : decode cS_init 39 = .ok (.newarray .int, 2) := by decide +kernel
theorem dS_init_41 : decode cS_init 41 = .ok (.putfield 24, 3) := by decide +kernel
theorem dS_init_44 : decode cS_init 44 = .ok (.return_, 1) := by decide +kernel
theorem dS_load_0 : decode cS_load 0 = .ok (.aload_n 0, 1) := by decide +kernel
theorem dS_load_1 : decode cS_load 1 = .ok (.iconst 0, 1) := by decide +kernel
theorem dS_load_2 : decode cS_load 2 = .ok (.putfield 27, 3) := by decide +kernel
theorem dS_load_5 : decode cS_load 5 = .ok (.iconst 0, 1) := by decide +kernel
theorem dS_load_6 : decode cS_load 6 = .ok (.istore_n 3, 1) := by decide +kernel
theorem dS_load_7 : decode cS_load 7 = .ok (.iload_n 3, 1) := by decide +kernel
theorem dS_load_8 : decode cS_load 8 = .ok (.bipush 9, 2) := by decide +kernel
theorem dS_load_10 : decode cS_load 10 = .ok (.if_icmp .ge 28, 3) := by decide +kernel
theorem dS_load_13 : decode cS_load 13 = .ok (.aload_n 0, 1) := by decide +kernel
theorem dS_load_14 : decode cS_load 14 = .ok (.getfield 21, 3) := by decide +kernel
theorem dS_load_17 : decode cS_load 17 = .ok (.iload_n 3, 1) := by decide +kernel
theorem dS_load_18 : decode cS_load 18 = .ok (.aload_n 1, 1) := by decide +kernel
theorem dS_load_19 : decode cS_load 19 = .ok (.getfield 31, 3) := by decide +kernel
theorem dS_load_22 : decode cS_load 22 = .ok (.iload_n 3, 1) := by decide +kernel
theorem dS_load_23 : decode cS_load 23 = .ok (.iaload, 1) := by decide +kernel
theorem dS_load_24 : decode cS_load 24 = .ok (.iastore, 1) := by decide +kernel
theorem dS_load_25 : decode cS_load 25 = .ok (.aload_n 0, 1) := by decide +kernel
theorem dS_load_26 : decode cS_load 26 = .ok (.getfield 24, 3) := by decide +kernel
theorem dS_load_29 : decode cS_load 29 = .ok (.iload_n 3, 1) := by decide +kernel
theorem dS_load_30 : decode cS_load 30 = .ok (.iconst 0, 1) := by decide +kernel
theorem dS_load_31 : decode cS_load 31 = .ok (.iastore, 1) := by decide +kernel
theorem dS_load_32 : decode cS_load 32 = .ok (.iinc 3 1, 3) := by decide +kernel
theorem dS_load_35 : decode cS_load 35 = .ok (.goto (-28), 3) := by decide +kernel
theorem dS_load_38 : decode cS_load 38 = .ok (.iconst 0, 1) := by decide +kernel
theorem dS_load_39 : decode cS_load 39 = .ok (.istore_n 3, 1) := by decide +kernel
theorem dS_load_40 : decode cS_load 40 = .ok (.iload_n 3, 1) := by decide +kernel
theorem dS_load_41 : decode cS_load 41 = .ok (.aload_n 1, 1) := by decide +kernel
theorem dS_load_42 : decode cS_load 42 = .ok (.getfield 36, 3) := by decide +kernel
theorem dS_load_45 : decode cS_load 45 = .ok (.if_icmp .ge 48, 3) := by decide +kernel
theorem dS_load_48 : decode cS_load 48 = .ok (.iload_n 3, 1) := by decide +kernel
theorem dS_load_49 : decode cS_load 49 = .ok (.iload_n 2, 1) := by decide +kernel
theorem dS_load_50 : decode cS_load 50 = .ok (.if_icmp .eq 37, 3) := by decide +kernel
theorem dS_load_53 : decode cS_load 53 = .ok (.aload_n 0, 1) := by decide +kernel
theorem dS_load_54 : decode cS_load 54 = .ok (.aload_n 1, 1) := by decide +kernel
theorem dS_load_55 : decode cS_load 55 = .ok (.getfield 39, 3) := by decide +kernel
theorem dS_load_58 : decode cS_load 58 = .ok (.iload_n 3, 1) := by decide +kernel
theorem dS_load_59 : decode cS_load 59 = .ok (.iaload, 1) := by decide +kernel
theorem dS_load_60 : decode cS_load 60 = .ok (.aload_n 1, 1) := by decide +kernel
theorem dS_load_61 : decode cS_load 61 = .ok (.getfield 42, 3) := by decide +kernel
theorem dS_load_64 : decode cS_load 64 = .ok (.iload_n 3, 1) := by decide +kernel
theorem dS_load_65 : decode cS_load 65 = .ok (.iaload, 1) := by decide +kernel
theorem dS_load_66 : decode cS_load 66 = .ok (.invokestatic 45, 3) := by decide +kernel
theorem dS_load_69 : decode cS_load 69 = .ok (.aload_n 1, 1) := by decide +kernel
theorem dS_load_70 : decode cS_load 70 = .ok (.getfield 39, 3) := by decide +kernel
theorem dS_load_73 : decode cS_load 73 = .ok (.iload_n 3, 1) := by decide +kernel
theorem dS_load_74 : decode cS_load 74 = .ok (.iaload, 1) := by decide +kernel
theorem dS_load_75 : decode cS_load 75 = .ok (.aload_n 1, 1) := by decide +kernel
theorem dS_load_76 : decode cS_load 76 = .ok (.getfield 42, 3) := by decide +kernel
theorem dS_load_79 : decode cS_load 79 = .ok (.iload_n 3, 1) := by decide +kernel
theorem dS_load_80 : decode cS_load 80 = .ok (.iaload, 1) := by decide +kernel
theorem dS_load_81 : decode cS_load 81 = .ok (.invokestatic 51, 3) := by decide +kernel
theorem dS_load_84 : decode cS_load 84 = .ok (.invokevirtual 54, 3) := by decide +kernel
theorem dS_load_87 : decode cS_load 87 = .ok (.iinc 3 1, 3) := by decide +kernel
theorem dS_load_90 : decode cS_load 90 = .ok (.goto (-50), 3) := by decide +kernel
theorem dS_load_93 : decode cS_load 93 = .ok (.return_, 1) := by decide +kernel
theorem dS_take_0 : decode cS_take 0 = .ok (.aload_n 0, 1) := by decide +kernel
theorem dS_take_1 : decode cS_take 1 = .ok (.getfield 18, 3) := by decide +kernel
theorem dS_take_4 : decode cS_take 4 = .ok (.aload_n 0, 1) := by decide +kernel
theorem dS_take_5 : decode cS_take 5 = .ok (.getfield 27, 3) := by decide +kernel
theorem dS_take_8 : decode cS_take 8 = .ok (.iconst (-1), 1) := by decide +kernel
theorem dS_take_9 : decode cS_take 9 = .ok (.iastore, 1) := by decide +kernel
theorem dS_take_10 : decode cS_take 10 = .ok (.iconst 0, 1) := by decide +kernel
theorem dS_take_11 : decode cS_take 11 = .ok (.istore_n 3, 1) := by decide +kernel
theorem dS_take_12 : decode cS_take 12 = .ok (.iload_n 3, 1) := by decide +kernel
theorem dS_take_13 : decode cS_take 13 = .ok (.aload_n 0, 1) := by decide +kernel
theorem dS_take_14 : decode cS_take 14 = .ok (.getfield 27, 3) := by decide +kernel
theorem dS_take_17 : decode cS_take 17 = .ok (.if_icmp .ge 39, 3) := by decide +kernel
theorem dS_take_20 : decode cS_take 20 = .ok (.aload_n 0, 1) := by decide +kernel
theorem dS_take_21 : decode cS_take 21 = .ok (.getfield 9, 3) := by decide +kernel
theorem dS_take_24 : decode cS_take 24 = .ok (.iload_n 3, 1) := by decide +kernel
theorem dS_take_25 : decode cS_take 25 = .ok (.iaload, 1) := by decide +kernel
theorem dS_take_26 : decode cS_take 26 = .ok (.iload_n 1, 1) := by decide +kernel
theorem dS_take_27 : decode cS_take 27 = .ok (.if_icmp .ne 23, 3) := by decide +kernel
theorem dS_take_30 : decode cS_take 30 = .ok (.aload_n 0, 1) := by decide +kernel
theorem dS_take_31 : decode cS_take 31 = .ok (.getfield 15, 3) := by decide +kernel
theorem dS_take_34 : decode cS_take 34 = .ok (.iload_n 3, 1) := by decide +kernel
theorem dS_take_35 : decode cS_take 35 = .ok (.iaload, 1) := by decide +kernel
theorem dS_take_36 : decode cS_take 36 = .ok (.iload_n 2, 1) := by decide +kernel
theorem dS_take_37 : decode cS_take 37 = .ok (.if_icmp .ne 13, 3) := by decide +kernel
theorem dS_take_40 : decode cS_take 40 = .ok (.aload_n 0, 1) := by decide +kernel
theorem dS_take_41 : decode cS_take 41 = .ok (.getfield 18, 3) := by decide +kernel
theorem dS_take_44 : decode cS_take 44 = .ok (.aload_n 0, 1) := by decide +kernel
theorem dS_take_45 : decode cS_take 45 = .ok (.getfield 27, 3) := by decide +kernel
theorem dS_take_48 : decode cS_take 48 = .ok (.iload_n 3, 1) := by decide +kernel
theorem dS_take_49 : decode cS_take 49 = .ok (.iastore, 1) := by decide +kernel
theorem dS_take_50 : decode cS_take 50 = .ok (.iinc 3 1, 3) := by decide +kernel
theorem dS_take_53 : decode cS_take 53 = .ok (.goto (-41), 3) := by decide +kernel
theorem dS_take_56 : decode cS_take 56 = .ok (.aload_n 0, 1) := by decide +kernel
theorem dS_take_57 : decode cS_take 57 = .ok (.getfield 9, 3) := by decide +kernel
theorem dS_take_60 : decode cS_take 60 = .ok (.aload_n 0, 1) := by decide +kernel
theorem dS_take_61 : decode cS_take 61 = .ok (.getfield 27, 3) := by decide +kernel
theorem dS_take_64 : decode cS_take 64 = .ok (.iload_n 1, 1) := by decide +kernel
theorem dS_take_65 : decode cS_take 65 = .ok (.iastore, 1) := by decide +kernel
theorem dS_take_66 : decode cS_take 66 = .ok (.aload_n 0, 1) := by decide +kernel
theorem dS_take_67 : decode cS_take 67 = .ok (.getfield 15, 3) := by decide +kernel
theorem dS_take_70 : decode cS_take 70 = .ok (.aload_n 0, 1) := by decide +kernel
theorem dS_take_71 : decode cS_take 71 = .ok (.getfield 27, 3) := by decide +kernel
theorem dS_take_74 : decode cS_take 74 = .ok (.iload_n 2, 1) := by decide +kernel
theorem dS_take_75 : decode cS_take 75 = .ok (.iastore, 1) := by decide +kernel
theorem dS_take_76 : decode cS_take 76 = .ok (.aload_n 0, 1) := by decide +kernel
theorem dS_take_77 : decode cS_take 77 = .ok (.getfield 24, 3) := by decide +kernel
theorem dS_take_80 : decode cS_take 80 = .ok (.iload_n 1, 1) := by decide +kernel
theorem dS_take_81 : decode cS_take 81 = .ok (.dup2, 1) := by decide +kernel
theorem dS_take_82 : decode cS_take 82 = .ok (.iaload, 1) := by decide +kernel
theorem dS_take_83 : decode cS_take 83 = .ok (.iconst 1, 1) := by decide +kernel
theorem dS_take_84 : decode cS_take 84 = .ok (.iadd, 1) := by decide +kernel
theorem dS_take_85 : decode cS_take 85 = .ok (.iastore, 1) := by decide +kernel
theorem dS_take_86 : decode cS_take 86 = .ok (.aload_n 0, 1) := by decide +kernel
theorem dS_take_87 : decode cS_take 87 = .ok (.getfield 24, 3) := by decide +kernel
theorem dS_take_90 : decode cS_take 90 = .ok (.iload_n 2, 1) := by decide +kernel
theorem dS_take_91 : decode cS_take 91 = .ok (.dup2, 1) := by decide +kernel
theorem dS_take_92 : decode cS_take 92 = .ok (.iaload, 1) := by decide +kernel
theorem dS_take_93 : decode cS_take 93 = .ok (.iconst 1, 1) := by decide +kernel
theorem dS_take_94 : decode cS_take 94 = .ok (.iadd, 1) := by decide +kernel
theorem dS_take_95 : decode cS_take 95 = .ok (.iastore, 1) := by decide +kernel
theorem dS_take_96 : decode cS_take 96 = .ok (.aload_n 0, 1) := by decide +kernel
theorem dS_take_97 : decode cS_take 97 = .ok (.dup, 1) := by decide +kernel
theorem dS_take_98 : decode cS_take 98 = .ok (.getfield 27, 3) := by decide +kernel
theorem dS_take_101 : decode cS_take 101 = .ok (.iconst 1, 1) := by decide +kernel
theorem dS_take_102 : decode cS_take 102 = .ok (.iadd, 1) := by decide +kernel
theorem dS_take_103 : decode cS_take 103 = .ok (.putfield 27, 3) := by decide +kernel
theorem dS_take_106 : decode cS_take 106 = .ok (.return_, 1) := by decide +kernel
theorem dS_lend_0 : decode cS_lend 0 = .ok (.aload_n 0, 1) := by decide +kernel
theorem dS_lend_1 : decode cS_lend 1 = .ok (.getfield 21, 3) := by decide +kernel
theorem dS_lend_4 : decode cS_lend 4 = .ok (.iload_n 1, 1) := by decide +kernel
theorem dS_lend_5 : decode cS_lend 5 = .ok (.dup2, 1) := by decide +kernel
theorem dS_lend_6 : decode cS_lend 6 = .ok (.iaload, 1) := by decide +kernel
theorem dS_lend_7 : decode cS_lend 7 = .ok (.iconst 1, 1) := by decide +kernel
theorem dS_lend_8 : decode cS_lend 8 = .ok (.isub, 1) := by decide +kernel
theorem dS_lend_9 : decode cS_lend 9 = .ok (.iastore, 1) := by decide +kernel
theorem dS_lend_10 : decode cS_lend 10 = .ok (.aload_n 0, 1) := by decide +kernel
theorem dS_lend_11 : decode cS_lend 11 = .ok (.getfield 21, 3) := by decide +kernel
theorem dS_lend_14 : decode cS_lend 14 = .ok (.iload_n 1, 1) := by decide +kernel
theorem dS_lend_15 : decode cS_lend 15 = .ok (.iaload, 1) := by decide +kernel
theorem dS_lend_16 : decode cS_lend 16 = .ok (.ifCond .lt 7, 3) := by decide +kernel
theorem dS_lend_19 : decode cS_lend 19 = .ok (.iconst 1, 1) := by decide +kernel
theorem dS_lend_20 : decode cS_lend 20 = .ok (.goto 4, 3) := by decide +kernel
theorem dS_lend_23 : decode cS_lend 23 = .ok (.iconst 0, 1) := by decide +kernel
theorem dS_lend_24 : decode cS_lend 24 = .ok (.ireturn, 1) := by decide +kernel
theorem dS_maximize_0 : decode cS_maximize 0 = .ok (.aload_n 0, 1) := by decide +kernel
theorem dS_maximize_1 : decode cS_maximize 1 = .ok (.iconst 0, 1) := by decide +kernel
theorem dS_maximize_2 : decode cS_maximize 2 = .ok (.putfield 58, 3) := by decide +kernel
theorem dS_maximize_5 : decode cS_maximize 5 = .ok (.aload_n 0, 1) := by decide +kernel
theorem dS_maximize_6 : decode cS_maximize 6 = .ok (.iconst 0, 1) := by decide +kernel
theorem dS_maximize_7 : decode cS_maximize 7 = .ok (.putfield 61, 3) := by decide +kernel
theorem dS_maximize_10 : decode cS_maximize 10 = .ok (.aload_n 0, 1) := by decide +kernel
theorem dS_maximize_11 : decode cS_maximize 11 = .ok (.aload_n 0, 1) := by decide +kernel
theorem dS_maximize_12 : decode cS_maximize 12 = .ok (.getfield 27, 3) := by decide +kernel
theorem dS_maximize_15 : decode cS_maximize 15 = .ok (.putfield 64, 3) := by decide +kernel
theorem dS_maximize_18 : decode cS_maximize 18 = .ok (.aload_n 0, 1) := by decide +kernel
theorem dS_maximize_19 : decode cS_maximize 19 = .ok (.iconst 0, 1) := by decide +kernel
theorem dS_maximize_20 : decode cS_maximize 20 = .ok (.iconst 0, 1) := by decide +kernel
theorem dS_maximize_21 : decode cS_maximize 21 = .ok (.iconst 0, 1) := by decide +kernel
theorem dS_maximize_22 : decode cS_maximize 22 = .ok (.invokestatic 67, 3) := by decide +kernel
theorem dS_maximize_25 : decode cS_maximize 25 = .ok (.return_, 1) := by decide +kernel
theorem dS_reaches_0 : decode cS_reaches 0 = .ok (.aload_n 0, 1) := by decide +kernel
theorem dS_reaches_1 : decode cS_reaches 1 = .ok (.iconst 0, 1) := by decide +kernel
theorem dS_reaches_2 : decode cS_reaches 2 = .ok (.putfield 58, 3) := by decide +kernel
theorem dS_reaches_5 : decode cS_reaches 5 = .ok (.aload_n 0, 1) := by decide +kernel
theorem dS_reaches_6 : decode cS_reaches 6 = .ok (.iload_n 1, 1) := by decide +kernel
theorem dS_reaches_7 : decode cS_reaches 7 = .ok (.iconst 1, 1) := by decide +kernel
theorem dS_reaches_8 : decode cS_reaches 8 = .ok (.isub, 1) := by decide +kernel
theorem dS_reaches_9 : decode cS_reaches 9 = .ok (.putfield 61, 3) := by decide +kernel
theorem dS_reaches_12 : decode cS_reaches 12 = .ok (.aload_n 0, 1) := by decide +kernel
theorem dS_reaches_13 : decode cS_reaches 13 = .ok (.iload_n 1, 1) := by decide +kernel
theorem dS_reaches_14 : decode cS_reaches 14 = .ok (.putfield 64, 3) := by decide +kernel
theorem dS_reaches_17 : decode cS_reaches 17 = .ok (.aload_n 0, 1) := by decide +kernel
theorem dS_reaches_18 : decode cS_reaches 18 = .ok (.iconst 0, 1) := by decide +kernel
theorem dS_reaches_19 : decode cS_reaches 19 = .ok (.iconst 0, 1) := by decide +kernel
theorem dS_reaches_20 : decode cS_reaches 20 = .ok (.iconst 0, 1) := by decide +kernel
theorem dS_reaches_21 : decode cS_reaches 21 = .ok (.invokestatic 67, 3) := by decide +kernel
theorem dS_reaches_24 : decode cS_reaches 24 = .ok (.aload_n 0, 1) := by decide +kernel
theorem dS_reaches_25 : decode cS_reaches 25 = .ok (.getfield 61, 3) := by decide +kernel
theorem dS_reaches_28 : decode cS_reaches 28 = .ok (.iload_n 1, 1) := by decide +kernel
theorem dS_reaches_29 : decode cS_reaches 29 = .ok (.if_icmp .lt 7, 3) := by decide +kernel
theorem dS_reaches_32 : decode cS_reaches 32 = .ok (.iconst 1, 1) := by decide +kernel
theorem dS_reaches_33 : decode cS_reaches 33 = .ok (.goto 4, 3) := by decide +kernel
theorem dS_reaches_36 : decode cS_reaches 36 = .ok (.iconst 0, 1) := by decide +kernel
theorem dS_reaches_37 : decode cS_reaches 37 = .ok (.ireturn, 1) := by decide +kernel
theorem dS_explore_0 : decode cS_explore 0 = .ok (.iload_n 3, 1) := by decide +kernel
theorem dS_explore_1 : decode cS_explore 1 = .ok (.aload_n 0, 1) := by decide +kernel
theorem dS_explore_2 : decode cS_explore 2 = .ok (.getfield 61, 3) := by decide +kernel
theorem dS_explore_5 : decode cS_explore 5 = .ok (.if_icmp .le 13, 3) := by decide +kernel
theorem dS_explore_8 : decode cS_explore 8 = .ok (.aload_n 0, 1) := by decide +kernel
theorem dS_explore_9 : decode cS_explore 9 = .ok (.iload_n 3, 1) := by decide +kernel
theorem dS_explore_10 : decode cS_explore 10 = .ok (.putfield 61, 3) := by decide +kernel
theorem dS_explore_13 : decode cS_explore 13 = .ok (.aload_n 0, 1) := by decide +kernel
theorem dS_explore_14 : decode cS_explore 14 = .ok (.iload_n 2, 1) := by decide +kernel
theorem dS_explore_15 : decode cS_explore 15 = .ok (.putfield 58, 3) := by decide +kernel
theorem dS_explore_18 : decode cS_explore 18 = .ok (.iload_n 1, 1) := by decide +kernel
theorem dS_explore_19 : decode cS_explore 19 = .ok (.aload_n 0, 1) := by decide +kernel
theorem dS_explore_20 : decode cS_explore 20 = .ok (.getfield 27, 3) := by decide +kernel
theorem dS_explore_23 : decode cS_explore 23 = .ok (.if_icmp .ge 27, 3) := by decide +kernel
theorem dS_explore_26 : decode cS_explore 26 = .ok (.aload_n 0, 1) := by decide +kernel
theorem dS_explore_27 : decode cS_explore 27 = .ok (.getfield 61, 3) := by decide +kernel
theorem dS_explore_30 : decode cS_explore 30 = .ok (.aload_n 0, 1) := by decide +kernel
theorem dS_explore_31 : decode cS_explore 31 = .ok (.getfield 64, 3) := by decide +kernel
theorem dS_explore_34 : decode cS_explore 34 = .ok (.if_icmp .ge 16, 3) := by decide +kernel
theorem dS_explore_37 : decode cS_explore 37 = .ok (.iload_n 3, 1) := by decide +kernel
theorem dS_explore_38 : decode cS_explore 38 = .ok (.aload_n 0, 1) := by decide +kernel
theorem dS_explore_39 : decode cS_explore 39 = .ok (.invokevirtual 71, 3) := by decide +kernel
theorem dS_explore_42 : decode cS_explore 42 = .ok (.iadd, 1) := by decide +kernel
theorem dS_explore_43 : decode cS_explore 43 = .ok (.aload_n 0, 1) := by decide +kernel
theorem dS_explore_44 : decode cS_explore 44 = .ok (.getfield 61, 3) := by decide +kernel
theorem dS_explore_47 : decode cS_explore 47 = .ok (.if_icmp .gt 4, 3) := by decide +kernel
theorem dS_explore_50 : decode cS_explore 50 = .ok (.return_, 1) := by decide +kernel
theorem dS_explore_51 : decode cS_explore 51 = .ok (.aload_n 0, 1) := by decide +kernel
theorem dS_explore_52 : decode cS_explore 52 = .ok (.getfield 9, 3) := by decide +kernel
theorem dS_explore_55 : decode cS_explore 55 = .ok (.iload_n 1, 1) := by decide +kernel
theorem dS_explore_56 : decode cS_explore 56 = .ok (.iaload, 1) := by decide +kernel
theorem dS_explore_57 : decode cS_explore 57 = .ok (.istore 4, 2) := by decide +kernel
theorem dS_explore_59 : decode cS_explore 59 = .ok (.aload_n 0, 1) := by decide +kernel
theorem dS_explore_60 : decode cS_explore 60 = .ok (.getfield 15, 3) := by decide +kernel
theorem dS_explore_63 : decode cS_explore 63 = .ok (.iload_n 1, 1) := by decide +kernel
theorem dS_explore_64 : decode cS_explore 64 = .ok (.iaload, 1) := by decide +kernel
theorem dS_explore_65 : decode cS_explore 65 = .ok (.istore 5, 2) := by decide +kernel
theorem dS_explore_67 : decode cS_explore 67 = .ok (.aload_n 0, 1) := by decide +kernel
theorem dS_explore_68 : decode cS_explore 68 = .ok (.getfield 24, 3) := by decide +kernel
theorem dS_explore_71 : decode cS_explore 71 = .ok (.iload 4, 2) := by decide +kernel
theorem dS_explore_73 : decode cS_explore 73 = .ok (.dup2, 1) := by decide +kernel
theorem dS_explore_74 : decode cS_explore 74 = .ok (.iaload, 1) := by decide +kernel
theorem dS_explore_75 : decode cS_explore 75 = .ok (.iconst 1, 1) := by decide +kernel
theorem dS_explore_76 : decode cS_explore 76 = .ok (.isub, 1) := by decide +kernel
theorem dS_explore_77 : decode cS_explore 77 = .ok (.iastore, 1) := by decide +kernel
theorem dS_explore_78 : decode cS_explore 78 = .ok (.aload_n 0, 1) := by decide +kernel
theorem dS_explore_79 : decode cS_explore 79 = .ok (.getfield 24, 3) := by decide +kernel
theorem dS_explore_82 : decode cS_explore 82 = .ok (.iload 5, 2) := by decide +kernel
theorem dS_explore_84 : decode cS_explore 84 = .ok (.dup2, 1) := by decide +kernel
theorem dS_explore_85 : decode cS_explore 85 = .ok (.iaload, 1) := by decide +kernel
theorem dS_explore_86 : decode cS_explore 86 = .ok (.iconst 1, 1) := by decide +kernel
theorem dS_explore_87 : decode cS_explore 87 = .ok (.isub, 1) := by decide +kernel
theorem dS_explore_88 : decode cS_explore 88 = .ok (.iastore, 1) := by decide +kernel
theorem dS_explore_89 : decode cS_explore 89 = .ok (.aload_n 0, 1) := by decide +kernel
theorem dS_explore_90 : decode cS_explore 90 = .ok (.iload_n 1, 1) := by decide +kernel
theorem dS_explore_91 : decode cS_explore 91 = .ok (.iload_n 2, 1) := by decide +kernel
theorem dS_explore_92 : decode cS_explore 92 = .ok (.invokevirtual 75, 3) := by decide +kernel
theorem dS_explore_95 : decode cS_explore 95 = .ok (.ifCond .eq 62, 3) := by decide +kernel
theorem dS_explore_98 : decode cS_explore 98 = .ok (.aload_n 0, 1) := by decide +kernel
theorem dS_explore_99 : decode cS_explore 99 = .ok (.getfield 21, 3) := by decide +kernel
theorem dS_explore_102 : decode cS_explore 102 = .ok (.iload 4, 2) := by decide +kernel
theorem dS_explore_104 : decode cS_explore 104 = .ok (.dup2, 1) := by decide +kernel
theorem dS_explore_105 : decode cS_explore 105 = .ok (.iaload, 1) := by decide +kernel
theorem dS_explore_106 : decode cS_explore 106 = .ok (.iconst 1, 1) := by decide +kernel
theorem dS_explore_107 : decode cS_explore 107 = .ok (.isub, 1) := by decide +kernel
theorem dS_explore_108 : decode cS_explore 108 = .ok (.iastore, 1) := by decide +kernel
theorem dS_explore_109 : decode cS_explore 109 = .ok (.aload_n 0, 1) := by decide +kernel
theorem dS_explore_110 : decode cS_explore 110 = .ok (.getfield 21, 3) := by decide +kernel
theorem dS_explore_113 : decode cS_explore 113 = .ok (.iload 5, 2) := by decide +kernel
theorem dS_explore_115 : decode cS_explore 115 = .ok (.dup2, 1) := by decide +kernel
theorem dS_explore_116 : decode cS_explore 116 = .ok (.iaload, 1) := by decide +kernel
theorem dS_explore_117 : decode cS_explore 117 = .ok (.iconst 1, 1) := by decide +kernel
theorem dS_explore_118 : decode cS_explore 118 = .ok (.isub, 1) := by decide +kernel
theorem dS_explore_119 : decode cS_explore 119 = .ok (.iastore, 1) := by decide +kernel
theorem dS_explore_120 : decode cS_explore 120 = .ok (.aload_n 0, 1) := by decide +kernel
theorem dS_explore_121 : decode cS_explore 121 = .ok (.iload_n 1, 1) := by decide +kernel
theorem dS_explore_122 : decode cS_explore 122 = .ok (.iconst 1, 1) := by decide +kernel
theorem dS_explore_123 : decode cS_explore 123 = .ok (.iadd, 1) := by decide +kernel
theorem dS_explore_124 : decode cS_explore 124 = .ok (.iload_n 2, 1) := by decide +kernel
theorem dS_explore_125 : decode cS_explore 125 = .ok (.iconst 1, 1) := by decide +kernel
theorem dS_explore_126 : decode cS_explore 126 = .ok (.iload_n 1, 1) := by decide +kernel
theorem dS_explore_127 : decode cS_explore 127 = .ok (.ishl, 1) := by decide +kernel
theorem dS_explore_128 : decode cS_explore 128 = .ok (.ior, 1) := by decide +kernel
theorem dS_explore_129 : decode cS_explore 129 = .ok (.iload_n 3, 1) := by decide +kernel
theorem dS_explore_130 : decode cS_explore 130 = .ok (.iconst 1, 1) := by decide +kernel
theorem dS_explore_131 : decode cS_explore 131 = .ok (.iadd, 1) := by decide +kernel
theorem dS_explore_132 : decode cS_explore 132 = .ok (.invokestatic 67, 3) := by decide +kernel
theorem dS_explore_135 : decode cS_explore 135 = .ok (.aload_n 0, 1) := by decide +kernel
theorem dS_explore_136 : decode cS_explore 136 = .ok (.getfield 21, 3) := by decide +kernel
theorem dS_explore_139 : decode cS_explore 139 = .ok (.iload 4, 2) := by decide +kernel
theorem dS_explore_141 : decode cS_explore 141 = .ok (.dup2, 1) := by decide +kernel
theorem dS_explore_142 : decode cS_explore 142 = .ok (.iaload, 1) := by decide +kernel
theorem dS_explore_143 : decode cS_explore 143 = .ok (.iconst 1, 1) := by decide +kernel
theorem dS_explore_144 : decode cS_explore 144 = .ok (.iadd, 1) := by decide +kernel
theorem dS_explore_145 : decode cS_explore 145 = .ok (.iastore, 1) := by decide +kernel
theorem dS_explore_146 : decode cS_explore 146 = .ok (.aload_n 0, 1) := by decide +kernel
theorem dS_explore_147 : decode cS_explore 147 = .ok (.getfield 21, 3) := by decide +kernel
theorem dS_explore_150 : decode cS_explore 150 = .ok (.iload 5, 2) := by decide +kernel
theorem dS_explore_152 : decode cS_explore 152 = .ok (.dup2, 1) := by decide +kernel
theorem dS_explore_153 : decode cS_explore 153 = .ok (.iaload, 1) := by decide +kernel
theorem dS_explore_154 : decode cS_explore 154 = .ok (.iconst 1, 1) := by decide +kernel
theorem dS_explore_155 : decode cS_explore 155 = .ok (.iadd, 1) := by decide +kernel
theorem dS_explore_156 : decode cS_explore 156 = .ok (.iastore, 1) := by decide +kernel
theorem dS_explore_157 : decode cS_explore 157 = .ok (.aload_n 0, 1) := by decide +kernel
theorem dS_explore_158 : decode cS_explore 158 = .ok (.iload_n 1, 1) := by decide +kernel
theorem dS_explore_159 : decode cS_explore 159 = .ok (.iconst 1, 1) := by decide +kernel
theorem dS_explore_160 : decode cS_explore 160 = .ok (.iadd, 1) := by decide +kernel
theorem dS_explore_161 : decode cS_explore 161 = .ok (.iload_n 2, 1) := by decide +kernel
theorem dS_explore_162 : decode cS_explore 162 = .ok (.iload_n 3, 1) := by decide +kernel
theorem dS_explore_163 : decode cS_explore 163 = .ok (.invokestatic 67, 3) := by decide +kernel
theorem dS_explore_166 : decode cS_explore 166 = .ok (.aload_n 0, 1) := by decide +kernel
theorem dS_explore_167 : decode cS_explore 167 = .ok (.getfield 24, 3) := by decide +kernel
theorem dS_explore_170 : decode cS_explore 170 = .ok (.iload 4, 2) := by decide +kernel
theorem dS_explore_172 : decode cS_explore 172 = .ok (.dup2, 1) := by decide +kernel
theorem dS_explore_173 : decode cS_explore 173 = .ok (.iaload, 1) := by decide +kernel
theorem dS_explore_174 : decode cS_explore 174 = .ok (.iconst 1, 1) := by decide +kernel
theorem dS_explore_175 : decode cS_explore 175 = .ok (.iadd, 1) := by decide +kernel
theorem dS_explore_176 : decode cS_explore 176 = .ok (.iastore, 1) := by decide +kernel
theorem dS_explore_177 : decode cS_explore 177 = .ok (.aload_n 0, 1) := by decide +kernel
theorem dS_explore_178 : decode cS_explore 178 = .ok (.getfield 24, 3) := by decide +kernel
theorem dS_explore_181 : decode cS_explore 181 = .ok (.iload 5, 2) := by decide +kernel
theorem dS_explore_183 : decode cS_explore 183 = .ok (.dup2, 1) := by decide +kernel
theorem dS_explore_184 : decode cS_explore 184 = .ok (.iaload, 1) := by decide +kernel
theorem dS_explore_185 : decode cS_explore 185 = .ok (.iconst 1, 1) := by decide +kernel
theorem dS_explore_186 : decode cS_explore 186 = .ok (.iadd, 1) := by decide +kernel
theorem dS_explore_187 : decode cS_explore 187 = .ok (.iastore, 1) := by decide +kernel
theorem dS_explore_188 : decode cS_explore 188 = .ok (.return_, 1) := by decide +kernel
theorem dS_mayAdd_0 : decode cS_mayAdd 0 = .ok (.aload_n 0, 1) := by decide +kernel
