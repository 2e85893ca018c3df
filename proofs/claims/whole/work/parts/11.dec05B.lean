theorem dB_init_0 : decode cB_init 0 = .ok (.aload_n 0, 1) := by decide +kernel
theorem dB_init_1 : decode cB_init 1 = .ok (.invokespecial 3, 3) := by decide +kernel
theorem dB_init_4 : decode cB_init 4 = .ok (.aload_n 0, 1) := by decide +kernel
theorem dB_init_5 : decode cB_init 5 = .ok (.sipush 512, 3) := by decide +kernel
theorem dB_init_8 : decode cB_init 8 = .ok (.newarray .int, 2) := by decide +kernel
theorem dB_init_10 : decode cB_init 10 = .ok (.putfield 9, 3) := by decide +kernel
theorem dB_init_13 : decode cB_init 13 = .ok (.aload_n 0, 1) := by decide +kernel
theorem dB_init_14 : decode cB_init 14 = .ok (.bipush 9, 2) := by decide +kernel
theorem dB_init_16 : decode cB_init 16 = .ok (.newarray .int, 2) := by decide +kernel
theorem dB_init_18 : decode cB_init 18 = .ok (.putfield 15, 3) := by decide +kernel
theorem dB_init_21 : decode cB_init 21 = .ok (.aload_n 0, 1) := by decide +kernel
theorem dB_init_22 : decode cB_init 22 = .ok (.sipush 512, 3) := by decide +kernel
theorem dB_init_25 : decode cB_init 25 = .ok (.newarray .int, 2) := by decide +kernel
theorem dB_init_27 : decode cB_init 27 = .ok (.putfield 18, 3) := by decide +kernel
theorem dB_init_30 : decode cB_init 30 = .ok (.aload_n 0, 1) := by decide +kernel
theorem dB_init_31 : decode cB_init 31 = .ok (.sipush 512, 3) := by decide +kernel
theorem dB_init_34 : decode cB_init 34 = .ok (.newarray .int, 2) := by decide +kernel
theorem dB_init_36 : decode cB_init 36 = .ok (.putfield 21, 3) := by decide +kernel
theorem dB_init_39 : decode cB_init 39 = .ok (.aload_n 0, 1) := by decide +kernel
theorem dB_init_40 : decode cB_init 40 = .ok (.sipush 512, 3) := by decide +kernel
theorem dB_init_43 : decode cB_init 43 = .ok (.newarray .int, 2) := by decide +kernel
theorem dB_init_45 : decode cB_init 45 = .ok (.putfield 24, 3) := by decide +kernel
theorem dB_init_48 : decode cB_init 48 = .ok (.iconst 1, 1) := by decide +kernel
theorem dB_init_49 : decode cB_init 49 = .ok (.istore_n 1, 1) := by decide +kernel
theorem dB_init_50 : decode cB_init 50 = .ok (.iconst 0, 1) := by decide +kernel
theorem dB_init_51 : decode cB_init 51 = .ok (.istore_n 2, 1) := by decide +kernel
theorem dB_init_52 : decode cB_init 52 = .ok (.iload_n 2, 1) := by decide +kernel
theorem dB_init_53 : decode cB_init 53 = .ok (.sipush 512, 3) := by decide +kernel
theorem dB_init_56 : decode cB_init 56 = .ok (.if_icmp .ge 61, 3) := by decide +kernel
theorem dB_init_59 : decode cB_init 59 = .ok (.iconst 0, 1) := by decide +kernel
theorem dB_init_60 : decode cB_init 60 = .ok (.istore_n 3, 1) := by decide +kernel
theorem dB_init_61 : decode cB_init 61 = .ok (.iload_n 3, 1) := by decide +kernel
theorem dB_init_62 : decode cB_init 62 = .ok (.bipush 9, 2) := by decide +kernel
theorem dB_init_64 : decode cB_init 64 = .ok (.if_icmp .ge 47, 3) := by decide +kernel
theorem dB_init_67 : decode cB_init 67 = .ok (.iconst 1, 1) := by decide +kernel
theorem dB_init_68 : decode cB_init 68 = .ok (.iload_n 3, 1) := by decide +kernel
theorem dB_init_69 : decode cB_init 69 = .ok (.ishl, 1) := by decide +kernel
theorem dB_init_70 : decode cB_init 70 = .ok (.aload_n 0, 1) := by decide +kernel
theorem dB_init_71 : decode cB_init 71 = .ok (.getfield 9, 3) := by decide +kernel
theorem dB_init_74 : decode cB_init 74 = .ok (.iload_n 2, 1) := by decide +kernel
theorem dB_init_75 : decode cB_init 75 = .ok (.iaload, 1) := by decide +kernel
theorem dB_init_76 : decode cB_init 76 = .ok (.if_icmp .le 29, 3) := by decide +kernel
theorem dB_init_79 : decode cB_init 79 = .ok (.iload_n 1, 1) := by decide +kernel
theorem dB_init_80 : decode cB_init 80 = .ok (.sipush 512, 3) := by decide +kernel
theorem dB_init_83 : decode cB_init 83 = .ok (.if_icmp .ge 22, 3) := by decide +kernel
theorem dB_init_86 : decode cB_init 86 = .ok (.aload_n 0, 1) := by decide +kernel
theorem dB_init_87 : decode cB_init 87 = .ok (.getfield 9, 3) := by decide +kernel
theorem dB_init_90 : decode cB_init 90 = .ok (.iload_n 1, 1) := by decide +kernel
theorem dB_init_91 : decode cB_init 91 = .ok (.aload_n 0, 1) := by decide +kernel
theorem dB_init_92 : decode cB_init 92 = .ok (.getfield 9, 3) := by decide +kernel
theorem dB_init_95 : decode cB_init 95 = .ok (.iload_n 2, 1) := by decide +kernel
theorem dB_init_96 : decode cB_init 96 = .ok (.iaload, 1) := by decide +kernel
theorem dB_init_97 : decode cB_init 97 = .ok (.iconst 1, 1) := by decide +kernel
theorem dB_init_98 : decode cB_init 98 = .ok (.iload_n 3, 1) := by decide +kernel
theorem dB_init_99 : decode cB_init 99 = .ok (.ishl, 1) := by decide +kernel
theorem dB_init_100 : decode cB_init 100 = .ok (.ior, 1) := by decide +kernel
theorem dB_init_101 : decode cB_init 101 = .ok (.iastore, 1) := by decide +kernel
theorem dB_init_102 : decode cB_init 102 = .ok (.iinc 1 1, 3) := by decide +kernel
theorem dB_init_105 : decode cB_init 105 = .ok (.iinc 3 1, 3) := by decide +kernel
theorem dB_init_108 : decode cB_init 108 = .ok (.goto (-47), 3) := by decide +kernel
theorem dB_init_111 : decode cB_init 111 = .ok (.iinc 2 1, 3) := by decide +kernel
theorem dB_init_114 : decode cB_init 114 = .ok (.goto (-62), 3) := by decide +kernel
theorem dB_init_117 : decode cB_init 117 = .ok (.return_, 1) := by decide +kernel
theorem dB_load_0 : decode cB_load 0 = .ok (.aload_n 0, 1) := by decide +kernel
theorem dB_load_1 : decode cB_load 1 = .ok (.iconst 1, 1) := by decide +kernel
theorem dB_load_2 : decode cB_load 2 = .ok (.aload_n 1, 1) := by decide +kernel
theorem dB_load_3 : decode cB_load 3 = .ok (.getfield 27, 3) := by decide +kernel
theorem dB_load_6 : decode cB_load 6 = .ok (.ishl, 1) := by decide +kernel
theorem dB_load_7 : decode cB_load 7 = .ok (.iconst 1, 1) := by decide +kernel
theorem dB_load_8 : decode cB_load 8 = .ok (.isub, 1) := by decide +kernel
theorem dB_load_9 : decode cB_load 9 = .ok (.putfield 33, 3) := by decide +kernel
theorem dB_load_12 : decode cB_load 12 = .ok (.aload_n 0, 1) := by decide +kernel
theorem dB_load_13 : decode cB_load 13 = .ok (.aload_n 1, 1) := by decide +kernel
theorem dB_load_14 : decode cB_load 14 = .ok (.invokevirtual 36, 3) := by decide +kernel
theorem dB_load_17 : decode cB_load 17 = .ok (.iconst 0, 1) := by decide +kernel
theorem dB_load_18 : decode cB_load 18 = .ok (.istore_n 2, 1) := by decide +kernel
theorem dB_load_19 : decode cB_load 19 = .ok (.iload_n 2, 1) := by decide +kernel
theorem dB_load_20 : decode cB_load 20 = .ok (.aload_n 1, 1) := by decide +kernel
theorem dB_load_21 : decode cB_load 21 = .ok (.getfield 27, 3) := by decide +kernel
theorem dB_load_24 : decode cB_load 24 = .ok (.if_icmp .ge 63, 3) := by decide +kernel
theorem dB_load_27 : decode cB_load 27 = .ok (.iconst 0, 1) := by decide +kernel
theorem dB_load_28 : decode cB_load 28 = .ok (.istore_n 3, 1) := by decide +kernel
theorem dB_load_29 : decode cB_load 29 = .ok (.iload_n 3, 1) := by decide +kernel
theorem dB_load_30 : decode cB_load 30 = .ok (.iconst 1, 1) := by decide +kernel
theorem dB_load_31 : decode cB_load 31 = .ok (.iload_n 2, 1) := by decide +kernel
theorem dB_load_32 : decode cB_load 32 = .ok (.ishl, 1) := by decide +kernel
theorem dB_load_33 : decode cB_load 33 = .ok (.if_icmp .ge 48, 3) := by decide +kernel
theorem dB_load_36 : decode cB_load 36 = .ok (.aload_n 0, 1) := by decide +kernel
theorem dB_load_37 : decode cB_load 37 = .ok (.getfield 18, 3) := by decide +kernel
theorem dB_load_40 : decode cB_load 40 = .ok (.iload_n 3, 1) := by decide +kernel
theorem dB_load_41 : decode cB_load 41 = .ok (.iconst 1, 1) := by decide +kernel
theorem dB_load_42 : decode cB_load 42 = .ok (.iload_n 2, 1) := by decide +kernel
theorem dB_load_43 : decode cB_load 43 = .ok (.ishl, 1) := by decide +kernel
theorem dB_load_44 : decode cB_load 44 = .ok (.ior, 1) := by decide +kernel
theorem dB_load_45 : decode cB_load 45 = .ok (.aload_n 0, 1) := by decide +kernel
theorem dB_load_46 : decode cB_load 46 = .ok (.getfield 18, 3) := by decide +kernel
theorem dB_load_49 : decode cB_load 49 = .ok (.iload_n 3, 1) := by decide +kernel
theorem dB_load_50 : decode cB_load 50 = .ok (.iaload, 1) := by decide +kernel
theorem dB_load_51 : decode cB_load 51 = .ok (.aload_n 1, 1) := by decide +kernel
theorem dB_load_52 : decode cB_load 52 = .ok (.getfield 40, 3) := by decide +kernel
theorem dB_load_55 : decode cB_load 55 = .ok (.iload_n 2, 1) := by decide +kernel
theorem dB_load_56 : decode cB_load 56 = .ok (.iaload, 1) := by decide +kernel
theorem dB_load_57 : decode cB_load 57 = .ok (.iadd, 1) := by decide +kernel
theorem dB_load_58 : decode cB_load 58 = .ok (.iastore, 1) := by decide +kernel
theorem dB_load_59 : decode cB_load 59 = .ok (.aload_n 0, 1) := by decide +kernel
theorem dB_load_60 : decode cB_load 60 = .ok (.getfield 24, 3) := by decide +kernel
theorem dB_load_63 : decode cB_load 63 = .ok (.iload_n 3, 1) := by decide +kernel
theorem dB_load_64 : decode cB_load 64 = .ok (.iconst 1, 1) := by decide +kernel
theorem dB_load_65 : decode cB_load 65 = .ok (.iload_n 2, 1) := by decide +kernel
theorem dB_load_66 : decode cB_load 66 = .ok (.ishl, 1) := by decide +kernel
theorem dB_load_67 : decode cB_load 67 = .ok (.ior, 1) := by decide +kernel
theorem dB_load_68 : decode cB_load 68 = .ok (.aload_n 0, 1) := by decide +kernel
theorem dB_load_69 : decode cB_load 69 = .ok (.iload_n 2, 1) := by decide +kernel
theorem dB_load_70 : decode cB_load 70 = .ok (.iload_n 3, 1) := by decide +kernel
theorem dB_load_71 : decode cB_load 71 = .ok (.invokevirtual 43, 3) := by decide +kernel
theorem dB_load_74 : decode cB_load 74 = .ok (.iastore, 1) := by decide +kernel
theorem dB_load_75 : decode cB_load 75 = .ok (.iinc 3 1, 3) := by decide +kernel
theorem dB_load_78 : decode cB_load 78 = .ok (.goto (-49), 3) := by decide +kernel
theorem dB_load_81 : decode cB_load 81 = .ok (.iinc 2 1, 3) := by decide +kernel
theorem dB_load_84 : decode cB_load 84 = .ok (.goto (-65), 3) := by decide +kernel
theorem dB_load_87 : decode cB_load 87 = .ok (.return_, 1) := by decide +kernel
theorem dB_countInside_0 : decode cB_countInside 0 = .ok (.iconst 0, 1) := by decide +kernel
theorem dB_countInside_1 : decode cB_countInside 1 = .ok (.istore_n 2, 1) := by decide +kernel
theorem dB_countInside_2 : decode cB_countInside 2 = .ok (.iload_n 2, 1) := by decide +kernel
theorem dB_countInside_3 : decode cB_countInside 3 = .ok (.bipush 9, 2) := by decide +kernel
theorem dB_countInside_5 : decode cB_countInside 5 = .ok (.if_icmp .ge 16, 3) := by decide +kernel
theorem dB_countInside_8 : decode cB_countInside 8 = .ok (.aload_n 0, 1) := by decide +kernel
theorem dB_countInside_9 : decode cB_countInside 9 = .ok (.getfield 15, 3) := by decide +kernel
theorem dB_countInside_12 : decode cB_countInside 12 = .ok (.iload_n 2, 1) := by decide +kernel
theorem dB_countInside_13 : decode cB_countInside 13 = .ok (.iconst 0, 1) := by decide +kernel
theorem dB_countInside_14 : decode cB_countInside 14 = .ok (.iastore, 1) := by decide +kernel
theorem dB_countInside_15 : decode cB_countInside 15 = .ok (.iinc 2 1, 3) := by decide +kernel
theorem dB_countInside_18 : decode cB_countInside 18 = .ok (.goto (-16), 3) := by decide +kernel
theorem dB_countInside_21 : decode cB_countInside 21 = .ok (.iconst 0, 1) := by decide +kernel
theorem dB_countInside_22 : decode cB_countInside 22 = .ok (.istore_n 2, 1) := by decide +kernel
theorem dB_countInside_23 : decode cB_countInside 23 = .ok (.iload_n 2, 1) := by decide +kernel
theorem dB_countInside_24 : decode cB_countInside 24 = .ok (.aload_n 0, 1) := by decide +kernel
theorem dB_countInside_25 : decode cB_countInside 25 = .ok (.getfield 33, 3) := by decide +kernel
theorem dB_countInside_28 : decode cB_countInside 28 = .ok (.if_icmp .gt 16, 3) := by decide +kernel
theorem dB_countInside_31 : decode cB_countInside 31 = .ok (.aload_n 0, 1) := by decide +kernel
theorem dB_countInside_32 : decode cB_countInside 32 = .ok (.getfield 21, 3) := by decide +kernel
theorem dB_countInside_35 : decode cB_countInside 35 = .ok (.iload_n 2, 1) := by decide +kernel
theorem dB_countInside_36 : decode cB_countInside 36 = .ok (.iconst 0, 1) := by decide +kernel
theorem dB_countInside_37 : decode cB_countInside 37 = .ok (.iastore, 1) := by decide +kernel
theorem dB_countInside_38 : decode cB_countInside 38 = .ok (.iinc 2 1, 3) := by decide +kernel
theorem dB_countInside_41 : decode cB_countInside 41 = .ok (.goto (-18), 3) := by decide +kernel
theorem dB_countInside_44 : decode cB_countInside 44 = .ok (.iconst 0, 1) := by decide +kernel
theorem dB_countInside_45 : decode cB_countInside 45 = .ok (.istore_n 2, 1) := by decide +kernel
theorem dB_countInside_46 : decode cB_countInside 46 = .ok (.iload_n 2, 1) := by decide +kernel
theorem dB_countInside_47 : decode cB_countInside 47 = .ok (.aload_n 1, 1) := by decide +kernel
theorem dB_countInside_48 : decode cB_countInside 48 = .ok (.getfield 47, 3) := by decide +kernel
theorem dB_countInside_51 : decode cB_countInside 51 = .ok (.if_icmp .ge 67, 3) := by decide +kernel
theorem dB_countInside_54 : decode cB_countInside 54 = .ok (.aload_n 1, 1) := by decide +kernel
theorem dB_countInside_55 : decode cB_countInside 55 = .ok (.getfield 50, 3) := by decide +kernel
theorem dB_countInside_58 : decode cB_countInside 58 = .ok (.iload_n 2, 1) := by decide +kernel
theorem dB_countInside_59 : decode cB_countInside 59 = .ok (.iaload, 1) := by decide +kernel
theorem dB_countInside_60 : decode cB_countInside 60 = .ok (.istore_n 3, 1) := by decide +kernel
theorem dB_countInside_61 : decode cB_countInside 61 = .ok (.aload_n 1, 1) := by decide +kernel
theorem dB_countInside_62 : decode cB_countInside 62 = .ok (.getfield 53, 3) := by decide +kernel
theorem dB_countInside_65 : decode cB_countInside 65 = .ok (.iload_n 2, 1) := by decide +kernel
theorem dB_countInside_66 : decode cB_countInside 66 = .ok (.iaload, 1) := by decide +kernel
theorem dB_countInside_67 : decode cB_countInside 67 = .ok (.istore 4, 2) := by decide +kernel
theorem dB_countInside_69 : decode cB_countInside 69 = .ok (.aload_n 0, 1) := by decide +kernel
theorem dB_countInside_70 : decode cB_countInside 70 = .ok (.getfield 15, 3) := by decide +kernel
theorem dB_countInside_73 : decode cB_countInside 73 = .ok (.iload_n 3, 1) := by decide +kernel
theorem dB_countInside_74 : decode cB_countInside 74 = .ok (.dup2, 1) := by decide +kernel
theorem dB_countInside_75 : decode cB_countInside 75 = .ok (.iaload, 1) := by decide +kernel
theorem dB_countInside_76 : decode cB_countInside 76 = .ok (.iconst 1, 1) := by decide +kernel
theorem dB_countInside_77 : decode cB_countInside 77 = .ok (.iload 4, 2) := by decide +kernel
theorem dB_countInside_79 : decode cB_countInside 79 = .ok (.ishl, 1) := by decide +kernel
theorem dB_countInside_80 : decode cB_countInside 80 = .ok (.ior, 1) := by decide +kernel
theorem dB_countInside_81 : decode cB_countInside 81 = .ok (.iastore, 1) := by decide +kernel
theorem dB_countInside_82 : decode cB_countInside 82 = .ok (.aload_n 0, 1) := by decide +kernel
theorem dB_countInside_83 : decode cB_countInside 83 = .ok (.getfield 15, 3) := by decide +kernel
theorem dB_countInside_86 : decode cB_countInside 86 = .ok (.iload 4, 2) := by decide +kernel
theorem dB_countInside_88 : decode cB_countInside 88 = .ok (.dup2, 1) := by decide +kernel
theorem dB_countInside_89 : decode cB_countInside 89 = .ok (.iaload, 1) := by decide +kernel
theorem dB_countInside_90 : decode cB_countInside 90 = .ok (.iconst 1, 1) := by decide +kernel
theorem dB_countInside_91 : decode cB_countInside 91 = .ok (.iload_n 3, 1) := by decide +kernel
theorem dB_countInside_92 : decode cB_countInside 92 = .ok (.ishl, 1) := by decide +kernel
theorem dB_countInside_93 : decode cB_countInside 93 = .ok (.ior, 1) := by decide +kernel
theorem dB_countInside_94 : decode cB_countInside 94 = .ok (.iastore, 1) := by decide +kernel
theorem dB_countInside_95 : decode cB_countInside 95 = .ok (.aload_n 0, 1) := by decide +kernel
theorem dB_countInside_96 : decode cB_countInside 96 = .ok (.getfield 21, 3) := by decide +kernel
theorem dB_countInside_99 : decode cB_countInside 99 = .ok (.iconst 1, 1) := by decide +kernel
theorem dB_countInside_100 : decode cB_countInside 100 = .ok (.iload_n 3, 1) := by decide +kernel
theorem dB_countInside_101 : decode cB_countInside 101 = .ok (.ishl, 1) := by decide +kernel
theorem dB_countInside_102 : decode cB_countInside 102 = .ok (.iconst 1, 1) := by decide +kernel
theorem dB_countInside_103 : decode cB_countInside 103 = .ok (.iload 4, 2) := by decide +kernel
theorem dB_countInside_105 : decode cB_countInside 105 = .ok (.ishl, 1) := by decide +kernel
theorem dB_countInside_106 : decode cB_countInside 106 = .ok (.ior, 1) := by decide +kernel
theorem dB_countInside_107 : decode cB_countInside 107 = .ok (.dup2, 1) := by decide +kernel
theorem dB_countInside_108 : decode cB_countInside 108 = .ok (.iaload, 1) := by decide +kernel
theorem dB_countInside_109 : decode cB_countInside 109 = .ok (.iconst 1, 1) := by decide +kernel
theorem dB_countInside_110 : decode cB_countInside 110 = .ok (.iadd, 1) := by decide +kernel
theorem dB_countInside_111 : decode cB_countInside 111 = .ok (.iastore, 1) := by decide +kernel
theorem dB_countInside_112 : decode cB_countInside 112 = .ok (.iinc 2 1, 3) := by decide +kernel
theorem dB_countInside_115 : decode cB_countInside 115 = .ok (.goto (-69), 3) := by decide +kernel
theorem dB_countInside_118 : decode cB_countInside 118 = .ok (.iconst 0, 1) := by decide +kernel
theorem dB_countInside_119 : decode cB_countInside 119 = .ok (.istore_n 2, 1) := by decide +kernel
theorem dB_countInside_120 : decode cB_countInside 120 = .ok (.iload_n 2, 1) := by decide +kernel
theorem dB_countInside_121 : decode cB_countInside 121 = .ok (.aload_n 1, 1) := by decide +kernel
theorem dB_countInside_122 : decode cB_countInside 122 = .ok (.getfield 27, 3) := by decide +kernel
theorem dB_countInside_125 : decode cB_countInside 125 = .ok (.if_icmp .ge 53, 3) := by decide +kernel
theorem dB_countInside_128 : decode cB_countInside 128 = .ok (.iconst 0, 1) := by decide +kernel
theorem dB_countInside_129 : decode cB_countInside 129 = .ok (.istore_n 3, 1) := by decide +kernel
theorem dB_countInside_130 : decode cB_countInside 130 = .ok (.iload_n 3, 1) := by decide +kernel
theorem dB_countInside_131 : decode cB_countInside 131 = .ok (.aload_n 0, 1) := by decide +kernel
theorem dB_countInside_132 : decode cB_countInside 132 = .ok (.getfield 33, 3) := by decide +kernel
theorem dB_countInside_135 : decode cB_countInside 135 = .ok (.if_icmp .gt 37, 3) := by decide +kernel
theorem dB_countInside_138 : decode cB_countInside 138 = .ok (.iload_n 3, 1) := by decide +kernel
theorem dB_countInside_139 : decode cB_countInside 139 = .ok (.iload_n 2, 1) := by decide +kernel
theorem dB_countInside_140 : decode cB_countInside 140 = .ok (.ishr, 1) := by decide +kernel
theorem dB_countInside_141 : decode cB_countInside 141 = .ok (.iconst 1, 1) := by decide +kernel
theorem dB_countInside_142 : decode cB_countInside 142 = .ok (.iand, 1) := by decide +kernel
theorem dB_countInside_143 : decode cB_countInside 143 = .ok (.iconst 1, 1) := by decide +kernel
theorem dB_countInside_144 : decode cB_countInside 144 = .ok (.if_icmp .ne 22, 3) := by decide +kernel
theorem dB_countInside_147 : decode cB_countInside 147 = .ok (.aload_n 0, 1) := by decide +kernel
theorem dB_countInside_148 : decode cB_countInside 148 = .ok (.getfield 21, 3) := by decide +kernel
theorem dB_countInside_151 : decode cB_countInside 151 = .ok (.iload_n 3, 1) := by decide +kernel
theorem dB_countInside_152 : decode cB_countInside 152 = .ok (.dup2, 1) := by decide +kernel
theorem dB_countInside_153 : decode cB_countInside 153 = .ok (.iaload, 1) := by decide +kernel
theorem dB_countInside_154 : decode cB_countInside 154 = .ok (.aload_n 0, 1) := by decide +kernel
theorem dB_countInside_155 : decode cB_countInside 155 = .ok (.getfield 21, 3) := by decide +kernel
theorem dB_countInside_158 : decode cB_countInside 158 = .ok (.iload_n 3, 1) := by decide +kernel
theorem dB_countInside_159 : decode cB_countInside 159 = .ok (.iconst 1, 1) := by decide +kernel
theorem dB_countInside_160 : decode cB_countInside 160 = .ok (.iload_n 2, 1) := by decide +kernel
theorem dB_countInside_161 : decode cB_countInside 161 = .ok (.ishl, 1) := by decide +kernel
theorem dB_countInside_162 : decode cB_countInside 162 = .ok (.ixor, 1) := by decide +kernel
theorem dB_countInside_163 : decode cB_countInside 163 = .ok (.iaload, 1) := by decide +kernel
theorem dB_countInside_164 : decode cB_countInside 164 = .ok (.iadd, 1) := by decide +kernel
theorem dB_countInside_165 : decode cB_countInside 165 = .ok (.iastore, 1) := by decide +kernel
theorem dB_countInside_166 : decode cB_countInside 166 = .ok (.iinc 3 1, 3) := by decide +kernel
theorem dB_countInside_169 : decode cB_countInside 169 = .ok (.goto (-39), 3) := by decide +kernel
theorem dB_countInside_172 : decode cB_countInside 172 = .ok (.iinc 2 1, 3) := by decide +kernel
theorem dB_countInside_175 : decode cB_countInside 175 = .ok (.goto (-55), 3) := by decide +kernel
theorem dB_countInside_178 : decode cB_countInside 178 = .ok (.return_, 1) := by decide +kernel
theorem dB_partOf_0 : decode cB_partOf 0 = .ok (.iconst 1, 1) := by decide +kernel
theorem dB_partOf_1 : decode cB_partOf 1 = .ok (.iload_n 1, 1) := by decide +kernel
theorem dB_partOf_2 : decode cB_partOf 2 = .ok (.ishl, 1) := by decide +kernel
theorem dB_partOf_3 : decode cB_partOf 3 = .ok (.istore_n 3, 1) := by decide +kernel
theorem dB_partOf_4 : decode cB_partOf 4 = .ok (.iload_n 2, 1) := by decide +kernel
theorem dB_partOf_5 : decode cB_partOf 5 = .ok (.istore 4, 2) := by decide +kernel
theorem dB_partOf_7 : decode cB_partOf 7 = .ok (.iconst 0, 1) := by decide +kernel
theorem dB_partOf_8 : decode cB_partOf 8 = .ok (.istore 5, 2) := by decide +kernel
theorem dB_partOf_10 : decode cB_partOf 10 = .ok (.iload 5, 2) := by decide +kernel
theorem dB_partOf_12 : decode cB_partOf 12 = .ok (.bipush 9, 2) := by decide +kernel
theorem dB_partOf_14 : decode cB_partOf 14 = .ok (.if_icmp .ge 49, 3) := by decide +kernel
theorem dB_partOf_17 : decode cB_partOf 17 = .ok (.iload 4, 2) := by decide +kernel
theorem dB_partOf_19 : decode cB_partOf 19 = .ok (.ifCond .eq 44, 3) := by decide +kernel
theorem dB_partOf_22 : decode cB_partOf 22 = .ok (.aload_n 0, 1) := by decide +kernel
theorem dB_partOf_23 : decode cB_partOf 23 = .ok (.getfield 24, 3) := by decide +kernel
theorem dB_partOf_26 : decode cB_partOf 26 = .ok (.iload 4, 2) := by decide +kernel
theorem dB_partOf_28 : decode cB_partOf 28 = .ok (.iaload, 1) := by decide +kernel
theorem dB_partOf_29 : decode cB_partOf 29 = .ok (.istore 6, 2) := by decide +kernel
theorem dB_partOf_31 : decode cB_partOf 31 = .ok (.iload 6, 2) := by decide +kernel
theorem dB_partOf_33 : decode cB_partOf 33 = .ok (.aload_n 0, 1) := by decide +kernel
theorem dB_partOf_34 : decode cB_partOf 34 = .ok (.getfield 15, 3) := by decide +kernel
theorem dB_partOf_37 : decode cB_partOf 37 = .ok (.iload_n 1, 1) := by decide +kernel
theorem dB_partOf_38 : decode cB_partOf 38 = .ok (.iaload, 1) := by decide +kernel
theorem dB_partOf_39 : decode cB_partOf 39 = .ok (.iand, 1) := by decide +kernel
theorem dB_partOf_40 : decode cB_partOf 40 = .ok (.ifCond .eq 8, 3) := by decide +kernel
theorem dB_partOf_43 : decode cB_partOf 43 = .ok (.iload_n 3, 1) := by decide +kernel
theorem dB_partOf_44 : decode cB_partOf 44 = .ok (.iload 6, 2) := by decide +kernel
theorem dB_partOf_46 : decode cB_partOf 46 = .ok (.ior, 1) := by decide +kernel
theorem dB_partOf_47 : decode cB_partOf 47 = .ok (.istore_n 3, 1) := by decide +kernel
theorem dB_partOf_48 : decode cB_partOf 48 = .ok (.iload 4, 2) := by decide +kernel
theorem dB_partOf_50 : decode cB_partOf 50 = .ok (.iload 6, 2) := by decide +kernel
theorem dB_partOf_52 : decode cB_partOf 52 = .ok (.iconst (-1), 1) := by decide +kernel
theorem dB_partOf_53 : decode cB_partOf 53 = .ok (.ixor, 1) := by decide +kernel
theorem dB_partOf_54 : decode cB_partOf 54 = .ok (.iand, 1) := by decide +kernel
theorem dB_partOf_55 : decode cB_partOf 55 = .ok (.istore 4, 2) := by decide +kernel
theorem dB_partOf_57 : decode cB_partOf 57 = .ok (.iinc 5 1, 3) := by decide +kernel
theorem dB_partOf_60 : decode cB_partOf 60 = .ok (.goto (-50), 3) := by decide +kernel
theorem dB_partOf_63 : decode cB_partOf 63 = .ok (.iload_n 3, 1) := by decide +kernel
theorem dB_partOf_64 : decode cB_partOf 64 = .ok (.ireturn, 1) := by decide +kernel
theorem dB_value_0 : decode cB_value 0 = .ok (.aload_n 0, 1) := by decide +kernel
theorem dB_value_1 : decode cB_value 1 = .ok (.getfield 18, 3) := by decide +kernel
theorem dB_value_4 : decode cB_value 4 = .ok (.iload_n 1, 1) := by decide +kernel
theorem dB_value_5 : decode cB_value 5 = .ok (.iaload, 1) := by decide +kernel
theorem dB_value_6 : decode cB_value 6 = .ok (.aload_n 0, 1) := by decide +kernel
theorem dB_value_7 : decode cB_value 7 = .ok (.getfield 21, 3) := by decide +kernel
theorem dB_value_10 : decode cB_value 10 = .ok (.iload_n 2, 1) := by decide +kernel
theorem dB_value_11 : decode cB_value 11 = .ok (.iaload, 1) := by decide +kernel
theorem dB_value_12 : decode cB_value 12 = .ok (.iadd, 1) := by decide +kernel
theorem dB_value_13 : decode cB_value 13 = .ok (.istore_n 3, 1) := by decide +kernel
theorem dB_value_14 : decode cB_value 14 = .ok (.aload_n 0, 1) := by decide +kernel
theorem dB_value_15 : decode cB_value 15 = .ok (.getfield 33, 3) := by decide +kernel
theorem dB_value_18 : decode cB_value 18 = .ok (.iload_n 1, 1) := by decide +kernel
theorem dB_value_19 : decode cB_value 19 = .ok (.iload_n 2, 1) := by decide +kernel
theorem dB_value_20 : decode cB_value 20 = .ok (.ior, 1) := by decide +kernel
theorem dB_value_21 : decode cB_value 21 = .ok (.iconst (-1), 1) := by decide +kernel
theorem dB_value_22 : decode cB_value 22 = .ok (.ixor, 1) := by decide +kernel
theorem dB_value_23 : decode cB_value 23 = .ok (.iand, 1) := by decide +kernel
theorem dB_value_24 : decode cB_value 24 = .ok (.istore 4, 2) := by decide +kernel
theorem dB_value_26 : decode cB_value 26 = .ok (.iconst 0, 1) := by decide +kernel
theorem dB_value_27 : decode cB_value 27 = .ok (.istore 5, 2) := by decide +kernel
theorem dB_value_29 : decode cB_value 29 = .ok (.iload 5, 2) := by decide +kernel
theorem dB_value_31 : decode cB_value 31 = .ok (.bipush 9, 2) := by decide +kernel
theorem dB_value_33 : decode cB_value 33 = .ok (.if_icmp .ge 73, 3) := by decide +kernel
theorem dB_value_36 : decode cB_value 36 = .ok (.iload 4, 2) := by decide +kernel
theorem dB_value_38 : decode cB_value 38 = .ok (.ifCond .eq 68, 3) := by decide +kernel
theorem dB_value_41 : decode cB_value 41 = .ok (.aload_n 0, 1) := by decide +kernel
theorem dB_value_42 : decode cB_value 42 = .ok (.getfield 24, 3) := by decide +kernel
theorem dB_value_45 : decode cB_value 45 = .ok (.iload 4, 2) := by decide +kernel
theorem dB_value_47 : decode cB_value 47 = .ok (.iaload, 1) := by decide +kernel
theorem dB_value_48 : decode cB_value 48 = .ok (.istore 6, 2) := by decide +kernel
theorem dB_value_50 : decode cB_value 50 = .ok (.aload_n 0, 1) := by decide +kernel
theorem dB_value_51 : decode cB_value 51 = .ok (.getfield 21, 3) := by decide +kernel
theorem dB_value_54 : decode cB_value 54 = .ok (.iload 6, 2) := by decide +kernel
theorem dB_value_56 : decode cB_value 56 = .ok (.iload_n 2, 1) := by decide +kernel
theorem dB_value_57 : decode cB_value 57 = .ok (.ior, 1) := by decide +kernel
theorem dB_value_58 : decode cB_value 58 = .ok (.iaload, 1) := by decide +kernel
theorem dB_value_59 : decode cB_value 59 = .ok (.aload_n 0, 1) := by decide +kernel
theorem dB_value_60 : decode cB_value 60 = .ok (.getfield 21, 3) := by decide +kernel
theorem dB_value_63 : decode cB_value 63 = .ok (.iload 6, 2) := by decide +kernel
theorem dB_value_65 : decode cB_value 65 = .ok (.iaload, 1) := by decide +kernel
theorem dB_value_66 : decode cB_value 66 = .ok (.isub, 1) := by decide +kernel
theorem dB_value_67 : decode cB_value 67 = .ok (.aload_n 0, 1) := by decide +kernel
theorem dB_value_68 : decode cB_value 68 = .ok (.getfield 21, 3) := by decide +kernel
theorem dB_value_71 : decode cB_value 71 = .ok (.iload_n 2, 1) := by decide +kernel
theorem dB_value_72 : decode cB_value 72 = .ok (.iaload, 1) := by decide +kernel
theorem dB_value_73 : decode cB_value 73 = .ok (.isub, 1) := by decide +kernel
theorem dB_value_74 : decode cB_value 74 = .ok (.istore 7, 2) := by decide +kernel
theorem dB_value_76 : decode cB_value 76 = .ok (.iload_n 3, 1) := by decide +kernel
theorem dB_value_77 : decode cB_value 77 = .ok (.aload_n 0, 1) := by decide +kernel
theorem dB_value_78 : decode cB_value 78 = .ok (.getfield 18, 3) := by decide +kernel
theorem dB_value_81 : decode cB_value 81 = .ok (.iload 6, 2) := by decide +kernel
theorem dB_value_83 : decode cB_value 83 = .ok (.iaload, 1) := by decide +kernel
theorem dB_value_84 : decode cB_value 84 = .ok (.iload 7, 2) := by decide +kernel
