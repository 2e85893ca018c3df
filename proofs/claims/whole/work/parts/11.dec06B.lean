theorem dB_value_86 : decode cB_value 86 = .ok (.iadd, 1) := by decide +kernel
theorem dB_value_87 : decode cB_value 87 = .ok (.iconst 2, 1) := by decide +kernel
theorem dB_value_88 : decode cB_value 88 = .ok (.idiv, 1) := by decide +kernel
theorem dB_value_89 : decode cB_value 89 = .ok (.iadd, 1) := by decide +kernel
theorem dB_value_90 : decode cB_value 90 = .ok (.istore_n 3, 1) := by decide +kernel
theorem dB_value_91 : decode cB_value 91 = .ok (.iload 4, 2) := by decide +kernel
theorem dB_value_93 : decode cB_value 93 = .ok (.iload 6, 2) := by decide +kernel
theorem dB_value_95 : decode cB_value 95 = .ok (.iconst (-1), 1) := by decide +kernel
theorem dB_value_96 : decode cB_value 96 = .ok (.ixor, 1) := by decide +kernel
theorem dB_value_97 : decode cB_value 97 = .ok (.iand, 1) := by decide +kernel
theorem dB_value_98 : decode cB_value 98 = .ok (.istore 4, 2) := by decide +kernel
theorem dB_value_100 : decode cB_value 100 = .ok (.iinc 5 1, 3) := by decide +kernel
theorem dB_value_103 : decode cB_value 103 = .ok (.goto (-74), 3) := by decide +kernel
theorem dB_value_106 : decode cB_value 106 = .ok (.iload_n 3, 1) := by decide +kernel
theorem dB_value_107 : decode cB_value 107 = .ok (.ireturn, 1) := by decide +kernel
theorem dB_find_0 : decode cB_find 0 = .ok (.iconst 0, 1) := by decide +kernel
theorem dB_find_1 : decode cB_find 1 = .ok (.istore_n 2, 1) := by decide +kernel
theorem dB_find_2 : decode cB_find 2 = .ok (.iload_n 2, 1) := by decide +kernel
theorem dB_find_3 : decode cB_find 3 = .ok (.sipush 512, 3) := by decide +kernel
theorem dB_find_6 : decode cB_find 6 = .ok (.if_icmp .ge 47, 3) := by decide +kernel
theorem dB_find_9 : decode cB_find 9 = .ok (.aload_n 0, 1) := by decide +kernel
theorem dB_find_10 : decode cB_find 10 = .ok (.getfield 9, 3) := by decide +kernel
theorem dB_find_13 : decode cB_find 13 = .ok (.iload_n 2, 1) := by decide +kernel
theorem dB_find_14 : decode cB_find 14 = .ok (.iaload, 1) := by decide +kernel
theorem dB_find_15 : decode cB_find 15 = .ok (.istore_n 3, 1) := by decide +kernel
theorem dB_find_16 : decode cB_find 16 = .ok (.iload_n 3, 1) := by decide +kernel
theorem dB_find_17 : decode cB_find 17 = .ok (.aload_n 0, 1) := by decide +kernel
theorem dB_find_18 : decode cB_find 18 = .ok (.getfield 33, 3) := by decide +kernel
theorem dB_find_21 : decode cB_find 21 = .ok (.iconst (-1), 1) := by decide +kernel
theorem dB_find_22 : decode cB_find 22 = .ok (.ixor, 1) := by decide +kernel
theorem dB_find_23 : decode cB_find 23 = .ok (.iand, 1) := by decide +kernel
theorem dB_find_24 : decode cB_find 24 = .ok (.ifCond .ne 23, 3) := by decide +kernel
theorem dB_find_27 : decode cB_find 27 = .ok (.aload_n 0, 1) := by decide +kernel
theorem dB_find_28 : decode cB_find 28 = .ok (.getfield 18, 3) := by decide +kernel
theorem dB_find_31 : decode cB_find 31 = .ok (.iload_n 3, 1) := by decide +kernel
theorem dB_find_32 : decode cB_find 32 = .ok (.iaload, 1) := by decide +kernel
theorem dB_find_33 : decode cB_find 33 = .ok (.iload_n 1, 1) := by decide +kernel
theorem dB_find_34 : decode cB_find 34 = .ok (.if_icmp .gt 13, 3) := by decide +kernel
theorem dB_find_37 : decode cB_find 37 = .ok (.aload_n 0, 1) := by decide +kernel
theorem dB_find_38 : decode cB_find 38 = .ok (.iload_n 3, 1) := by decide +kernel
theorem dB_find_39 : decode cB_find 39 = .ok (.iload_n 1, 1) := by decide +kernel
theorem dB_find_40 : decode cB_find 40 = .ok (.invokevirtual 56, 3) := by decide +kernel
theorem dB_find_43 : decode cB_find 43 = .ok (.ifCond .eq 4, 3) := by decide +kernel
theorem dB_find_46 : decode cB_find 46 = .ok (.return_, 1) := by decide +kernel
theorem dB_find_47 : decode cB_find 47 = .ok (.iinc 2 1, 3) := by decide +kernel
theorem dB_find_50 : decode cB_find 50 = .ok (.goto (-48), 3) := by decide +kernel
theorem dB_find_53 : decode cB_find 53 = .ok (.return_, 1) := by decide +kernel
theorem dB_findFor_0 : decode cB_findFor 0 = .ok (.aload_n 0, 1) := by decide +kernel
theorem dB_findFor_1 : decode cB_findFor 1 = .ok (.getfield 33, 3) := by decide +kernel
theorem dB_findFor_4 : decode cB_findFor 4 = .ok (.iload_n 1, 1) := by decide +kernel
theorem dB_findFor_5 : decode cB_findFor 5 = .ok (.iconst (-1), 1) := by decide +kernel
theorem dB_findFor_6 : decode cB_findFor 6 = .ok (.ixor, 1) := by decide +kernel
theorem dB_findFor_7 : decode cB_findFor 7 = .ok (.iand, 1) := by decide +kernel
theorem dB_findFor_8 : decode cB_findFor 8 = .ok (.istore_n 3, 1) := by decide +kernel
theorem dB_findFor_9 : decode cB_findFor 9 = .ok (.iconst 0, 1) := by decide +kernel
theorem dB_findFor_10 : decode cB_findFor 10 = .ok (.istore 4, 2) := by decide +kernel
theorem dB_findFor_12 : decode cB_findFor 12 = .ok (.iload 4, 2) := by decide +kernel
theorem dB_findFor_14 : decode cB_findFor 14 = .ok (.sipush 512, 3) := by decide +kernel
theorem dB_findFor_17 : decode cB_findFor 17 = .ok (.if_icmp .ge 51, 3) := by decide +kernel
theorem dB_findFor_20 : decode cB_findFor 20 = .ok (.aload_n 0, 1) := by decide +kernel
theorem dB_findFor_21 : decode cB_findFor 21 = .ok (.getfield 9, 3) := by decide +kernel
theorem dB_findFor_24 : decode cB_findFor 24 = .ok (.iload 4, 2) := by decide +kernel
theorem dB_findFor_26 : decode cB_findFor 26 = .ok (.iaload, 1) := by decide +kernel
theorem dB_findFor_27 : decode cB_findFor 27 = .ok (.istore 5, 2) := by decide +kernel
theorem dB_findFor_29 : decode cB_findFor 29 = .ok (.iload 5, 2) := by decide +kernel
theorem dB_findFor_31 : decode cB_findFor 31 = .ok (.iload_n 3, 1) := by decide +kernel
theorem dB_findFor_32 : decode cB_findFor 32 = .ok (.iconst (-1), 1) := by decide +kernel
theorem dB_findFor_33 : decode cB_findFor 33 = .ok (.ixor, 1) := by decide +kernel
theorem dB_findFor_34 : decode cB_findFor 34 = .ok (.iand, 1) := by decide +kernel
theorem dB_findFor_35 : decode cB_findFor 35 = .ok (.ifCond .ne 27, 3) := by decide +kernel
theorem dB_findFor_38 : decode cB_findFor 38 = .ok (.aload_n 0, 1) := by decide +kernel
theorem dB_findFor_39 : decode cB_findFor 39 = .ok (.iload_n 1, 1) := by decide +kernel
theorem dB_findFor_40 : decode cB_findFor 40 = .ok (.iload 5, 2) := by decide +kernel
theorem dB_findFor_42 : decode cB_findFor 42 = .ok (.invokevirtual 60, 3) := by decide +kernel
theorem dB_findFor_45 : decode cB_findFor 45 = .ok (.iload_n 2, 1) := by decide +kernel
theorem dB_findFor_46 : decode cB_findFor 46 = .ok (.if_icmp .ne 16, 3) := by decide +kernel
theorem dB_findFor_49 : decode cB_findFor 49 = .ok (.aload_n 0, 1) := by decide +kernel
theorem dB_findFor_50 : decode cB_findFor 50 = .ok (.iload_n 1, 1) := by decide +kernel
theorem dB_findFor_51 : decode cB_findFor 51 = .ok (.putfield 63, 3) := by decide +kernel
theorem dB_findFor_54 : decode cB_findFor 54 = .ok (.aload_n 0, 1) := by decide +kernel
theorem dB_findFor_55 : decode cB_findFor 55 = .ok (.iload 5, 2) := by decide +kernel
theorem dB_findFor_57 : decode cB_findFor 57 = .ok (.putfield 66, 3) := by decide +kernel
theorem dB_findFor_60 : decode cB_findFor 60 = .ok (.iconst 1, 1) := by decide +kernel
theorem dB_findFor_61 : decode cB_findFor 61 = .ok (.ireturn, 1) := by decide +kernel
theorem dB_findFor_62 : decode cB_findFor 62 = .ok (.iinc 4 1, 3) := by decide +kernel
theorem dB_findFor_65 : decode cB_findFor 65 = .ok (.goto (-53), 3) := by decide +kernel
theorem dB_findFor_68 : decode cB_findFor 68 = .ok (.iconst 0, 1) := by decide +kernel
theorem dB_findFor_69 : decode cB_findFor 69 = .ok (.ireturn, 1) := by decide +kernel
