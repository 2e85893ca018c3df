theorem dM_partition_158 : decode cM_partition 158 = .ok (.goto (-119), 3) := by decide +kernel
theorem dM_partition_161 : decode cM_partition 161 = .ok (.iconst 0, 1) := by decide +kernel
theorem dM_partition_162 : decode cM_partition 162 = .ok (.istore_n 3, 1) := by decide +kernel
theorem dM_partition_163 : decode cM_partition 163 = .ok (.iconst 0, 1) := by decide +kernel
theorem dM_partition_164 : decode cM_partition 164 = .ok (.istore 4, 2) := by decide +kernel
theorem dM_partition_166 : decode cM_partition 166 = .ok (.iload 4, 2) := by decide +kernel
theorem dM_partition_168 : decode cM_partition 168 = .ok (.aload_n 0, 1) := by decide +kernel
theorem dM_partition_169 : decode cM_partition 169 = .ok (.getfield 7, 3) := by decide +kernel
theorem dM_partition_172 : decode cM_partition 172 = .ok (.if_icmp .ge 29, 3) := by decide +kernel
theorem dM_partition_175 : decode cM_partition 175 = .ok (.aload_n 0, 1) := by decide +kernel
theorem dM_partition_176 : decode cM_partition 176 = .ok (.getfield 23, 3) := by decide +kernel
theorem dM_partition_179 : decode cM_partition 179 = .ok (.iload 4, 2) := by decide +kernel
theorem dM_partition_181 : decode cM_partition 181 = .ok (.iaload, 1) := by decide +kernel
theorem dM_partition_182 : decode cM_partition 182 = .ok (.iload 4, 2) := by decide +kernel
theorem dM_partition_184 : decode cM_partition 184 = .ok (.if_icmp .ne 9, 3) := by decide +kernel
theorem dM_partition_187 : decode cM_partition 187 = .ok (.iload_n 3, 1) := by decide +kernel
theorem dM_partition_188 : decode cM_partition 188 = .ok (.iconst 1, 1) := by decide +kernel
theorem dM_partition_189 : decode cM_partition 189 = .ok (.iadd, 1) := by decide +kernel
theorem dM_partition_190 : decode cM_partition 190 = .ok (.goto 4, 3) := by decide +kernel
theorem dM_partition_193 : decode cM_partition 193 = .ok (.iload_n 3, 1) := by decide +kernel
theorem dM_partition_194 : decode cM_partition 194 = .ok (.istore_n 3, 1) := by decide +kernel
theorem dM_partition_195 : decode cM_partition 195 = .ok (.iinc 4 1, 3) := by decide +kernel
theorem dM_partition_198 : decode cM_partition 198 = .ok (.goto (-32), 3) := by decide +kernel
theorem dM_partition_201 : decode cM_partition 201 = .ok (.iload_n 3, 1) := by decide +kernel
theorem dM_partition_202 : decode cM_partition 202 = .ok (.ireturn, 1) := by decide +kernel
theorem dM_half_0 : decode cM_half 0 = .ok (.iconst 0, 1) := by decide +kernel
theorem dM_half_1 : decode cM_half 1 = .ok (.istore_n 3, 1) := by decide +kernel
theorem dM_half_2 : decode cM_half 2 = .ok (.iconst 0, 1) := by decide +kernel
theorem dM_half_3 : decode cM_half 3 = .ok (.istore 4, 2) := by decide +kernel
theorem dM_half_5 : decode cM_half 5 = .ok (.iload 4, 2) := by decide +kernel
theorem dM_half_7 : decode cM_half 7 = .ok (.aload_n 0, 1) := by decide +kernel
theorem dM_half_8 : decode cM_half 8 = .ok (.getfield 7, 3) := by decide +kernel
theorem dM_half_11 : decode cM_half 11 = .ok (.if_icmp .ge 34, 3) := by decide +kernel
theorem dM_half_14 : decode cM_half 14 = .ok (.iload_n 3, 1) := by decide +kernel
theorem dM_half_15 : decode cM_half 15 = .ok (.aload_n 0, 1) := by decide +kernel
theorem dM_half_16 : decode cM_half 16 = .ok (.getfield 23, 3) := by decide +kernel
theorem dM_half_19 : decode cM_half 19 = .ok (.iload 4, 2) := by decide +kernel
theorem dM_half_21 : decode cM_half 21 = .ok (.iaload, 1) := by decide +kernel
theorem dM_half_22 : decode cM_half 22 = .ok (.iload_n 1, 1) := by decide +kernel
theorem dM_half_23 : decode cM_half 23 = .ok (.if_icmp .ne 13, 3) := by decide +kernel
theorem dM_half_26 : decode cM_half 26 = .ok (.aload_n 0, 1) := by decide +kernel
theorem dM_half_27 : decode cM_half 27 = .ok (.getfield 20, 3) := by decide +kernel
theorem dM_half_30 : decode cM_half 30 = .ok (.iload 4, 2) := by decide +kernel
theorem dM_half_32 : decode cM_half 32 = .ok (.iaload, 1) := by decide +kernel
theorem dM_half_33 : decode cM_half 33 = .ok (.goto 4, 3) := by decide +kernel
theorem dM_half_36 : decode cM_half 36 = .ok (.iconst 0, 1) := by decide +kernel
theorem dM_half_37 : decode cM_half 37 = .ok (.iadd, 1) := by decide +kernel
theorem dM_half_38 : decode cM_half 38 = .ok (.istore_n 3, 1) := by decide +kernel
theorem dM_half_39 : decode cM_half 39 = .ok (.iinc 4 1, 3) := by decide +kernel
theorem dM_half_42 : decode cM_half 42 = .ok (.goto (-37), 3) := by decide +kernel
theorem dM_half_45 : decode cM_half 45 = .ok (.iconst 0, 1) := by decide +kernel
theorem dM_half_46 : decode cM_half 46 = .ok (.istore 4, 2) := by decide +kernel
theorem dM_half_48 : decode cM_half 48 = .ok (.iload 4, 2) := by decide +kernel
theorem dM_half_50 : decode cM_half 50 = .ok (.aload_n 0, 1) := by decide +kernel
theorem dM_half_51 : decode cM_half 51 = .ok (.getfield 26, 3) := by decide +kernel
theorem dM_half_54 : decode cM_half 54 = .ok (.if_icmp .ge 89, 3) := by decide +kernel
theorem dM_half_57 : decode cM_half 57 = .ok (.aload_n 0, 1) := by decide +kernel
theorem dM_half_58 : decode cM_half 58 = .ok (.getfield 23, 3) := by decide +kernel
theorem dM_half_61 : decode cM_half 61 = .ok (.aload_n 0, 1) := by decide +kernel
theorem dM_half_62 : decode cM_half 62 = .ok (.getfield 13, 3) := by decide +kernel
theorem dM_half_65 : decode cM_half 65 = .ok (.iload 4, 2) := by decide +kernel
theorem dM_half_67 : decode cM_half 67 = .ok (.iaload, 1) := by decide +kernel
theorem dM_half_68 : decode cM_half 68 = .ok (.iaload, 1) := by decide +kernel
theorem dM_half_69 : decode cM_half 69 = .ok (.iload_n 1, 1) := by decide +kernel
theorem dM_half_70 : decode cM_half 70 = .ok (.if_icmp .ne 17, 3) := by decide +kernel
theorem dM_half_73 : decode cM_half 73 = .ok (.iload_n 2, 1) := by decide +kernel
theorem dM_half_74 : decode cM_half 74 = .ok (.aload_n 0, 1) := by decide +kernel
theorem dM_half_75 : decode cM_half 75 = .ok (.getfield 17, 3) := by decide +kernel
theorem dM_half_78 : decode cM_half 78 = .ok (.iload 4, 2) := by decide +kernel
theorem dM_half_80 : decode cM_half 80 = .ok (.iaload, 1) := by decide +kernel
theorem dM_half_81 : decode cM_half 81 = .ok (.invokestatic 36, 3) := by decide +kernel
theorem dM_half_84 : decode cM_half 84 = .ok (.ifCond .ne 33, 3) := by decide +kernel
theorem dM_half_87 : decode cM_half 87 = .ok (.aload_n 0, 1) := by decide +kernel
theorem dM_half_88 : decode cM_half 88 = .ok (.getfield 23, 3) := by decide +kernel
theorem dM_half_91 : decode cM_half 91 = .ok (.aload_n 0, 1) := by decide +kernel
theorem dM_half_92 : decode cM_half 92 = .ok (.getfield 17, 3) := by decide +kernel
theorem dM_half_95 : decode cM_half 95 = .ok (.iload 4, 2) := by decide +kernel
theorem dM_half_97 : decode cM_half 97 = .ok (.iaload, 1) := by decide +kernel
theorem dM_half_98 : decode cM_half 98 = .ok (.iaload, 1) := by decide +kernel
theorem dM_half_99 : decode cM_half 99 = .ok (.iload_n 1, 1) := by decide +kernel
theorem dM_half_100 : decode cM_half 100 = .ok (.if_icmp .ne 21, 3) := by decide +kernel
theorem dM_half_103 : decode cM_half 103 = .ok (.iload_n 2, 1) := by decide +kernel
theorem dM_half_104 : decode cM_half 104 = .ok (.aload_n 0, 1) := by decide +kernel
theorem dM_half_105 : decode cM_half 105 = .ok (.getfield 13, 3) := by decide +kernel
theorem dM_half_108 : decode cM_half 108 = .ok (.iload 4, 2) := by decide +kernel
theorem dM_half_110 : decode cM_half 110 = .ok (.iaload, 1) := by decide +kernel
theorem dM_half_111 : decode cM_half 111 = .ok (.invokestatic 36, 3) := by decide +kernel
theorem dM_half_114 : decode cM_half 114 = .ok (.ifCond .eq 7, 3) := by decide +kernel
theorem dM_half_117 : decode cM_half 117 = .ok (.iconst 1, 1) := by decide +kernel
theorem dM_half_118 : decode cM_half 118 = .ok (.goto 4, 3) := by decide +kernel
theorem dM_half_121 : decode cM_half 121 = .ok (.iconst 0, 1) := by decide +kernel
theorem dM_half_122 : decode cM_half 122 = .ok (.istore 5, 2) := by decide +kernel
theorem dM_half_124 : decode cM_half 124 = .ok (.iload_n 3, 1) := by decide +kernel
theorem dM_half_125 : decode cM_half 125 = .ok (.iload 5, 2) := by decide +kernel
theorem dM_half_127 : decode cM_half 127 = .ok (.ifCond .eq 7, 3) := by decide +kernel
theorem dM_half_130 : decode cM_half 130 = .ok (.iconst 1, 1) := by decide +kernel
theorem dM_half_131 : decode cM_half 131 = .ok (.goto 4, 3) := by decide +kernel
theorem dM_half_134 : decode cM_half 134 = .ok (.iconst 0, 1) := by decide +kernel
theorem dM_half_135 : decode cM_half 135 = .ok (.iadd, 1) := by decide +kernel
theorem dM_half_136 : decode cM_half 136 = .ok (.istore_n 3, 1) := by decide +kernel
theorem dM_half_137 : decode cM_half 137 = .ok (.iinc 4 1, 3) := by decide +kernel
theorem dM_half_140 : decode cM_half 140 = .ok (.goto (-92), 3) := by decide +kernel
theorem dM_half_143 : decode cM_half 143 = .ok (.iload_n 3, 1) := by decide +kernel
theorem dM_half_144 : decode cM_half 144 = .ok (.iconst 2, 1) := by decide +kernel
theorem dM_half_145 : decode cM_half 145 = .ok (.idiv, 1) := by decide +kernel
theorem dM_half_146 : decode cM_half 146 = .ok (.ireturn, 1) := by decide +kernel
theorem dM_areSets_0 : decode cM_areSets 0 = .ok (.iconst 1, 1) := by decide +kernel
theorem dM_areSets_1 : decode cM_areSets 1 = .ok (.aload_n 0, 1) := by decide +kernel
theorem dM_areSets_2 : decode cM_areSets 2 = .ok (.getfield 7, 3) := by decide +kernel
theorem dM_areSets_5 : decode cM_areSets 5 = .ok (.ishl, 1) := by decide +kernel
theorem dM_areSets_6 : decode cM_areSets 6 = .ok (.iconst 1, 1) := by decide +kernel
theorem dM_areSets_7 : decode cM_areSets 7 = .ok (.isub, 1) := by decide +kernel
theorem dM_areSets_8 : decode cM_areSets 8 = .ok (.istore_n 3, 1) := by decide +kernel
theorem dM_areSets_9 : decode cM_areSets 9 = .ok (.iload_n 1, 1) := by decide +kernel
theorem dM_areSets_10 : decode cM_areSets 10 = .ok (.ifCond .lt 27, 3) := by decide +kernel
theorem dM_areSets_13 : decode cM_areSets 13 = .ok (.iload_n 2, 1) := by decide +kernel
theorem dM_areSets_14 : decode cM_areSets 14 = .ok (.ifCond .lt 23, 3) := by decide +kernel
theorem dM_areSets_17 : decode cM_areSets 17 = .ok (.iload_n 1, 1) := by decide +kernel
theorem dM_areSets_18 : decode cM_areSets 18 = .ok (.iload_n 3, 1) := by decide +kernel
theorem dM_areSets_19 : decode cM_areSets 19 = .ok (.if_icmp .gt 18, 3) := by decide +kernel
theorem dM_areSets_22 : decode cM_areSets 22 = .ok (.iload_n 2, 1) := by decide +kernel
theorem dM_areSets_23 : decode cM_areSets 23 = .ok (.iload_n 3, 1) := by decide +kernel
theorem dM_areSets_24 : decode cM_areSets 24 = .ok (.if_icmp .gt 13, 3) := by decide +kernel
theorem dM_areSets_27 : decode cM_areSets 27 = .ok (.iload_n 1, 1) := by decide +kernel
theorem dM_areSets_28 : decode cM_areSets 28 = .ok (.iload_n 2, 1) := by decide +kernel
theorem dM_areSets_29 : decode cM_areSets 29 = .ok (.iand, 1) := by decide +kernel
theorem dM_areSets_30 : decode cM_areSets 30 = .ok (.ifCond .ne 7, 3) := by decide +kernel
theorem dM_areSets_33 : decode cM_areSets 33 = .ok (.iconst 1, 1) := by decide +kernel
theorem dM_areSets_34 : decode cM_areSets 34 = .ok (.goto 4, 3) := by decide +kernel
theorem dM_areSets_37 : decode cM_areSets 37 = .ok (.iconst 0, 1) := by decide +kernel
theorem dM_areSets_38 : decode cM_areSets 38 = .ok (.ireturn, 1) := by decide +kernel
theorem dM_bound_0 : decode cM_bound 0 = .ok (.aload_n 0, 1) := by decide +kernel
theorem dM_bound_1 : decode cM_bound 1 = .ok (.iload_n 1, 1) := by decide +kernel
theorem dM_bound_2 : decode cM_bound 2 = .ok (.iload_n 2, 1) := by decide +kernel
theorem dM_bound_3 : decode cM_bound 3 = .ok (.invokevirtual 70, 3) := by decide +kernel
theorem dM_bound_6 : decode cM_bound 6 = .ok (.ifCond .ne 5, 3) := by decide +kernel
theorem dM_bound_9 : decode cM_bound 9 = .ok (.iconst (-1), 1) := by decide +kernel
theorem dM_bound_10 : decode cM_bound 10 = .ok (.ireturn, 1) := by decide +kernel
theorem dM_bound_11 : decode cM_bound 11 = .ok (.iconst 0, 1) := by decide +kernel
theorem dM_bound_12 : decode cM_bound 12 = .ok (.istore_n 3, 1) := by decide +kernel
theorem dM_bound_13 : decode cM_bound 13 = .ok (.iconst 0, 1) := by decide +kernel
theorem dM_bound_14 : decode cM_bound 14 = .ok (.istore 4, 2) := by decide +kernel
theorem dM_bound_16 : decode cM_bound 16 = .ok (.iload 4, 2) := by decide +kernel
theorem dM_bound_18 : decode cM_bound 18 = .ok (.aload_n 0, 1) := by decide +kernel
theorem dM_bound_19 : decode cM_bound 19 = .ok (.getfield 7, 3) := by decide +kernel
theorem dM_bound_22 : decode cM_bound 22 = .ok (.if_icmp .ge 32, 3) := by decide +kernel
theorem dM_bound_25 : decode cM_bound 25 = .ok (.iload_n 3, 1) := by decide +kernel
theorem dM_bound_26 : decode cM_bound 26 = .ok (.iload_n 1, 1) := by decide +kernel
theorem dM_bound_27 : decode cM_bound 27 = .ok (.iload 4, 2) := by decide +kernel
theorem dM_bound_29 : decode cM_bound 29 = .ok (.invokestatic 36, 3) := by decide +kernel
theorem dM_bound_32 : decode cM_bound 32 = .ok (.ifCond .eq 13, 3) := by decide +kernel
theorem dM_bound_35 : decode cM_bound 35 = .ok (.aload_n 0, 1) := by decide +kernel
theorem dM_bound_36 : decode cM_bound 36 = .ok (.getfield 20, 3) := by decide +kernel
theorem dM_bound_39 : decode cM_bound 39 = .ok (.iload 4, 2) := by decide +kernel
theorem dM_bound_41 : decode cM_bound 41 = .ok (.iaload, 1) := by decide +kernel
theorem dM_bound_42 : decode cM_bound 42 = .ok (.goto 4, 3) := by decide +kernel
theorem dM_bound_45 : decode cM_bound 45 = .ok (.iconst 0, 1) := by decide +kernel
theorem dM_bound_46 : decode cM_bound 46 = .ok (.iadd, 1) := by decide +kernel
theorem dM_bound_47 : decode cM_bound 47 = .ok (.istore_n 3, 1) := by decide +kernel
theorem dM_bound_48 : decode cM_bound 48 = .ok (.iinc 4 1, 3) := by decide +kernel
theorem dM_bound_51 : decode cM_bound 51 = .ok (.goto (-35), 3) := by decide +kernel
theorem dM_bound_54 : decode cM_bound 54 = .ok (.iconst 0, 1) := by decide +kernel
theorem dM_bound_55 : decode cM_bound 55 = .ok (.istore 4, 2) := by decide +kernel
theorem dM_bound_57 : decode cM_bound 57 = .ok (.iload 4, 2) := by decide +kernel
theorem dM_bound_59 : decode cM_bound 59 = .ok (.aload_n 0, 1) := by decide +kernel
theorem dM_bound_60 : decode cM_bound 60 = .ok (.getfield 26, 3) := by decide +kernel
theorem dM_bound_63 : decode cM_bound 63 = .ok (.if_icmp .ge 45, 3) := by decide +kernel
theorem dM_bound_66 : decode cM_bound 66 = .ok (.iload_n 3, 1) := by decide +kernel
theorem dM_bound_67 : decode cM_bound 67 = .ok (.iload_n 2, 1) := by decide +kernel
theorem dM_bound_68 : decode cM_bound 68 = .ok (.aload_n 0, 1) := by decide +kernel
theorem dM_bound_69 : decode cM_bound 69 = .ok (.getfield 13, 3) := by decide +kernel
theorem dM_bound_72 : decode cM_bound 72 = .ok (.iload 4, 2) := by decide +kernel
theorem dM_bound_74 : decode cM_bound 74 = .ok (.iaload, 1) := by decide +kernel
theorem dM_bound_75 : decode cM_bound 75 = .ok (.invokestatic 36, 3) := by decide +kernel
theorem dM_bound_78 : decode cM_bound 78 = .ok (.ifCond .eq 21, 3) := by decide +kernel
theorem dM_bound_81 : decode cM_bound 81 = .ok (.iload_n 2, 1) := by decide +kernel
theorem dM_bound_82 : decode cM_bound 82 = .ok (.aload_n 0, 1) := by decide +kernel
theorem dM_bound_83 : decode cM_bound 83 = .ok (.getfield 17, 3) := by decide +kernel
theorem dM_bound_86 : decode cM_bound 86 = .ok (.iload 4, 2) := by decide +kernel
theorem dM_bound_88 : decode cM_bound 88 = .ok (.iaload, 1) := by decide +kernel
theorem dM_bound_89 : decode cM_bound 89 = .ok (.invokestatic 36, 3) := by decide +kernel
theorem dM_bound_92 : decode cM_bound 92 = .ok (.ifCond .eq 7, 3) := by decide +kernel
theorem dM_bound_95 : decode cM_bound 95 = .ok (.iconst 1, 1) := by decide +kernel
theorem dM_bound_96 : decode cM_bound 96 = .ok (.goto 4, 3) := by decide +kernel
theorem dM_bound_99 : decode cM_bound 99 = .ok (.iconst 0, 1) := by decide +kernel
theorem dM_bound_100 : decode cM_bound 100 = .ok (.iadd, 1) := by decide +kernel
theorem dM_bound_101 : decode cM_bound 101 = .ok (.istore_n 3, 1) := by decide +kernel
theorem dM_bound_102 : decode cM_bound 102 = .ok (.iinc 4 1, 3) := by decide +kernel
theorem dM_bound_105 : decode cM_bound 105 = .ok (.goto (-48), 3) := by decide +kernel
theorem dM_bound_108 : decode cM_bound 108 = .ok (.aload_n 0, 1) := by decide +kernel
theorem dM_bound_109 : decode cM_bound 109 = .ok (.iload_n 1, 1) := by decide +kernel
theorem dM_bound_110 : decode cM_bound 110 = .ok (.iload_n 2, 1) := by decide +kernel
theorem dM_bound_111 : decode cM_bound 111 = .ok (.invokevirtual 73, 3) := by decide +kernel
theorem dM_bound_114 : decode cM_bound 114 = .ok (.ifCond .le 47, 3) := by decide +kernel
theorem dM_bound_117 : decode cM_bound 117 = .ok (.iconst 0, 1) := by decide +kernel
theorem dM_bound_118 : decode cM_bound 118 = .ok (.istore 4, 2) := by decide +kernel
theorem dM_bound_120 : decode cM_bound 120 = .ok (.iload 4, 2) := by decide +kernel
theorem dM_bound_122 : decode cM_bound 122 = .ok (.aload_n 0, 1) := by decide +kernel
theorem dM_bound_123 : decode cM_bound 123 = .ok (.getfield 7, 3) := by decide +kernel
theorem dM_bound_126 : decode cM_bound 126 = .ok (.if_icmp .ge 35, 3) := by decide +kernel
theorem dM_bound_129 : decode cM_bound 129 = .ok (.iload_n 3, 1) := by decide +kernel
theorem dM_bound_130 : decode cM_bound 130 = .ok (.aload_n 0, 1) := by decide +kernel
theorem dM_bound_131 : decode cM_bound 131 = .ok (.getfield 23, 3) := by decide +kernel
theorem dM_bound_134 : decode cM_bound 134 = .ok (.iload 4, 2) := by decide +kernel
theorem dM_bound_136 : decode cM_bound 136 = .ok (.iaload, 1) := by decide +kernel
theorem dM_bound_137 : decode cM_bound 137 = .ok (.iload 4, 2) := by decide +kernel
theorem dM_bound_139 : decode cM_bound 139 = .ok (.if_icmp .ne 13, 3) := by decide +kernel
theorem dM_bound_142 : decode cM_bound 142 = .ok (.aload_n 0, 1) := by decide +kernel
theorem dM_bound_143 : decode cM_bound 143 = .ok (.iload 4, 2) := by decide +kernel
theorem dM_bound_145 : decode cM_bound 145 = .ok (.iload_n 2, 1) := by decide +kernel
theorem dM_bound_146 : decode cM_bound 146 = .ok (.invokevirtual 76, 3) := by decide +kernel
theorem dM_bound_149 : decode cM_bound 149 = .ok (.goto 4, 3) := by decide +kernel
theorem dM_bound_152 : decode cM_bound 152 = .ok (.iconst 0, 1) := by decide +kernel
theorem dM_bound_153 : decode cM_bound 153 = .ok (.iadd, 1) := by decide +kernel
theorem dM_bound_154 : decode cM_bound 154 = .ok (.istore_n 3, 1) := by decide +kernel
theorem dM_bound_155 : decode cM_bound 155 = .ok (.iinc 4 1, 3) := by decide +kernel
theorem dM_bound_158 : decode cM_bound 158 = .ok (.goto (-38), 3) := by decide +kernel
theorem dM_bound_161 : decode cM_bound 161 = .ok (.iload_n 3, 1) := by decide +kernel
theorem dM_bound_162 : decode cM_bound 162 = .ok (.ireturn, 1) := by decide +kernel
theorem dM_witness_0 : decode cM_witness 0 = .ok (.iload_n 1, 1) := by decide +kernel
theorem dM_witness_1 : decode cM_witness 1 = .ok (.ifCond .lt 8, 3) := by decide +kernel
theorem dM_witness_4 : decode cM_witness 4 = .ok (.iload_n 1, 1) := by decide +kernel
theorem dM_witness_5 : decode cM_witness 5 = .ok (.iconst 1, 1) := by decide +kernel
theorem dM_witness_6 : decode cM_witness 6 = .ok (.if_icmp .le 5, 3) := by decide +kernel
theorem dM_witness_9 : decode cM_witness 9 = .ok (.iconst (-1), 1) := by decide +kernel
theorem dM_witness_10 : decode cM_witness 10 = .ok (.ireturn, 1) := by decide +kernel
theorem dM_witness_11 : decode cM_witness 11 = .ok (.aload_n 0, 1) := by decide +kernel
theorem dM_witness_12 : decode cM_witness 12 = .ok (.invokevirtual 64, 3) := by decide +kernel
theorem dM_witness_15 : decode cM_witness 15 = .ok (.istore_n 2, 1) := by decide +kernel
theorem dM_witness_16 : decode cM_witness 16 = .ok (.iconst (-1), 1) := by decide +kernel
theorem dM_witness_17 : decode cM_witness 17 = .ok (.istore_n 3, 1) := by decide +kernel
theorem dM_witness_18 : decode cM_witness 18 = .ok (.iconst (-1), 1) := by decide +kernel
theorem dM_witness_19 : decode cM_witness 19 = .ok (.istore 4, 2) := by decide +kernel
theorem dM_witness_21 : decode cM_witness 21 = .ok (.iconst 1, 1) := by decide +kernel
theorem dM_witness_22 : decode cM_witness 22 = .ok (.aload_n 0, 1) := by decide +kernel
theorem dM_witness_23 : decode cM_witness 23 = .ok (.getfield 7, 3) := by decide +kernel
theorem dM_witness_26 : decode cM_witness 26 = .ok (.ishl, 1) := by decide +kernel
theorem dM_witness_27 : decode cM_witness 27 = .ok (.iconst 1, 1) := by decide +kernel
theorem dM_witness_28 : decode cM_witness 28 = .ok (.isub, 1) := by decide +kernel
theorem dM_witness_29 : decode cM_witness 29 = .ok (.istore 5, 2) := by decide +kernel
theorem dM_witness_31 : decode cM_witness 31 = .ok (.iconst 0, 1) := by decide +kernel
theorem dM_witness_32 : decode cM_witness 32 = .ok (.istore 6, 2) := by decide +kernel
theorem dM_witness_34 : decode cM_witness 34 = .ok (.iload 6, 2) := by decide +kernel
theorem dM_witness_36 : decode cM_witness 36 = .ok (.iload 5, 2) := by decide +kernel
theorem dM_witness_38 : decode cM_witness 38 = .ok (.if_icmp .gt 96, 3) := by decide +kernel
theorem dM_witness_41 : decode cM_witness 41 = .ok (.iconst 0, 1) := by decide +kernel
theorem dM_witness_42 : decode cM_witness 42 = .ok (.istore 7, 2) := by decide +kernel
theorem dM_witness_44 : decode cM_witness 44 = .ok (.iload 7, 2) := by decide +kernel
theorem dM_witness_46 : decode cM_witness 46 = .ok (.iload 5, 2) := by decide +kernel
theorem dM_witness_48 : decode cM_witness 48 = .ok (.if_icmp .gt 80, 3) := by decide +kernel
theorem dM_witness_51 : decode cM_witness 51 = .ok (.iload 6, 2) := by decide +kernel
theorem dM_witness_53 : decode cM_witness 53 = .ok (.iload 7, 2) := by decide +kernel
theorem dM_witness_55 : decode cM_witness 55 = .ok (.iand, 1) := by decide +kernel
theorem dM_witness_56 : decode cM_witness 56 = .ok (.ifCond .eq 6, 3) := by decide +kernel
theorem dM_witness_59 : decode cM_witness 59 = .ok (.goto 63, 3) := by decide +kernel
theorem dM_witness_62 : decode cM_witness 62 = .ok (.iload_n 3, 1) := by decide +kernel
theorem dM_witness_63 : decode cM_witness 63 = .ok (.ifCond .lt 28, 3) := by decide +kernel
theorem dM_witness_66 : decode cM_witness 66 = .ok (.iload 6, 2) := by decide +kernel
theorem dM_witness_68 : decode cM_witness 68 = .ok (.iload_n 3, 1) := by decide +kernel
theorem dM_witness_69 : decode cM_witness 69 = .ok (.invokestatic 58, 3) := by decide +kernel
theorem dM_witness_72 : decode cM_witness 72 = .ok (.ifCond .ne 19, 3) := by decide +kernel
theorem dM_witness_75 : decode cM_witness 75 = .ok (.iload 6, 2) := by decide +kernel
theorem dM_witness_77 : decode cM_witness 77 = .ok (.iload_n 3, 1) := by decide +kernel
theorem dM_witness_78 : decode cM_witness 78 = .ok (.if_icmp .ne 17, 3) := by decide +kernel
theorem dM_witness_81 : decode cM_witness 81 = .ok (.iload 7, 2) := by decide +kernel
theorem dM_witness_83 : decode cM_witness 83 = .ok (.iload 4, 2) := by decide +kernel
theorem dM_witness_85 : decode cM_witness 85 = .ok (.invokestatic 58, 3) := by decide +kernel
theorem dM_witness_88 : decode cM_witness 88 = .ok (.ifCond .eq 7, 3) := by decide +kernel
theorem dM_witness_91 : decode cM_witness 91 = .ok (.iconst 1, 1) := by decide +kernel
theorem dM_witness_92 : decode cM_witness 92 = .ok (.goto 4, 3) := by decide +kernel
theorem dM_witness_95 : decode cM_witness 95 = .ok (.iconst 0, 1) := by decide +kernel
theorem dM_witness_96 : decode cM_witness 96 = .ok (.istore 8, 2) := by decide +kernel
theorem dM_witness_98 : decode cM_witness 98 = .ok (.iload 8, 2) := by decide +kernel
theorem dM_witness_100 : decode cM_witness 100 = .ok (.ifCond .eq 22, 3) := by decide +kernel
theorem dM_witness_103 : decode cM_witness 103 = .ok (.aload_n 0, 1) := by decide +kernel
theorem dM_witness_104 : decode cM_witness 104 = .ok (.iload 6, 2) := by decide +kernel
theorem dM_witness_106 : decode cM_witness 106 = .ok (.iload 7, 2) := by decide +kernel
theorem dM_witness_108 : decode cM_witness 108 = .ok (.invokevirtual 79, 3) := by decide +kernel
theorem dM_witness_111 : decode cM_witness 111 = .ok (.iload_n 2, 1) := by decide +kernel
theorem dM_witness_112 : decode cM_witness 112 = .ok (.if_icmp .ne 10, 3) := by decide +kernel
theorem dM_witness_115 : decode cM_witness 115 = .ok (.iload 6, 2) := by decide +kernel
theorem dM_witness_117 : decode cM_witness 117 = .ok (.istore_n 3, 1) := by decide +kernel
theorem dM_witness_118 : decode cM_witness 118 = .ok (.iload 7, 2) := by decide +kernel
theorem dM_witness_120 : decode cM_witness 120 = .ok (.istore 4, 2) := by decide +kernel
theorem dM_witness_122 : decode cM_witness 122 = .ok (.iinc 7 1, 3) := by decide +kernel
theorem dM_witness_125 : decode cM_witness 125 = .ok (.goto (-81), 3) := by decide +kernel
theorem dM_witness_128 : decode cM_witness 128 = .ok (.iinc 6 1, 3) := by decide +kernel
theorem dM_witness_131 : decode cM_witness 131 = .ok (.goto (-97), 3) := by decide +kernel
theorem dM_witness_134 : decode cM_witness 134 = .ok (.iload_n 1, 1) := by decide +kernel
theorem dM_witness_135 : decode cM_witness 135 = .ok (.ifCond .ne 7, 3) := by decide +kernel
theorem dM_witness_138 : decode cM_witness 138 = .ok (.iload_n 3, 1) := by decide +kernel
theorem dM_witness_139 : decode cM_witness 139 = .ok (.goto 5, 3) := by decide +kernel
theorem dM_witness_142 : decode cM_witness 142 = .ok (.iload 4, 2) := by decide +kernel
theorem dM_witness_144 : decode cM_witness 144 = .ok (.ireturn, 1) := by decide +kernel
