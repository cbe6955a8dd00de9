theorem d_M_times_0 : decode b_M_times 0 = .ok (.bipush 26, 2) := by decide +kernel
theorem d_M_times_2 : decode b_M_times 2 = .ok (.iconst 1, 1) := by decide +kernel
theorem d_M_times_3 : decode b_M_times 3 = .ok (.iload_n 1, 1) := by decide +kernel
theorem d_M_times_4 : decode b_M_times 4 = .ok (.isub, 1) := by decide +kernel
theorem d_M_times_5 : decode b_M_times 5 = .ok (.imul, 1) := by decide +kernel
theorem d_M_times_6 : decode b_M_times 6 = .ok (.istore_n 2, 1) := by decide +kernel
theorem d_M_times_7 : decode b_M_times 7 = .ok (.aload_n 0, 1) := by decide +kernel
theorem d_M_times_8 : decode b_M_times 8 = .ok (.getfield 13, 3) := by decide +kernel
theorem d_M_times_11 : decode b_M_times 11 = .ok (.iload_n 2, 1) := by decide +kernel
theorem d_M_times_12 : decode b_M_times 12 = .ok (.iaload, 1) := by decide +kernel
theorem d_M_times_13 : decode b_M_times 13 = .ok (.ifCond .le 5, 3) := by decide +kernel
theorem d_M_times_16 : decode b_M_times 16 = .ok (.iconst 1, 1) := by decide +kernel
theorem d_M_times_17 : decode b_M_times 17 = .ok (.ireturn, 1) := by decide +kernel
theorem d_M_times_18 : decode b_M_times 18 = .ok (.bipush 19, 2) := by decide +kernel
theorem d_M_times_20 : decode b_M_times 20 = .ok (.istore_n 3, 1) := by decide +kernel
theorem d_M_times_21 : decode b_M_times 21 = .ok (.iload_n 3, 1) := by decide +kernel
theorem d_M_times_22 : decode b_M_times 22 = .ok (.bipush 26, 2) := by decide +kernel
theorem d_M_times_24 : decode b_M_times 24 = .ok (.if_icmp .ge 22, 3) := by decide +kernel
theorem d_M_times_27 : decode b_M_times 27 = .ok (.aload_n 0, 1) := by decide +kernel
theorem d_M_times_28 : decode b_M_times 28 = .ok (.getfield 13, 3) := by decide +kernel
theorem d_M_times_31 : decode b_M_times 31 = .ok (.iload_n 2, 1) := by decide +kernel
theorem d_M_times_32 : decode b_M_times 32 = .ok (.iload_n 3, 1) := by decide +kernel
theorem d_M_times_33 : decode b_M_times 33 = .ok (.iadd, 1) := by decide +kernel
theorem d_M_times_34 : decode b_M_times 34 = .ok (.iaload, 1) := by decide +kernel
theorem d_M_times_35 : decode b_M_times 35 = .ok (.ifCond .le 5, 3) := by decide +kernel
theorem d_M_times_38 : decode b_M_times 38 = .ok (.iconst 3, 1) := by decide +kernel
theorem d_M_times_39 : decode b_M_times 39 = .ok (.ireturn, 1) := by decide +kernel
theorem d_M_times_40 : decode b_M_times 40 = .ok (.iinc 3 1, 3) := by decide +kernel
theorem d_M_times_43 : decode b_M_times 43 = .ok (.goto (-22), 3) := by decide +kernel
theorem d_M_times_46 : decode b_M_times 46 = .ok (.iconst 2, 1) := by decide +kernel
theorem d_M_times_47 : decode b_M_times 47 = .ok (.ireturn, 1) := by decide +kernel
theorem d_M_move_0 : decode b_M_move 0 = .ok (.aload_n 0, 1) := by decide +kernel
theorem d_M_move_1 : decode b_M_move 1 = .ok (.getfield 39, 3) := by decide +kernel
theorem d_M_move_4 : decode b_M_move 4 = .ok (.iconst 2, 1) := by decide +kernel
theorem d_M_move_5 : decode b_M_move 5 = .ok (.if_icmp .eq 5, 3) := by decide +kernel
theorem d_M_move_8 : decode b_M_move 8 = .ok (.iconst (-1), 1) := by decide +kernel
theorem d_M_move_9 : decode b_M_move 9 = .ok (.ireturn, 1) := by decide +kernel
theorem d_M_move_10 : decode b_M_move 10 = .ok (.iload_n 1, 1) := by decide +kernel
theorem d_M_move_11 : decode b_M_move 11 = .ok (.iconst 1, 1) := by decide +kernel
theorem d_M_move_12 : decode b_M_move 12 = .ok (.if_icmp .lt 29, 3) := by decide +kernel
theorem d_M_move_15 : decode b_M_move 15 = .ok (.iload_n 1, 1) := by decide +kernel
theorem d_M_move_16 : decode b_M_move 16 = .ok (.bipush 25, 2) := by decide +kernel
theorem d_M_move_18 : decode b_M_move 18 = .ok (.if_icmp .gt 23, 3) := by decide +kernel
theorem d_M_move_21 : decode b_M_move 21 = .ok (.iload_n 2, 1) := by decide +kernel
theorem d_M_move_22 : decode b_M_move 22 = .ok (.iconst 1, 1) := by decide +kernel
theorem d_M_move_23 : decode b_M_move 23 = .ok (.if_icmp .lt 18, 3) := by decide +kernel
theorem d_M_move_26 : decode b_M_move 26 = .ok (.iload_n 2, 1) := by decide +kernel
theorem d_M_move_27 : decode b_M_move 27 = .ok (.bipush 6, 2) := by decide +kernel
theorem d_M_move_29 : decode b_M_move 29 = .ok (.if_icmp .gt 12, 3) := by decide +kernel
theorem d_M_move_32 : decode b_M_move 32 = .ok (.aload_n 0, 1) := by decide +kernel
theorem d_M_move_33 : decode b_M_move 33 = .ok (.iload_n 1, 1) := by decide +kernel
theorem d_M_move_34 : decode b_M_move 34 = .ok (.iload_n 2, 1) := by decide +kernel
theorem d_M_move_35 : decode b_M_move 35 = .ok (.invokevirtual 108, 3) := by decide +kernel
theorem d_M_move_38 : decode b_M_move 38 = .ok (.ifCond .ne 6, 3) := by decide +kernel
theorem d_M_move_41 : decode b_M_move 41 = .ok (.bipush (-2), 2) := by decide +kernel
theorem d_M_move_43 : decode b_M_move 43 = .ok (.ireturn, 1) := by decide +kernel
theorem d_M_move_44 : decode b_M_move 44 = .ok (.aload_n 0, 1) := by decide +kernel
theorem d_M_move_45 : decode b_M_move 45 = .ok (.aload_n 0, 1) := by decide +kernel
theorem d_M_move_46 : decode b_M_move 46 = .ok (.getfield 80, 3) := by decide +kernel
theorem d_M_move_49 : decode b_M_move 49 = .ok (.iconst 0, 1) := by decide +kernel
theorem d_M_move_50 : decode b_M_move 50 = .ok (.invokevirtual 83, 3) := by decide +kernel
theorem d_M_move_53 : decode b_M_move 53 = .ok (.aload_n 0, 1) := by decide +kernel
theorem d_M_move_54 : decode b_M_move 54 = .ok (.iconst 0, 1) := by decide +kernel
theorem d_M_move_55 : decode b_M_move 55 = .ok (.iload_n 1, 1) := by decide +kernel
theorem d_M_move_56 : decode b_M_move 56 = .ok (.iload_n 2, 1) := by decide +kernel
theorem d_M_move_57 : decode b_M_move 57 = .ok (.invokevirtual 54, 3) := by decide +kernel
theorem d_M_move_60 : decode b_M_move 60 = .ok (.iconst 0, 1) := by decide +kernel
theorem d_M_move_61 : decode b_M_move 61 = .ok (.istore_n 3, 1) := by decide +kernel
theorem d_M_move_62 : decode b_M_move 62 = .ok (.iload_n 3, 1) := by decide +kernel
theorem d_M_move_63 : decode b_M_move 63 = .ok (.bipush 26, 2) := by decide +kernel
theorem d_M_move_65 : decode b_M_move 65 = .ok (.if_icmp .ge 57, 3) := by decide +kernel
theorem d_M_move_68 : decode b_M_move 68 = .ok (.aload_n 0, 1) := by decide +kernel
theorem d_M_move_69 : decode b_M_move 69 = .ok (.getfield 13, 3) := by decide +kernel
theorem d_M_move_72 : decode b_M_move 72 = .ok (.bipush 26, 2) := by decide +kernel
theorem d_M_move_74 : decode b_M_move 74 = .ok (.aload_n 0, 1) := by decide +kernel
theorem d_M_move_75 : decode b_M_move 75 = .ok (.getfield 80, 3) := by decide +kernel
theorem d_M_move_78 : decode b_M_move 78 = .ok (.imul, 1) := by decide +kernel
theorem d_M_move_79 : decode b_M_move 79 = .ok (.iload_n 3, 1) := by decide +kernel
theorem d_M_move_80 : decode b_M_move 80 = .ok (.iadd, 1) := by decide +kernel
theorem d_M_move_81 : decode b_M_move 81 = .ok (.aload_n 0, 1) := by decide +kernel
theorem d_M_move_82 : decode b_M_move 82 = .ok (.getfield 23, 3) := by decide +kernel
theorem d_M_move_85 : decode b_M_move 85 = .ok (.bipush 52, 2) := by decide +kernel
theorem d_M_move_87 : decode b_M_move 87 = .ok (.iload_n 3, 1) := by decide +kernel
theorem d_M_move_88 : decode b_M_move 88 = .ok (.iadd, 1) := by decide +kernel
theorem d_M_move_89 : decode b_M_move 89 = .ok (.iaload, 1) := by decide +kernel
theorem d_M_move_90 : decode b_M_move 90 = .ok (.iastore, 1) := by decide +kernel
theorem d_M_move_91 : decode b_M_move 91 = .ok (.aload_n 0, 1) := by decide +kernel
theorem d_M_move_92 : decode b_M_move 92 = .ok (.getfield 13, 3) := by decide +kernel
theorem d_M_move_95 : decode b_M_move 95 = .ok (.bipush 26, 2) := by decide +kernel
theorem d_M_move_97 : decode b_M_move 97 = .ok (.iconst 1, 1) := by decide +kernel
theorem d_M_move_98 : decode b_M_move 98 = .ok (.aload_n 0, 1) := by decide +kernel
theorem d_M_move_99 : decode b_M_move 99 = .ok (.getfield 80, 3) := by decide +kernel
theorem d_M_move_102 : decode b_M_move 102 = .ok (.isub, 1) := by decide +kernel
theorem d_M_move_103 : decode b_M_move 103 = .ok (.imul, 1) := by decide +kernel
theorem d_M_move_104 : decode b_M_move 104 = .ok (.iload_n 3, 1) := by decide +kernel
theorem d_M_move_105 : decode b_M_move 105 = .ok (.iadd, 1) := by decide +kernel
theorem d_M_move_106 : decode b_M_move 106 = .ok (.aload_n 0, 1) := by decide +kernel
theorem d_M_move_107 : decode b_M_move 107 = .ok (.getfield 23, 3) := by decide +kernel
theorem d_M_move_110 : decode b_M_move 110 = .ok (.bipush 78, 2) := by decide +kernel
theorem d_M_move_112 : decode b_M_move 112 = .ok (.iload_n 3, 1) := by decide +kernel
theorem d_M_move_113 : decode b_M_move 113 = .ok (.iadd, 1) := by decide +kernel
theorem d_M_move_114 : decode b_M_move 114 = .ok (.iaload, 1) := by decide +kernel
theorem d_M_move_115 : decode b_M_move 115 = .ok (.iastore, 1) := by decide +kernel
theorem d_M_move_116 : decode b_M_move 116 = .ok (.iinc 3 1, 3) := by decide +kernel
theorem d_M_move_119 : decode b_M_move 119 = .ok (.goto (-57), 3) := by decide +kernel
theorem d_M_move_122 : decode b_M_move 122 = .ok (.iload_n 2, 1) := by decide +kernel
theorem d_M_move_123 : decode b_M_move 123 = .ok (.aload_n 0, 1) := by decide +kernel
theorem d_M_move_124 : decode b_M_move 124 = .ok (.getfield 61, 3) := by decide +kernel
theorem d_M_move_127 : decode b_M_move 127 = .ok (.if_icmp .ne 16, 3) := by decide +kernel
theorem d_M_move_130 : decode b_M_move 130 = .ok (.aload_n 0, 1) := by decide +kernel
theorem d_M_move_131 : decode b_M_move 131 = .ok (.dup, 1) := by decide +kernel
theorem d_M_move_132 : decode b_M_move 132 = .ok (.getfield 74, 3) := by decide +kernel
theorem d_M_move_135 : decode b_M_move 135 = .ok (.iconst 1, 1) := by decide +kernel
theorem d_M_move_136 : decode b_M_move 136 = .ok (.isub, 1) := by decide +kernel
theorem d_M_move_137 : decode b_M_move 137 = .ok (.putfield 74, 3) := by decide +kernel
theorem d_M_move_140 : decode b_M_move 140 = .ok (.goto 13, 3) := by decide +kernel
theorem d_M_move_143 : decode b_M_move 143 = .ok (.aload_n 0, 1) := by decide +kernel
theorem d_M_move_144 : decode b_M_move 144 = .ok (.dup, 1) := by decide +kernel
theorem d_M_move_145 : decode b_M_move 145 = .ok (.getfield 77, 3) := by decide +kernel
theorem d_M_move_148 : decode b_M_move 148 = .ok (.iconst 1, 1) := by decide +kernel
theorem d_M_move_149 : decode b_M_move 149 = .ok (.isub, 1) := by decide +kernel
theorem d_M_move_150 : decode b_M_move 150 = .ok (.putfield 77, 3) := by decide +kernel
theorem d_M_move_153 : decode b_M_move 153 = .ok (.aload_n 0, 1) := by decide +kernel
theorem d_M_move_154 : decode b_M_move 154 = .ok (.getfield 13, 3) := by decide +kernel
theorem d_M_move_157 : decode b_M_move 157 = .ok (.bipush 26, 2) := by decide +kernel
theorem d_M_move_159 : decode b_M_move 159 = .ok (.aload_n 0, 1) := by decide +kernel
theorem d_M_move_160 : decode b_M_move 160 = .ok (.getfield 80, 3) := by decide +kernel
theorem d_M_move_163 : decode b_M_move 163 = .ok (.imul, 1) := by decide +kernel
theorem d_M_move_164 : decode b_M_move 164 = .ok (.iaload, 1) := by decide +kernel
theorem d_M_move_165 : decode b_M_move 165 = .ok (.bipush 15, 2) := by decide +kernel
theorem d_M_move_167 : decode b_M_move 167 = .ok (.if_icmp .ne 27, 3) := by decide +kernel
theorem d_M_move_170 : decode b_M_move 170 = .ok (.aload_n 0, 1) := by decide +kernel
theorem d_M_move_171 : decode b_M_move 171 = .ok (.aload_n 0, 1) := by decide +kernel
theorem d_M_move_172 : decode b_M_move 172 = .ok (.getfield 80, 3) := by decide +kernel
theorem d_M_move_175 : decode b_M_move 175 = .ok (.aload_n 0, 1) := by decide +kernel
theorem d_M_move_176 : decode b_M_move 176 = .ok (.aload_n 0, 1) := by decide +kernel
theorem d_M_move_177 : decode b_M_move 177 = .ok (.getfield 80, 3) := by decide +kernel
theorem d_M_move_180 : decode b_M_move 180 = .ok (.invokevirtual 111, 3) := by decide +kernel
theorem d_M_move_183 : decode b_M_move 183 = .ok (.aload_n 0, 1) := by decide +kernel
theorem d_M_move_184 : decode b_M_move 184 = .ok (.getfield 16, 3) := by decide +kernel
theorem d_M_move_187 : decode b_M_move 187 = .ok (.imul, 1) := by decide +kernel
theorem d_M_move_188 : decode b_M_move 188 = .ok (.invokevirtual 115, 3) := by decide +kernel
theorem d_M_move_191 : decode b_M_move 191 = .ok (.goto 7, 3) := by decide +kernel
theorem d_M_move_194 : decode b_M_move 194 = .ok (.aload_n 0, 1) := by decide +kernel
theorem d_M_move_195 : decode b_M_move 195 = .ok (.invokevirtual 93, 3) := by decide +kernel
theorem d_M_move_198 : decode b_M_move 198 = .ok (.ireturn, 1) := by decide +kernel
theorem d_M_find_0 : decode b_M_find 0 = .ok (.iconst 0, 1) := by decide +kernel
theorem d_M_find_1 : decode b_M_find 1 = .ok (.istore_n 2, 1) := by decide +kernel
theorem d_M_find_2 : decode b_M_find 2 = .ok (.bipush 25, 2) := by decide +kernel
theorem d_M_find_4 : decode b_M_find 4 = .ok (.istore_n 3, 1) := by decide +kernel
theorem d_M_find_5 : decode b_M_find 5 = .ok (.iload_n 3, 1) := by decide +kernel
theorem d_M_find_6 : decode b_M_find 6 = .ok (.ifCond .le 50, 3) := by decide +kernel
theorem d_M_find_9 : decode b_M_find 9 = .ok (.bipush 6, 2) := by decide +kernel
theorem d_M_find_11 : decode b_M_find 11 = .ok (.istore 4, 2) := by decide +kernel
theorem d_M_find_13 : decode b_M_find 13 = .ok (.iload 4, 2) := by decide +kernel
theorem d_M_find_15 : decode b_M_find 15 = .ok (.ifCond .le 35, 3) := by decide +kernel
theorem d_M_find_18 : decode b_M_find 18 = .ok (.aload_n 0, 1) := by decide +kernel
theorem d_M_find_19 : decode b_M_find 19 = .ok (.iload_n 3, 1) := by decide +kernel
theorem d_M_find_20 : decode b_M_find 20 = .ok (.iload 4, 2) := by decide +kernel
theorem d_M_find_22 : decode b_M_find 22 = .ok (.invokevirtual 108, 3) := by decide +kernel
theorem d_M_find_25 : decode b_M_find 25 = .ok (.ifCond .eq 19, 3) := by decide +kernel
theorem d_M_find_28 : decode b_M_find 28 = .ok (.iload_n 2, 1) := by decide +kernel
theorem d_M_find_29 : decode b_M_find 29 = .ok (.iload_n 1, 1) := by decide +kernel
theorem d_M_find_30 : decode b_M_find 30 = .ok (.if_icmp .ne 11, 3) := by decide +kernel
theorem d_M_find_33 : decode b_M_find 33 = .ok (.bipush 8, 2) := by decide +kernel
theorem d_M_find_35 : decode b_M_find 35 = .ok (.iload_n 3, 1) := by decide +kernel
theorem d_M_find_36 : decode b_M_find 36 = .ok (.imul, 1) := by decide +kernel
theorem d_M_find_37 : decode b_M_find 37 = .ok (.iload 4, 2) := by decide +kernel
theorem d_M_find_39 : decode b_M_find 39 = .ok (.iadd, 1) := by decide +kernel
theorem d_M_find_40 : decode b_M_find 40 = .ok (.ireturn, 1) := by decide +kernel
theorem d_M_find_41 : decode b_M_find 41 = .ok (.iinc 2 1, 3) := by decide +kernel
theorem d_M_find_44 : decode b_M_find 44 = .ok (.iinc 4 (-1), 3) := by decide +kernel
theorem d_M_find_47 : decode b_M_find 47 = .ok (.goto (-34), 3) := by decide +kernel
theorem d_M_find_50 : decode b_M_find 50 = .ok (.iinc 3 (-1), 3) := by decide +kernel
theorem d_M_find_53 : decode b_M_find 53 = .ok (.goto (-48), 3) := by decide +kernel
theorem d_M_find_56 : decode b_M_find 56 = .ok (.iload_n 1, 1) := by decide +kernel
theorem d_M_find_57 : decode b_M_find 57 = .ok (.ifCond .ge 7, 3) := by decide +kernel
theorem d_M_find_60 : decode b_M_find 60 = .ok (.iload_n 2, 1) := by decide +kernel
theorem d_M_find_61 : decode b_M_find 61 = .ok (.goto 5, 3) := by decide +kernel
theorem d_M_find_64 : decode b_M_find 64 = .ok (.bipush (-2), 2) := by decide +kernel
theorem d_M_find_66 : decode b_M_find 66 = .ok (.ireturn, 1) := by decide +kernel
theorem d_M_step_0 : decode b_M_step 0 = .ok (.aload_n 0, 1) := by decide +kernel
theorem d_M_step_1 : decode b_M_step 1 = .ok (.getfield 39, 3) := by decide +kernel
theorem d_M_step_4 : decode b_M_step 4 = .ok (.iconst 2, 1) := by decide +kernel
theorem d_M_step_5 : decode b_M_step 5 = .ok (.if_icmp .eq 5, 3) := by decide +kernel
theorem d_M_step_8 : decode b_M_step 8 = .ok (.iconst (-1), 1) := by decide +kernel
theorem d_M_step_9 : decode b_M_step 9 = .ok (.ireturn, 1) := by decide +kernel
theorem d_M_step_10 : decode b_M_step 10 = .ok (.iload_n 1, 1) := by decide +kernel
theorem d_M_step_11 : decode b_M_step 11 = .ok (.ifCond .ge 8, 3) := by decide +kernel
theorem d_M_step_14 : decode b_M_step 14 = .ok (.bipush (-2), 2) := by decide +kernel
theorem d_M_step_16 : decode b_M_step 16 = .ok (.goto 8, 3) := by decide +kernel
theorem d_M_step_19 : decode b_M_step 19 = .ok (.aload_n 0, 1) := by decide +kernel
theorem d_M_step_20 : decode b_M_step 20 = .ok (.iload_n 1, 1) := by decide +kernel
theorem d_M_step_21 : decode b_M_step 21 = .ok (.invokevirtual 118, 3) := by decide +kernel
theorem d_M_step_24 : decode b_M_step 24 = .ok (.istore_n 2, 1) := by decide +kernel
theorem d_M_step_25 : decode b_M_step 25 = .ok (.iload_n 2, 1) := by decide +kernel
theorem d_M_step_26 : decode b_M_step 26 = .ok (.ifCond .ge 8, 3) := by decide +kernel
theorem d_M_step_29 : decode b_M_step 29 = .ok (.bipush (-2), 2) := by decide +kernel
theorem d_M_step_31 : decode b_M_step 31 = .ok (.goto 15, 3) := by decide +kernel
theorem d_M_step_34 : decode b_M_step 34 = .ok (.aload_n 0, 1) := by decide +kernel
theorem d_M_step_35 : decode b_M_step 35 = .ok (.iload_n 2, 1) := by decide +kernel
theorem d_M_step_36 : decode b_M_step 36 = .ok (.bipush 8, 2) := by decide +kernel
theorem d_M_step_38 : decode b_M_step 38 = .ok (.idiv, 1) := by decide +kernel
theorem d_M_step_39 : decode b_M_step 39 = .ok (.iload_n 2, 1) := by decide +kernel
theorem d_M_step_40 : decode b_M_step 40 = .ok (.bipush 8, 2) := by decide +kernel
theorem d_M_step_42 : decode b_M_step 42 = .ok (.irem, 1) := by decide +kernel
theorem d_M_step_43 : decode b_M_step 43 = .ok (.invokevirtual 121, 3) := by decide +kernel
theorem d_M_step_46 : decode b_M_step 46 = .ok (.ireturn, 1) := by decide +kernel
theorem d_M_ways_0 : decode b_M_ways 0 = .ok (.aload_n 0, 1) := by decide +kernel
theorem d_M_ways_1 : decode b_M_ways 1 = .ok (.getfield 39, 3) := by decide +kernel
theorem d_M_ways_4 : decode b_M_ways 4 = .ok (.iconst 2, 1) := by decide +kernel
theorem d_M_ways_5 : decode b_M_ways 5 = .ok (.if_icmp .ne 11, 3) := by decide +kernel
theorem d_M_ways_8 : decode b_M_ways 8 = .ok (.aload_n 0, 1) := by decide +kernel
theorem d_M_ways_9 : decode b_M_ways 9 = .ok (.iconst (-1), 1) := by decide +kernel
theorem d_M_ways_10 : decode b_M_ways 10 = .ok (.invokevirtual 118, 3) := by decide +kernel
theorem d_M_ways_13 : decode b_M_ways 13 = .ok (.goto 4, 3) := by decide +kernel
theorem d_M_ways_16 : decode b_M_ways 16 = .ok (.iconst 0, 1) := by decide +kernel
theorem d_M_ways_17 : decode b_M_ways 17 = .ok (.ireturn, 1) := by decide +kernel
theorem d_M_due_0 : decode b_M_due 0 = .ok (.aload_n 0, 1) := by decide +kernel
theorem d_M_due_1 : decode b_M_due 1 = .ok (.getfield 39, 3) := by decide +kernel
theorem d_M_due_4 : decode b_M_due 4 = .ok (.iconst 2, 1) := by decide +kernel
theorem d_M_due_5 : decode b_M_due 5 = .ok (.if_icmp .ne 10, 3) := by decide +kernel
theorem d_M_due_8 : decode b_M_due 8 = .ok (.aload_n 0, 1) := by decide +kernel
theorem d_M_due_9 : decode b_M_due 9 = .ok (.getfield 87, 3) := by decide +kernel
theorem d_M_due_12 : decode b_M_due 12 = .ok (.goto 4, 3) := by decide +kernel
theorem d_M_due_15 : decode b_M_due 15 = .ok (.iconst 0, 1) := by decide +kernel
theorem d_M_due_16 : decode b_M_due 16 = .ok (.ireturn, 1) := by decide +kernel
theorem d_M_left_0 : decode b_M_left 0 = .ok (.aload_n 0, 1) := by decide +kernel
theorem d_M_left_1 : decode b_M_left 1 = .ok (.getfield 39, 3) := by decide +kernel
theorem d_M_left_4 : decode b_M_left 4 = .ok (.iconst 2, 1) := by decide +kernel
theorem d_M_left_5 : decode b_M_left 5 = .ok (.if_icmp .ne 8, 3) := by decide +kernel
theorem d_M_left_8 : decode b_M_left 8 = .ok (.iload_n 1, 1) := by decide +kernel
theorem d_M_left_9 : decode b_M_left 9 = .ok (.iconst 1, 1) := by decide +kernel
theorem d_M_left_10 : decode b_M_left 10 = .ok (.if_icmp .ge 5, 3) := by decide +kernel
theorem d_M_left_13 : decode b_M_left 13 = .ok (.iconst 0, 1) := by decide +kernel
theorem d_M_left_14 : decode b_M_left 14 = .ok (.ireturn, 1) := by decide +kernel
theorem d_M_left_15 : decode b_M_left 15 = .ok (.iload_n 1, 1) := by decide +kernel
theorem d_M_left_16 : decode b_M_left 16 = .ok (.aload_n 0, 1) := by decide +kernel
theorem d_M_left_17 : decode b_M_left 17 = .ok (.getfield 61, 3) := by decide +kernel
theorem d_M_left_20 : decode b_M_left 20 = .ok (.if_icmp .ne 10, 3) := by decide +kernel
theorem d_M_left_23 : decode b_M_left 23 = .ok (.aload_n 0, 1) := by decide +kernel
theorem d_M_left_24 : decode b_M_left 24 = .ok (.getfield 74, 3) := by decide +kernel
theorem d_M_left_27 : decode b_M_left 27 = .ok (.goto 19, 3) := by decide +kernel
theorem d_M_left_30 : decode b_M_left 30 = .ok (.iload_n 1, 1) := by decide +kernel
theorem d_M_left_31 : decode b_M_left 31 = .ok (.aload_n 0, 1) := by decide +kernel
theorem d_M_left_32 : decode b_M_left 32 = .ok (.getfield 64, 3) := by decide +kernel
theorem d_M_left_35 : decode b_M_left 35 = .ok (.if_icmp .ne 10, 3) := by decide +kernel
theorem d_M_left_38 : decode b_M_left 38 = .ok (.aload_n 0, 1) := by decide +kernel
theorem d_M_left_39 : decode b_M_left 39 = .ok (.getfield 77, 3) := by decide +kernel
theorem d_M_left_42 : decode b_M_left 42 = .ok (.goto 4, 3) := by decide +kernel
theorem d_M_left_45 : decode b_M_left 45 = .ok (.iconst 0, 1) := by decide +kernel
theorem d_M_left_46 : decode b_M_left 46 = .ok (.ireturn, 1) := by decide +kernel
theorem d_M_offer_0 : decode b_M_offer 0 = .ok (.aload_n 0, 1) := by decide +kernel
theorem d_M_offer_1 : decode b_M_offer 1 = .ok (.getfield 39, 3) := by decide +kernel
theorem d_M_offer_4 : decode b_M_offer 4 = .ok (.iconst 1, 1) := by decide +kernel
theorem d_M_offer_5 : decode b_M_offer 5 = .ok (.if_icmp .ne 32, 3) := by decide +kernel
theorem d_M_offer_8 : decode b_M_offer 8 = .ok (.aload_n 0, 1) := by decide +kernel
theorem d_M_offer_9 : decode b_M_offer 9 = .ok (.getfield 20, 3) := by decide +kernel
theorem d_M_offer_12 : decode b_M_offer 12 = .ok (.iconst 1, 1) := by decide +kernel
theorem d_M_offer_13 : decode b_M_offer 13 = .ok (.aload_n 0, 1) := by decide +kernel
theorem d_M_offer_14 : decode b_M_offer 14 = .ok (.getfield 80, 3) := by decide +kernel
theorem d_M_offer_17 : decode b_M_offer 17 = .ok (.isub, 1) := by decide +kernel
theorem d_M_offer_18 : decode b_M_offer 18 = .ok (.if_icmp .eq 19, 3) := by decide +kernel
theorem d_M_offer_21 : decode b_M_offer 21 = .ok (.aload_n 0, 1) := by decide +kernel
theorem d_M_offer_22 : decode b_M_offer 22 = .ok (.getfield 16, 3) := by decide +kernel
theorem d_M_offer_25 : decode b_M_offer 25 = .ok (.bipush 64, 2) := by decide +kernel
theorem d_M_offer_27 : decode b_M_offer 27 = .ok (.if_icmp .ge 10, 3) := by decide +kernel
theorem d_M_offer_30 : decode b_M_offer 30 = .ok (.aload_n 0, 1) := by decide +kernel
theorem d_M_offer_31 : decode b_M_offer 31 = .ok (.getfield 101, 3) := by decide +kernel
theorem d_M_offer_34 : decode b_M_offer 34 = .ok (.ifCond .eq 5, 3) := by decide +kernel
theorem d_M_offer_37 : decode b_M_offer 37 = .ok (.iconst 0, 1) := by decide +kernel
theorem d_M_offer_38 : decode b_M_offer 38 = .ok (.ireturn, 1) := by decide +kernel
theorem d_M_offer_39 : decode b_M_offer 39 = .ok (.aload_n 0, 1) := by decide +kernel
theorem d_M_offer_40 : decode b_M_offer 40 = .ok (.iconst 3, 1) := by decide +kernel
theorem d_M_offer_41 : decode b_M_offer 41 = .ok (.putfield 39, 3) := by decide +kernel
theorem d_M_offer_44 : decode b_M_offer 44 = .ok (.iconst 1, 1) := by decide +kernel
theorem d_M_offer_45 : decode b_M_offer 45 = .ok (.ireturn, 1) := by decide +kernel
theorem d_M_answer_0 : decode b_M_answer 0 = .ok (.aload_n 0, 1) := by decide +kernel
theorem d_M_answer_1 : decode b_M_answer 1 = .ok (.getfield 39, 3) := by decide +kernel
theorem d_M_answer_4 : decode b_M_answer 4 = .ok (.iconst 3, 1) := by decide +kernel
theorem d_M_answer_5 : decode b_M_answer 5 = .ok (.if_icmp .eq 5, 3) := by decide +kernel
theorem d_M_answer_8 : decode b_M_answer 8 = .ok (.iconst (-1), 1) := by decide +kernel
theorem d_M_answer_9 : decode b_M_answer 9 = .ok (.ireturn, 1) := by decide +kernel
theorem d_M_answer_10 : decode b_M_answer 10 = .ok (.iload_n 1, 1) := by decide +kernel
theorem d_M_answer_11 : decode b_M_answer 11 = .ok (.ifCond .ne 16, 3) := by decide +kernel
theorem d_M_answer_14 : decode b_M_answer 14 = .ok (.aload_n 0, 1) := by decide +kernel
theorem d_M_answer_15 : decode b_M_answer 15 = .ok (.aload_n 0, 1) := by decide +kernel
theorem d_M_answer_16 : decode b_M_answer 16 = .ok (.getfield 80, 3) := by decide +kernel
theorem d_M_answer_19 : decode b_M_answer 19 = .ok (.aload_n 0, 1) := by decide +kernel
theorem d_M_answer_20 : decode b_M_answer 20 = .ok (.getfield 16, 3) := by decide +kernel
theorem d_M_answer_23 : decode b_M_answer 23 = .ok (.invokevirtual 115, 3) := by decide +kernel
theorem d_M_answer_26 : decode b_M_answer 26 = .ok (.ireturn, 1) := by decide +kernel
theorem d_M_answer_27 : decode b_M_answer 27 = .ok (.aload_n 0, 1) := by decide +kernel
theorem d_M_answer_28 : decode b_M_answer 28 = .ok (.iconst 2, 1) := by decide +kernel
theorem d_M_answer_29 : decode b_M_answer 29 = .ok (.aload_n 0, 1) := by decide +kernel
theorem d_M_answer_30 : decode b_M_answer 30 = .ok (.getfield 16, 3) := by decide +kernel
theorem d_M_answer_33 : decode b_M_answer 33 = .ok (.imul, 1) := by decide +kernel
theorem d_M_answer_34 : decode b_M_answer 34 = .ok (.putfield 16, 3) := by decide +kernel
theorem d_M_answer_37 : decode b_M_answer 37 = .ok (.aload_n 0, 1) := by decide +kernel
theorem d_M_answer_38 : decode b_M_answer 38 = .ok (.iconst 1, 1) := by decide +kernel
theorem d_M_answer_39 : decode b_M_answer 39 = .ok (.aload_n 0, 1) := by decide +kernel
theorem d_M_answer_40 : decode b_M_answer 40 = .ok (.getfield 80, 3) := by decide +kernel
theorem d_M_answer_43 : decode b_M_answer 43 = .ok (.isub, 1) := by decide +kernel
theorem d_M_answer_44 : decode b_M_answer 44 = .ok (.putfield 20, 3) := by decide +kernel
theorem d_M_answer_47 : decode b_M_answer 47 = .ok (.aload_n 0, 1) := by decide +kernel
theorem d_M_answer_48 : decode b_M_answer 48 = .ok (.iconst 1, 1) := by decide +kernel
theorem d_M_answer_49 : decode b_M_answer 49 = .ok (.putfield 39, 3) := by decide +kernel
theorem d_M_answer_52 : decode b_M_answer 52 = .ok (.iconst 0, 1) := by decide +kernel
theorem d_M_answer_53 : decode b_M_answer 53 = .ok (.ireturn, 1) := by decide +kernel
theorem d_M_phase_0 : decode b_M_phase 0 = .ok (.aload_n 0, 1) := by decide +kernel
theorem d_M_phase_1 : decode b_M_phase 1 = .ok (.getfield 39, 3) := by decide +kernel
theorem d_M_phase_4 : decode b_M_phase 4 = .ok (.ireturn, 1) := by decide +kernel
theorem d_M_turn_0 : decode b_M_turn 0 = .ok (.aload_n 0, 1) := by decide +kernel
theorem d_M_turn_1 : decode b_M_turn 1 = .ok (.getfield 39, 3) := by decide +kernel
theorem d_M_turn_4 : decode b_M_turn 4 = .ok (.ifCond .ne 7, 3) := by decide +kernel
theorem d_M_turn_7 : decode b_M_turn 7 = .ok (.iconst (-1), 1) := by decide +kernel
theorem d_M_turn_8 : decode b_M_turn 8 = .ok (.goto 24, 3) := by decide +kernel
theorem d_M_turn_11 : decode b_M_turn 11 = .ok (.aload_n 0, 1) := by decide +kernel
theorem d_M_turn_12 : decode b_M_turn 12 = .ok (.getfield 39, 3) := by decide +kernel
theorem d_M_turn_15 : decode b_M_turn 15 = .ok (.iconst 3, 1) := by decide +kernel
theorem d_M_turn_16 : decode b_M_turn 16 = .ok (.if_icmp .ne 12, 3) := by decide +kernel
theorem d_M_turn_19 : decode b_M_turn 19 = .ok (.iconst 1, 1) := by decide +kernel
theorem d_M_turn_20 : decode b_M_turn 20 = .ok (.aload_n 0, 1) := by decide +kernel
theorem d_M_turn_21 : decode b_M_turn 21 = .ok (.getfield 80, 3) := by decide +kernel
theorem d_M_turn_24 : decode b_M_turn 24 = .ok (.isub, 1) := by decide +kernel
theorem d_M_turn_25 : decode b_M_turn 25 = .ok (.goto 7, 3) := by decide +kernel
theorem d_M_turn_28 : decode b_M_turn 28 = .ok (.aload_n 0, 1) := by decide +kernel
theorem d_M_turn_29 : decode b_M_turn 29 = .ok (.getfield 80, 3) := by decide +kernel
theorem d_M_turn_32 : decode b_M_turn 32 = .ok (.ireturn, 1) := by decide +kernel
theorem d_M_men_0 : decode b_M_men 0 = .ok (.iload_n 1, 1) := by decide +kernel
theorem d_M_men_1 : decode b_M_men 1 = .ok (.ifCond .lt 18, 3) := by decide +kernel
theorem d_M_men_4 : decode b_M_men 4 = .ok (.iload_n 1, 1) := by decide +kernel
theorem d_M_men_5 : decode b_M_men 5 = .ok (.iconst 1, 1) := by decide +kernel
theorem d_M_men_6 : decode b_M_men 6 = .ok (.if_icmp .gt 13, 3) := by decide +kernel
theorem d_M_men_9 : decode b_M_men 9 = .ok (.iload_n 2, 1) := by decide +kernel
theorem d_M_men_10 : decode b_M_men 10 = .ok (.ifCond .lt 9, 3) := by decide +kernel
theorem d_M_men_13 : decode b_M_men 13 = .ok (.iload_n 2, 1) := by decide +kernel
theorem d_M_men_14 : decode b_M_men 14 = .ok (.bipush 25, 2) := by decide +kernel
theorem d_M_men_16 : decode b_M_men 16 = .ok (.if_icmp .le 7, 3) := by decide +kernel
theorem d_M_men_19 : decode b_M_men 19 = .ok (.iconst (-1), 1) := by decide +kernel
theorem d_M_men_20 : decode b_M_men 20 = .ok (.goto 14, 3) := by decide +kernel
theorem d_M_men_23 : decode b_M_men 23 = .ok (.aload_n 0, 1) := by decide +kernel
theorem d_M_men_24 : decode b_M_men 24 = .ok (.getfield 13, 3) := by decide +kernel
theorem d_M_men_27 : decode b_M_men 27 = .ok (.bipush 26, 2) := by decide +kernel
theorem d_M_men_29 : decode b_M_men 29 = .ok (.iload_n 1, 1) := by decide +kernel
theorem d_M_men_30 : decode b_M_men 30 = .ok (.imul, 1) := by decide +kernel
theorem d_M_men_31 : decode b_M_men 31 = .ok (.iload_n 2, 1) := by decide +kernel
theorem d_M_men_32 : decode b_M_men 32 = .ok (.iadd, 1) := by decide +kernel
theorem d_M_men_33 : decode b_M_men 33 = .ok (.iaload, 1) := by decide +kernel
theorem d_M_men_34 : decode b_M_men 34 = .ok (.ireturn, 1) := by decide +kernel
theorem d_M_pips_0 : decode b_M_pips 0 = .ok (.iload_n 1, 1) := by decide +kernel
theorem d_M_pips_1 : decode b_M_pips 1 = .ok (.ifCond .lt 8, 3) := by decide +kernel
theorem d_M_pips_4 : decode b_M_pips 4 = .ok (.iload_n 1, 1) := by decide +kernel
theorem d_M_pips_5 : decode b_M_pips 5 = .ok (.iconst 1, 1) := by decide +kernel
theorem d_M_pips_6 : decode b_M_pips 6 = .ok (.if_icmp .le 5, 3) := by decide +kernel
theorem d_M_pips_9 : decode b_M_pips 9 = .ok (.iconst (-1), 1) := by decide +kernel
theorem d_M_pips_10 : decode b_M_pips 10 = .ok (.ireturn, 1) := by decide +kernel
theorem d_M_pips_11 : decode b_M_pips 11 = .ok (.iconst 0, 1) := by decide +kernel
theorem d_M_pips_12 : decode b_M_pips 12 = .ok (.istore_n 2, 1) := by decide +kernel
theorem d_M_pips_13 : decode b_M_pips 13 = .ok (.iconst 1, 1) := by decide +kernel
theorem d_M_pips_14 : decode b_M_pips 14 = .ok (.istore_n 3, 1) := by decide +kernel
theorem d_M_pips_15 : decode b_M_pips 15 = .ok (.iload_n 3, 1) := by decide +kernel
theorem d_M_pips_16 : decode b_M_pips 16 = .ok (.bipush 26, 2) := by decide +kernel
theorem d_M_pips_18 : decode b_M_pips 18 = .ok (.if_icmp .ge 25, 3) := by decide +kernel
theorem d_M_pips_21 : decode b_M_pips 21 = .ok (.iload_n 2, 1) := by decide +kernel
theorem d_M_pips_22 : decode b_M_pips 22 = .ok (.iload_n 3, 1) := by decide +kernel
theorem d_M_pips_23 : decode b_M_pips 23 = .ok (.aload_n 0, 1) := by decide +kernel
theorem d_M_pips_24 : decode b_M_pips 24 = .ok (.getfield 13, 3) := by decide +kernel
theorem d_M_pips_27 : decode b_M_pips 27 = .ok (.bipush 26, 2) := by decide +kernel
theorem d_M_pips_29 : decode b_M_pips 29 = .ok (.iload_n 1, 1) := by decide +kernel
theorem d_M_pips_30 : decode b_M_pips 30 = .ok (.imul, 1) := by decide +kernel
theorem d_M_pips_31 : decode b_M_pips 31 = .ok (.iload_n 3, 1) := by decide +kernel
theorem d_M_pips_32 : decode b_M_pips 32 = .ok (.iadd, 1) := by decide +kernel
theorem d_M_pips_33 : decode b_M_pips 33 = .ok (.iaload, 1) := by decide +kernel
theorem d_M_pips_34 : decode b_M_pips 34 = .ok (.imul, 1) := by decide +kernel
theorem d_M_pips_35 : decode b_M_pips 35 = .ok (.iadd, 1) := by decide +kernel
theorem d_M_pips_36 : decode b_M_pips 36 = .ok (.istore_n 2, 1) := by decide +kernel
theorem d_M_pips_37 : decode b_M_pips 37 = .ok (.iinc 3 1, 3) := by decide +kernel
theorem d_M_pips_40 : decode b_M_pips 40 = .ok (.goto (-25), 3) := by decide +kernel
theorem d_M_pips_43 : decode b_M_pips 43 = .ok (.iload_n 2, 1) := by decide +kernel
theorem d_M_pips_44 : decode b_M_pips 44 = .ok (.ireturn, 1) := by decide +kernel
theorem d_M_cube_0 : decode b_M_cube 0 = .ok (.aload_n 0, 1) := by decide +kernel
theorem d_M_cube_1 : decode b_M_cube 1 = .ok (.getfield 16, 3) := by decide +kernel
theorem d_M_cube_4 : decode b_M_cube 4 = .ok (.ireturn, 1) := by decide +kernel
theorem d_M_owner_0 : decode b_M_owner 0 = .ok (.aload_n 0, 1) := by decide +kernel
theorem d_M_owner_1 : decode b_M_owner 1 = .ok (.getfield 20, 3) := by decide +kernel
theorem d_M_owner_4 : decode b_M_owner 4 = .ok (.ireturn, 1) := by decide +kernel
theorem d_M_points_0 : decode b_M_points 0 = .ok (.iload_n 1, 1) := by decide +kernel
theorem d_M_points_1 : decode b_M_points 1 = .ok (.ifCond .lt 8, 3) := by decide +kernel
theorem d_M_points_4 : decode b_M_points 4 = .ok (.iload_n 1, 1) := by decide +kernel
theorem d_M_points_5 : decode b_M_points 5 = .ok (.iconst 1, 1) := by decide +kernel
theorem d_M_points_6 : decode b_M_points 6 = .ok (.if_icmp .le 7, 3) := by decide +kernel
theorem d_M_points_9 : decode b_M_points 9 = .ok (.iconst (-1), 1) := by decide +kernel
theorem d_M_points_10 : decode b_M_points 10 = .ok (.goto 9, 3) := by decide +kernel
theorem d_M_points_13 : decode b_M_points 13 = .ok (.aload_n 0, 1) := by decide +kernel
theorem d_M_points_14 : decode b_M_points 14 = .ok (.getfield 7, 3) := by decide +kernel
theorem d_M_points_17 : decode b_M_points 17 = .ok (.iload_n 1, 1) := by decide +kernel
theorem d_M_points_18 : decode b_M_points 18 = .ok (.iaload, 1) := by decide +kernel
theorem d_M_points_19 : decode b_M_points 19 = .ok (.ireturn, 1) := by decide +kernel
theorem d_M_crawford_0 : decode b_M_crawford 0 = .ok (.aload_n 0, 1) := by decide +kernel
theorem d_M_crawford_1 : decode b_M_crawford 1 = .ok (.getfield 101, 3) := by decide +kernel
theorem d_M_crawford_4 : decode b_M_crawford 4 = .ok (.ireturn, 1) := by decide +kernel
theorem d_M_bit_0 : decode b_M_bit 0 = .ok (.iload_n 0, 1) := by decide +kernel
theorem d_M_bit_1 : decode b_M_bit 1 = .ok (.iload_n 1, 1) := by decide +kernel
theorem d_M_bit_2 : decode b_M_bit 2 = .ok (.if_icmp .ge 13, 3) := by decide +kernel
theorem d_M_bit_5 : decode b_M_bit 5 = .ok (.iconst 1, 1) := by decide +kernel
theorem d_M_bit_6 : decode b_M_bit 6 = .ok (.iconst 5, 1) := by decide +kernel
theorem d_M_bit_7 : decode b_M_bit 7 = .ok (.iload_n 0, 1) := by decide +kernel
theorem d_M_bit_8 : decode b_M_bit 8 = .ok (.imul, 1) := by decide +kernel
theorem d_M_bit_9 : decode b_M_bit 9 = .ok (.iload_n 1, 1) := by decide +kernel
theorem d_M_bit_10 : decode b_M_bit 10 = .ok (.iadd, 1) := by decide +kernel
theorem d_M_bit_11 : decode b_M_bit 11 = .ok (.ishl, 1) := by decide +kernel
theorem d_M_bit_12 : decode b_M_bit 12 = .ok (.goto 10, 3) := by decide +kernel
theorem d_M_bit_15 : decode b_M_bit 15 = .ok (.iconst 1, 1) := by decide +kernel
theorem d_M_bit_16 : decode b_M_bit 16 = .ok (.iconst 5, 1) := by decide +kernel
theorem d_M_bit_17 : decode b_M_bit 17 = .ok (.iload_n 1, 1) := by decide +kernel
theorem d_M_bit_18 : decode b_M_bit 18 = .ok (.imul, 1) := by decide +kernel
theorem d_M_bit_19 : decode b_M_bit 19 = .ok (.iload_n 0, 1) := by decide +kernel
theorem d_M_bit_20 : decode b_M_bit 20 = .ok (.iadd, 1) := by decide +kernel
theorem d_M_bit_21 : decode b_M_bit 21 = .ok (.ishl, 1) := by decide +kernel
theorem d_M_bit_22 : decode b_M_bit 22 = .ok (.ireturn, 1) := by decide +kernel
theorem d_M_moved_0 : decode b_M_moved 0 = .ok (.iload_n 0, 1) := by decide +kernel
theorem d_M_moved_1 : decode b_M_moved 1 = .ok (.ifCond .ne 5, 3) := by decide +kernel
theorem d_M_moved_4 : decode b_M_moved 4 = .ok (.iconst (-1), 1) := by decide +kernel
theorem d_M_moved_5 : decode b_M_moved 5 = .ok (.ireturn, 1) := by decide +kernel
theorem d_M_moved_6 : decode b_M_moved 6 = .ok (.iload_n 0, 1) := by decide +kernel
theorem d_M_moved_7 : decode b_M_moved 7 = .ok (.iload_n 2, 1) := by decide +kernel
theorem d_M_moved_8 : decode b_M_moved 8 = .ok (.isub, 1) := by decide +kernel
theorem d_M_moved_9 : decode b_M_moved 9 = .ok (.ifCond .lt 9, 3) := by decide +kernel
theorem d_M_moved_12 : decode b_M_moved 12 = .ok (.iload_n 0, 1) := by decide +kernel
theorem d_M_moved_13 : decode b_M_moved 13 = .ok (.iload_n 2, 1) := by decide +kernel
theorem d_M_moved_14 : decode b_M_moved 14 = .ok (.isub, 1) := by decide +kernel
theorem d_M_moved_15 : decode b_M_moved 15 = .ok (.goto 13, 3) := by decide +kernel
theorem d_M_moved_18 : decode b_M_moved 18 = .ok (.iload_n 1, 1) := by decide +kernel
theorem d_M_moved_19 : decode b_M_moved 19 = .ok (.iload_n 0, 1) := by decide +kernel
theorem d_M_moved_20 : decode b_M_moved 20 = .ok (.if_icmp .le 7, 3) := by decide +kernel
theorem d_M_moved_23 : decode b_M_moved 23 = .ok (.iconst (-1), 1) := by decide +kernel
theorem d_M_moved_24 : decode b_M_moved 24 = .ok (.goto 4, 3) := by decide +kernel
theorem d_M_moved_27 : decode b_M_moved 27 = .ok (.iconst 0, 1) := by decide +kernel
theorem d_M_moved_28 : decode b_M_moved 28 = .ok (.ireturn, 1) := by decide +kernel
theorem d_M_next_0 : decode b_M_next 0 = .ok (.iconst 0, 1) := by decide +kernel
theorem d_M_next_1 : decode b_M_next 1 = .ok (.istore_n 2, 1) := by decide +kernel
theorem d_M_next_2 : decode b_M_next 2 = .ok (.iconst 0, 1) := by decide +kernel
theorem d_M_next_3 : decode b_M_next 3 = .ok (.istore_n 3, 1) := by decide +kernel
theorem d_M_next_4 : decode b_M_next 4 = .ok (.iload_n 3, 1) := by decide +kernel
theorem d_M_next_5 : decode b_M_next 5 = .ok (.bipush 25, 2) := by decide +kernel
theorem d_M_next_7 : decode b_M_next 7 = .ok (.if_icmp .ge 86, 3) := by decide +kernel
theorem d_M_next_10 : decode b_M_next 10 = .ok (.iload_n 0, 1) := by decide +kernel
theorem d_M_next_11 : decode b_M_next 11 = .ok (.iload_n 3, 1) := by decide +kernel
theorem d_M_next_12 : decode b_M_next 12 = .ok (.ishr, 1) := by decide +kernel
theorem d_M_next_13 : decode b_M_next 13 = .ok (.iconst 1, 1) := by decide +kernel
theorem d_M_next_14 : decode b_M_next 14 = .ok (.iand, 1) := by decide +kernel
theorem d_M_next_15 : decode b_M_next 15 = .ok (.iconst 1, 1) := by decide +kernel
theorem d_M_next_16 : decode b_M_next 16 = .ok (.if_icmp .ne 71, 3) := by decide +kernel
theorem d_M_next_19 : decode b_M_next 19 = .ok (.iload_n 3, 1) := by decide +kernel
theorem d_M_next_20 : decode b_M_next 20 = .ok (.iconst 5, 1) := by decide +kernel
theorem d_M_next_21 : decode b_M_next 21 = .ok (.idiv, 1) := by decide +kernel
theorem d_M_next_22 : decode b_M_next 22 = .ok (.istore 4, 2) := by decide +kernel
theorem d_M_next_24 : decode b_M_next 24 = .ok (.iload_n 3, 1) := by decide +kernel
theorem d_M_next_25 : decode b_M_next 25 = .ok (.iconst 5, 1) := by decide +kernel
theorem d_M_next_26 : decode b_M_next 26 = .ok (.irem, 1) := by decide +kernel
theorem d_M_next_27 : decode b_M_next 27 = .ok (.istore 5, 2) := by decide +kernel
theorem d_M_next_29 : decode b_M_next 29 = .ok (.iload 4, 2) := by decide +kernel
theorem d_M_next_31 : decode b_M_next 31 = .ok (.iload 5, 2) := by decide +kernel
theorem d_M_next_33 : decode b_M_next 33 = .ok (.iload_n 1, 1) := by decide +kernel
theorem d_M_next_34 : decode b_M_next 34 = .ok (.invokestatic 124, 3) := by decide +kernel
theorem d_M_next_37 : decode b_M_next 37 = .ok (.istore 6, 2) := by decide +kernel
theorem d_M_next_39 : decode b_M_next 39 = .ok (.iload 5, 2) := by decide +kernel
theorem d_M_next_41 : decode b_M_next 41 = .ok (.iload 4, 2) := by decide +kernel
theorem d_M_next_43 : decode b_M_next 43 = .ok (.iload_n 1, 1) := by decide +kernel
theorem d_M_next_44 : decode b_M_next 44 = .ok (.invokestatic 124, 3) := by decide +kernel
theorem d_M_next_47 : decode b_M_next 47 = .ok (.istore 7, 2) := by decide +kernel
theorem d_M_next_49 : decode b_M_next 49 = .ok (.iload 6, 2) := by decide +kernel
theorem d_M_next_51 : decode b_M_next 51 = .ok (.ifCond .ge 7, 3) := by decide +kernel
theorem d_M_next_54 : decode b_M_next 54 = .ok (.iload_n 2, 1) := by decide +kernel
theorem d_M_next_55 : decode b_M_next 55 = .ok (.goto 12, 3) := by decide +kernel
theorem d_M_next_58 : decode b_M_next 58 = .ok (.iload_n 2, 1) := by decide +kernel
theorem d_M_next_59 : decode b_M_next 59 = .ok (.iload 6, 2) := by decide +kernel
theorem d_M_next_61 : decode b_M_next 61 = .ok (.iload 5, 2) := by decide +kernel
theorem d_M_next_63 : decode b_M_next 63 = .ok (.invokestatic 127, 3) := by decide +kernel
theorem d_M_next_66 : decode b_M_next 66 = .ok (.ior, 1) := by decide +kernel
theorem d_M_next_67 : decode b_M_next 67 = .ok (.istore_n 2, 1) := by decide +kernel
theorem d_M_next_68 : decode b_M_next 68 = .ok (.iload 7, 2) := by decide +kernel
theorem d_M_next_70 : decode b_M_next 70 = .ok (.ifCond .ge 7, 3) := by decide +kernel
theorem d_M_next_73 : decode b_M_next 73 = .ok (.iload_n 2, 1) := by decide +kernel
theorem d_M_next_74 : decode b_M_next 74 = .ok (.goto 12, 3) := by decide +kernel
theorem d_M_next_77 : decode b_M_next 77 = .ok (.iload_n 2, 1) := by decide +kernel
theorem d_M_next_78 : decode b_M_next 78 = .ok (.iload 4, 2) := by decide +kernel
theorem d_M_next_80 : decode b_M_next 80 = .ok (.iload 7, 2) := by decide +kernel
theorem d_M_next_82 : decode b_M_next 82 = .ok (.invokestatic 127, 3) := by decide +kernel
theorem d_M_next_85 : decode b_M_next 85 = .ok (.ior, 1) := by decide +kernel
theorem d_M_next_86 : decode b_M_next 86 = .ok (.istore_n 2, 1) := by decide +kernel
theorem d_M_next_87 : decode b_M_next 87 = .ok (.iinc 3 1, 3) := by decide +kernel
theorem d_M_next_90 : decode b_M_next 90 = .ok (.goto (-86), 3) := by decide +kernel
theorem d_M_next_93 : decode b_M_next 93 = .ok (.iload_n 2, 1) := by decide +kernel
theorem d_M_next_94 : decode b_M_next 94 = .ok (.ireturn, 1) := by decide +kernel
theorem d_M_outcomes_0 : decode b_M_outcomes 0 = .ok (.iload_n 0, 1) := by decide +kernel
theorem d_M_outcomes_1 : decode b_M_outcomes 1 = .ok (.iload_n 1, 1) := by decide +kernel
theorem d_M_outcomes_2 : decode b_M_outcomes 2 = .ok (.invokestatic 127, 3) := by decide +kernel
theorem d_M_outcomes_5 : decode b_M_outcomes 5 = .ok (.istore 4, 2) := by decide +kernel
theorem d_M_outcomes_7 : decode b_M_outcomes 7 = .ok (.iload_n 2, 1) := by decide +kernel
theorem d_M_outcomes_8 : decode b_M_outcomes 8 = .ok (.iload_n 3, 1) := by decide +kernel
theorem d_M_outcomes_9 : decode b_M_outcomes 9 = .ok (.if_icmp .ne 43, 3) := by decide +kernel
theorem d_M_outcomes_12 : decode b_M_outcomes 12 = .ok (.iconst 0, 1) := by decide +kernel
theorem d_M_outcomes_13 : decode b_M_outcomes 13 = .ok (.istore 5, 2) := by decide +kernel
theorem d_M_outcomes_15 : decode b_M_outcomes 15 = .ok (.iload 5, 2) := by decide +kernel
theorem d_M_outcomes_17 : decode b_M_outcomes 17 = .ok (.iconst 4, 1) := by decide +kernel
theorem d_M_outcomes_18 : decode b_M_outcomes 18 = .ok (.if_icmp .ge 31, 3) := by decide +kernel
theorem d_M_outcomes_21 : decode b_M_outcomes 21 = .ok (.iload 4, 2) := by decide +kernel
theorem d_M_outcomes_23 : decode b_M_outcomes 23 = .ok (.iload_n 2, 1) := by decide +kernel
theorem d_M_outcomes_24 : decode b_M_outcomes 24 = .ok (.invokestatic 130, 3) := by decide +kernel
theorem d_M_outcomes_27 : decode b_M_outcomes 27 = .ok (.istore 6, 2) := by decide +kernel
theorem d_M_outcomes_29 : decode b_M_outcomes 29 = .ok (.iload 6, 2) := by decide +kernel
theorem d_M_outcomes_31 : decode b_M_outcomes 31 = .ok (.ifCond .ne 8, 3) := by decide +kernel
theorem d_M_outcomes_34 : decode b_M_outcomes 34 = .ok (.iload 4, 2) := by decide +kernel
theorem d_M_outcomes_36 : decode b_M_outcomes 36 = .ok (.goto 5, 3) := by decide +kernel
theorem d_M_outcomes_39 : decode b_M_outcomes 39 = .ok (.iload 6, 2) := by decide +kernel
theorem d_M_outcomes_41 : decode b_M_outcomes 41 = .ok (.istore 4, 2) := by decide +kernel
theorem d_M_outcomes_43 : decode b_M_outcomes 43 = .ok (.iinc 5 1, 3) := by decide +kernel
theorem d_M_outcomes_46 : decode b_M_outcomes 46 = .ok (.goto (-31), 3) := by decide +kernel
theorem d_M_outcomes_49 : decode b_M_outcomes 49 = .ok (.iload 4, 2) := by decide +kernel
theorem d_M_outcomes_51 : decode b_M_outcomes 51 = .ok (.ireturn, 1) := by decide +kernel
theorem d_M_outcomes_52 : decode b_M_outcomes 52 = .ok (.iload 4, 2) := by decide +kernel
theorem d_M_outcomes_54 : decode b_M_outcomes 54 = .ok (.iload_n 2, 1) := by decide +kernel
theorem d_M_outcomes_55 : decode b_M_outcomes 55 = .ok (.invokestatic 130, 3) := by decide +kernel
theorem d_M_outcomes_58 : decode b_M_outcomes 58 = .ok (.istore 5, 2) := by decide +kernel
theorem d_M_outcomes_60 : decode b_M_outcomes 60 = .ok (.iload 4, 2) := by decide +kernel
theorem d_M_outcomes_62 : decode b_M_outcomes 62 = .ok (.iload_n 3, 1) := by decide +kernel
theorem d_M_outcomes_63 : decode b_M_outcomes 63 = .ok (.invokestatic 130, 3) := by decide +kernel
theorem d_M_outcomes_66 : decode b_M_outcomes 66 = .ok (.istore 6, 2) := by decide +kernel
theorem d_M_outcomes_68 : decode b_M_outcomes 68 = .ok (.iload 5, 2) := by decide +kernel
theorem d_M_outcomes_70 : decode b_M_outcomes 70 = .ok (.iload_n 3, 1) := by decide +kernel
theorem d_M_outcomes_71 : decode b_M_outcomes 71 = .ok (.invokestatic 130, 3) := by decide +kernel
theorem d_M_outcomes_74 : decode b_M_outcomes 74 = .ok (.iload 6, 2) := by decide +kernel
theorem d_M_outcomes_76 : decode b_M_outcomes 76 = .ok (.iload_n 2, 1) := by decide +kernel
theorem d_M_outcomes_77 : decode b_M_outcomes 77 = .ok (.invokestatic 130, 3) := by decide +kernel
theorem d_M_outcomes_80 : decode b_M_outcomes 80 = .ok (.ior, 1) := by decide +kernel
theorem d_M_outcomes_81 : decode b_M_outcomes 81 = .ok (.istore 7, 2) := by decide +kernel
theorem d_M_outcomes_83 : decode b_M_outcomes 83 = .ok (.iload 7, 2) := by decide +kernel
theorem d_M_outcomes_85 : decode b_M_outcomes 85 = .ok (.ifCond .eq 6, 3) := by decide +kernel
theorem d_M_outcomes_88 : decode b_M_outcomes 88 = .ok (.iload 7, 2) := by decide +kernel
theorem d_M_outcomes_90 : decode b_M_outcomes 90 = .ok (.ireturn, 1) := by decide +kernel
theorem d_M_outcomes_91 : decode b_M_outcomes 91 = .ok (.iload 5, 2) := by decide +kernel
theorem d_M_outcomes_93 : decode b_M_outcomes 93 = .ok (.ifCond .ne 8, 3) := by decide +kernel
theorem d_M_outcomes_96 : decode b_M_outcomes 96 = .ok (.iload 6, 2) := by decide +kernel
theorem d_M_outcomes_98 : decode b_M_outcomes 98 = .ok (.goto 25, 3) := by decide +kernel
theorem d_M_outcomes_101 : decode b_M_outcomes 101 = .ok (.iload 6, 2) := by decide +kernel
theorem d_M_outcomes_103 : decode b_M_outcomes 103 = .ok (.ifCond .ne 8, 3) := by decide +kernel
theorem d_M_outcomes_106 : decode b_M_outcomes 106 = .ok (.iload 5, 2) := by decide +kernel
theorem d_M_outcomes_108 : decode b_M_outcomes 108 = .ok (.goto 15, 3) := by decide +kernel
theorem d_M_outcomes_111 : decode b_M_outcomes 111 = .ok (.iload_n 2, 1) := by decide +kernel
theorem d_M_outcomes_112 : decode b_M_outcomes 112 = .ok (.iload_n 3, 1) := by decide +kernel
theorem d_M_outcomes_113 : decode b_M_outcomes 113 = .ok (.if_icmp .le 8, 3) := by decide +kernel
theorem d_M_outcomes_116 : decode b_M_outcomes 116 = .ok (.iload 5, 2) := by decide +kernel
theorem d_M_outcomes_118 : decode b_M_outcomes 118 = .ok (.goto 5, 3) := by decide +kernel
theorem d_M_outcomes_121 : decode b_M_outcomes 121 = .ok (.iload 6, 2) := by decide +kernel
theorem d_M_outcomes_123 : decode b_M_outcomes 123 = .ok (.ireturn, 1) := by decide +kernel
theorem d_M_work_0 : decode b_M_work 0 = .ok (.iload_n 3, 1) := by decide +kernel
theorem d_M_work_1 : decode b_M_work 1 = .ok (.iload 4, 2) := by decide +kernel
theorem d_M_work_3 : decode b_M_work 3 = .ok (.iadd, 1) := by decide +kernel
theorem d_M_work_4 : decode b_M_work 4 = .ok (.ifCond .ne 5, 3) := by decide +kernel
theorem d_M_work_7 : decode b_M_work 7 = .ok (.lconst 0, 1) := by decide +kernel
theorem d_M_work_8 : decode b_M_work 8 = .ok (.lreturn, 1) := by decide +kernel
theorem d_M_work_9 : decode b_M_work 9 = .ok (.iload_n 1, 1) := by decide +kernel
theorem d_M_work_10 : decode b_M_work 10 = .ok (.iload_n 2, 1) := by decide +kernel
theorem d_M_work_11 : decode b_M_work 11 = .ok (.iadd, 1) := by decide +kernel
theorem d_M_work_12 : decode b_M_work 12 = .ok (.ifCond .ne 7, 3) := by decide +kernel
theorem d_M_work_15 : decode b_M_work 15 = .ok (.ldc2_w 133, 3) := by decide +kernel
theorem d_M_work_18 : decode b_M_work 18 = .ok (.lreturn, 1) := by decide +kernel
theorem d_M_work_19 : decode b_M_work 19 = .ok (.lconst 0, 1) := by decide +kernel
theorem d_M_work_20 : decode b_M_work 20 = .ok (.lstore 5, 2) := by decide +kernel
theorem d_M_work_22 : decode b_M_work 22 = .ok (.iconst 0, 1) := by decide +kernel
theorem d_M_work_23 : decode b_M_work 23 = .ok (.istore 7, 2) := by decide +kernel
theorem d_M_work_25 : decode b_M_work 25 = .ok (.iload 7, 2) := by decide +kernel
theorem d_M_work_27 : decode b_M_work 27 = .ok (.bipush 36, 2) := by decide +kernel
theorem d_M_work_29 : decode b_M_work 29 = .ok (.if_icmp .ge 111, 3) := by decide +kernel
theorem d_M_work_32 : decode b_M_work 32 = .ok (.iload_n 1, 1) := by decide +kernel
theorem d_M_work_33 : decode b_M_work 33 = .ok (.iload_n 2, 1) := by decide +kernel
theorem d_M_work_34 : decode b_M_work 34 = .ok (.iconst 1, 1) := by decide +kernel
theorem d_M_work_35 : decode b_M_work 35 = .ok (.iload 7, 2) := by decide +kernel
theorem d_M_work_37 : decode b_M_work 37 = .ok (.bipush 6, 2) := by decide +kernel
theorem d_M_work_39 : decode b_M_work 39 = .ok (.idiv, 1) := by decide +kernel
theorem d_M_work_40 : decode b_M_work 40 = .ok (.iadd, 1) := by decide +kernel
theorem d_M_work_41 : decode b_M_work 41 = .ok (.iconst 1, 1) := by decide +kernel
theorem d_M_work_42 : decode b_M_work 42 = .ok (.iload 7, 2) := by decide +kernel
theorem d_M_work_44 : decode b_M_work 44 = .ok (.bipush 6, 2) := by decide +kernel
theorem d_M_work_46 : decode b_M_work 46 = .ok (.irem, 1) := by decide +kernel
theorem d_M_work_47 : decode b_M_work 47 = .ok (.iadd, 1) := by decide +kernel
theorem d_M_work_48 : decode b_M_work 48 = .ok (.invokestatic 135, 3) := by decide +kernel
theorem d_M_work_51 : decode b_M_work 51 = .ok (.istore 8, 2) := by decide +kernel
theorem d_M_work_53 : decode b_M_work 53 = .ok (.lconst 0, 1) := by decide +kernel
theorem d_M_work_54 : decode b_M_work 54 = .ok (.lstore 9, 2) := by decide +kernel
theorem d_M_work_56 : decode b_M_work 56 = .ok (.iconst 0, 1) := by decide +kernel
theorem d_M_work_57 : decode b_M_work 57 = .ok (.istore 11, 2) := by decide +kernel
theorem d_M_work_59 : decode b_M_work 59 = .ok (.iload 11, 2) := by decide +kernel
theorem d_M_work_61 : decode b_M_work 61 = .ok (.bipush 25, 2) := by decide +kernel
theorem d_M_work_63 : decode b_M_work 63 = .ok (.if_icmp .ge 64, 3) := by decide +kernel
theorem d_M_work_66 : decode b_M_work 66 = .ok (.iload 8, 2) := by decide +kernel
theorem d_M_work_68 : decode b_M_work 68 = .ok (.iload 11, 2) := by decide +kernel
theorem d_M_work_70 : decode b_M_work 70 = .ok (.ishr, 1) := by decide +kernel
theorem d_M_work_71 : decode b_M_work 71 = .ok (.iconst 1, 1) := by decide +kernel
theorem d_M_work_72 : decode b_M_work 72 = .ok (.iand, 1) := by decide +kernel
theorem d_M_work_73 : decode b_M_work 73 = .ok (.iconst 1, 1) := by decide +kernel
theorem d_M_work_74 : decode b_M_work 74 = .ok (.if_icmp .ne 27, 3) := by decide +kernel
theorem d_M_work_77 : decode b_M_work 77 = .ok (.ldc2_w 133, 3) := by decide +kernel
theorem d_M_work_80 : decode b_M_work 80 = .ok (.aload_n 0, 1) := by decide +kernel
theorem d_M_work_81 : decode b_M_work 81 = .ok (.getfield 29, 3) := by decide +kernel
theorem d_M_work_84 : decode b_M_work 84 = .ok (.bipush 25, 2) := by decide +kernel
theorem d_M_work_86 : decode b_M_work 86 = .ok (.iconst 5, 1) := by decide +kernel
theorem d_M_work_87 : decode b_M_work 87 = .ok (.iload_n 3, 1) := by decide +kernel
theorem d_M_work_88 : decode b_M_work 88 = .ok (.imul, 1) := by decide +kernel
theorem d_M_work_89 : decode b_M_work 89 = .ok (.iload 4, 2) := by decide +kernel
theorem d_M_work_91 : decode b_M_work 91 = .ok (.iadd, 1) := by decide +kernel
theorem d_M_work_92 : decode b_M_work 92 = .ok (.imul, 1) := by decide +kernel
theorem d_M_work_93 : decode b_M_work 93 = .ok (.iload 11, 2) := by decide +kernel
theorem d_M_work_95 : decode b_M_work 95 = .ok (.iadd, 1) := by decide +kernel
theorem d_M_work_96 : decode b_M_work 96 = .ok (.laload, 1) := by decide +kernel
theorem d_M_work_97 : decode b_M_work 97 = .ok (.lsub, 1) := by decide +kernel
theorem d_M_work_98 : decode b_M_work 98 = .ok (.goto 4, 3) := by decide +kernel
theorem d_M_work_101 : decode b_M_work 101 = .ok (.lconst 0, 1) := by decide +kernel
theorem d_M_work_102 : decode b_M_work 102 = .ok (.lstore 12, 2) := by decide +kernel
theorem d_M_work_104 : decode b_M_work 104 = .ok (.lload 12, 2) := by decide +kernel
theorem d_M_work_106 : decode b_M_work 106 = .ok (.lload 9, 2) := by decide +kernel
theorem d_M_work_108 : decode b_M_work 108 = .ok (.lcmp, 1) := by decide +kernel
theorem d_M_work_109 : decode b_M_work 109 = .ok (.ifCond .le 8, 3) := by decide +kernel
theorem d_M_work_112 : decode b_M_work 112 = .ok (.lload 12, 2) := by decide +kernel
theorem d_M_work_114 : decode b_M_work 114 = .ok (.goto 5, 3) := by decide +kernel
theorem d_M_work_117 : decode b_M_work 117 = .ok (.lload 9, 2) := by decide +kernel
theorem d_M_work_119 : decode b_M_work 119 = .ok (.lstore 9, 2) := by decide +kernel
theorem d_M_work_121 : decode b_M_work 121 = .ok (.iinc 11 1, 3) := by decide +kernel
theorem d_M_work_124 : decode b_M_work 124 = .ok (.goto (-65), 3) := by decide +kernel
theorem d_M_work_127 : decode b_M_work 127 = .ok (.lload 5, 2) := by decide +kernel
theorem d_M_work_129 : decode b_M_work 129 = .ok (.lload 9, 2) := by decide +kernel
theorem d_M_work_131 : decode b_M_work 131 = .ok (.ladd, 1) := by decide +kernel
theorem d_M_work_132 : decode b_M_work 132 = .ok (.lstore 5, 2) := by decide +kernel
theorem d_M_work_134 : decode b_M_work 134 = .ok (.iinc 7 1, 3) := by decide +kernel
theorem d_M_work_137 : decode b_M_work 137 = .ok (.goto (-112), 3) := by decide +kernel
theorem d_M_work_140 : decode b_M_work 140 = .ok (.lload 5, 2) := by decide +kernel
theorem d_M_work_142 : decode b_M_work 142 = .ok (.ldc2_w 139, 3) := by decide +kernel
theorem d_M_work_145 : decode b_M_work 145 = .ok (.ldiv, 1) := by decide +kernel
theorem d_M_work_146 : decode b_M_work 146 = .ok (.lreturn, 1) := by decide +kernel
theorem d_M_workAll_0 : decode b_M_workAll 0 = .ok (.iconst 0, 1) := by decide +kernel
theorem d_M_workAll_1 : decode b_M_workAll 1 = .ok (.istore_n 1, 1) := by decide +kernel
theorem d_M_workAll_2 : decode b_M_workAll 2 = .ok (.iload_n 1, 1) := by decide +kernel
theorem d_M_workAll_3 : decode b_M_workAll 3 = .ok (.bipush 16, 2) := by decide +kernel
theorem d_M_workAll_5 : decode b_M_workAll 5 = .ok (.if_icmp .gt 93, 3) := by decide +kernel
theorem d_M_workAll_8 : decode b_M_workAll 8 = .ok (.iconst 0, 1) := by decide +kernel
theorem d_M_workAll_9 : decode b_M_workAll 9 = .ok (.istore_n 2, 1) := by decide +kernel
theorem d_M_workAll_10 : decode b_M_workAll 10 = .ok (.iload_n 2, 1) := by decide +kernel
theorem d_M_workAll_11 : decode b_M_workAll 11 = .ok (.sipush 625, 3) := by decide +kernel
theorem d_M_workAll_14 : decode b_M_workAll 14 = .ok (.if_icmp .ge 78, 3) := by decide +kernel
theorem d_M_workAll_17 : decode b_M_workAll 17 = .ok (.iload_n 2, 1) := by decide +kernel
theorem d_M_workAll_18 : decode b_M_workAll 18 = .ok (.bipush 125, 2) := by decide +kernel
theorem d_M_workAll_20 : decode b_M_workAll 20 = .ok (.idiv, 1) := by decide +kernel
theorem d_M_workAll_21 : decode b_M_workAll 21 = .ok (.istore_n 3, 1) := by decide +kernel
theorem d_M_workAll_22 : decode b_M_workAll 22 = .ok (.iload_n 2, 1) := by decide +kernel
theorem d_M_workAll_23 : decode b_M_workAll 23 = .ok (.bipush 25, 2) := by decide +kernel
theorem d_M_workAll_25 : decode b_M_workAll 25 = .ok (.idiv, 1) := by decide +kernel
theorem d_M_workAll_26 : decode b_M_workAll 26 = .ok (.iconst 5, 1) := by decide +kernel
theorem d_M_workAll_27 : decode b_M_workAll 27 = .ok (.irem, 1) := by decide +kernel
theorem d_M_workAll_28 : decode b_M_workAll 28 = .ok (.istore 4, 2) := by decide +kernel
theorem d_M_workAll_30 : decode b_M_workAll 30 = .ok (.iload_n 2, 1) := by decide +kernel
theorem d_M_workAll_31 : decode b_M_workAll 31 = .ok (.iconst 5, 1) := by decide +kernel
theorem d_M_workAll_32 : decode b_M_workAll 32 = .ok (.idiv, 1) := by decide +kernel
theorem d_M_workAll_33 : decode b_M_workAll 33 = .ok (.iconst 5, 1) := by decide +kernel
theorem d_M_workAll_34 : decode b_M_workAll 34 = .ok (.irem, 1) := by decide +kernel
theorem d_M_workAll_35 : decode b_M_workAll 35 = .ok (.istore 5, 2) := by decide +kernel
theorem d_M_workAll_37 : decode b_M_workAll 37 = .ok (.iload_n 2, 1) := by decide +kernel
theorem d_M_workAll_38 : decode b_M_workAll 38 = .ok (.iconst 5, 1) := by decide +kernel
theorem d_M_workAll_39 : decode b_M_workAll 39 = .ok (.irem, 1) := by decide +kernel
theorem d_M_workAll_40 : decode b_M_workAll 40 = .ok (.istore 6, 2) := by decide +kernel
theorem d_M_workAll_42 : decode b_M_workAll 42 = .ok (.iload_n 3, 1) := by decide +kernel
theorem d_M_workAll_43 : decode b_M_workAll 43 = .ok (.iload 4, 2) := by decide +kernel
theorem d_M_workAll_45 : decode b_M_workAll 45 = .ok (.if_icmp .gt 41, 3) := by decide +kernel
theorem d_M_workAll_48 : decode b_M_workAll 48 = .ok (.iload 5, 2) := by decide +kernel
theorem d_M_workAll_50 : decode b_M_workAll 50 = .ok (.iload 6, 2) := by decide +kernel
theorem d_M_workAll_52 : decode b_M_workAll 52 = .ok (.if_icmp .gt 34, 3) := by decide +kernel
theorem d_M_workAll_55 : decode b_M_workAll 55 = .ok (.iload_n 3, 1) := by decide +kernel
theorem d_M_workAll_56 : decode b_M_workAll 56 = .ok (.iload 4, 2) := by decide +kernel
theorem d_M_workAll_58 : decode b_M_workAll 58 = .ok (.iadd, 1) := by decide +kernel
theorem d_M_workAll_59 : decode b_M_workAll 59 = .ok (.iload 5, 2) := by decide +kernel
theorem d_M_workAll_61 : decode b_M_workAll 61 = .ok (.iadd, 1) := by decide +kernel
theorem d_M_workAll_62 : decode b_M_workAll 62 = .ok (.iload 6, 2) := by decide +kernel
theorem d_M_workAll_64 : decode b_M_workAll 64 = .ok (.iadd, 1) := by decide +kernel
theorem d_M_workAll_65 : decode b_M_workAll 65 = .ok (.iload_n 1, 1) := by decide +kernel
theorem d_M_workAll_66 : decode b_M_workAll 66 = .ok (.if_icmp .ne 20, 3) := by decide +kernel
theorem d_M_workAll_69 : decode b_M_workAll 69 = .ok (.aload_n 0, 1) := by decide +kernel
theorem d_M_workAll_70 : decode b_M_workAll 70 = .ok (.getfield 29, 3) := by decide +kernel
theorem d_M_workAll_73 : decode b_M_workAll 73 = .ok (.iload_n 2, 1) := by decide +kernel
theorem d_M_workAll_74 : decode b_M_workAll 74 = .ok (.aload_n 0, 1) := by decide +kernel
theorem d_M_workAll_75 : decode b_M_workAll 75 = .ok (.iload_n 3, 1) := by decide +kernel
theorem d_M_workAll_76 : decode b_M_workAll 76 = .ok (.iload 4, 2) := by decide +kernel
theorem d_M_workAll_78 : decode b_M_workAll 78 = .ok (.iload 5, 2) := by decide +kernel
theorem d_M_workAll_80 : decode b_M_workAll 80 = .ok (.iload 6, 2) := by decide +kernel
theorem d_M_workAll_82 : decode b_M_workAll 82 = .ok (.invokevirtual 141, 3) := by decide +kernel
theorem d_M_workAll_85 : decode b_M_workAll 85 = .ok (.lastore, 1) := by decide +kernel
theorem d_M_workAll_86 : decode b_M_workAll 86 = .ok (.iinc 2 1, 3) := by decide +kernel
theorem d_M_workAll_89 : decode b_M_workAll 89 = .ok (.goto (-79), 3) := by decide +kernel
theorem d_M_workAll_92 : decode b_M_workAll 92 = .ok (.iinc 1 1, 3) := by decide +kernel
theorem d_M_workAll_95 : decode b_M_workAll 95 = .ok (.goto (-93), 3) := by decide +kernel
theorem d_M_workAll_98 : decode b_M_workAll 98 = .ok (.aload_n 0, 1) := by decide +kernel
theorem d_M_workAll_99 : decode b_M_workAll 99 = .ok (.iconst 1, 1) := by decide +kernel
theorem d_M_workAll_100 : decode b_M_workAll 100 = .ok (.putfield 145, 3) := by decide +kernel
theorem d_M_workAll_103 : decode b_M_workAll 103 = .ok (.return_, 1) := by decide +kernel
theorem d_M_isPlace_0 : decode b_M_isPlace 0 = .ok (.iload_n 0, 1) := by decide +kernel
theorem d_M_isPlace_1 : decode b_M_isPlace 1 = .ok (.ifCond .lt 12, 3) := by decide +kernel
theorem d_M_isPlace_4 : decode b_M_isPlace 4 = .ok (.iload_n 0, 1) := by decide +kernel
theorem d_M_isPlace_5 : decode b_M_isPlace 5 = .ok (.iconst 4, 1) := by decide +kernel
theorem d_M_isPlace_6 : decode b_M_isPlace 6 = .ok (.if_icmp .gt 7, 3) := by decide +kernel
theorem d_M_isPlace_9 : decode b_M_isPlace 9 = .ok (.iconst 1, 1) := by decide +kernel
theorem d_M_isPlace_10 : decode b_M_isPlace 10 = .ok (.goto 4, 3) := by decide +kernel
theorem d_M_isPlace_13 : decode b_M_isPlace 13 = .ok (.iconst 0, 1) := by decide +kernel
theorem d_M_isPlace_14 : decode b_M_isPlace 14 = .ok (.ireturn, 1) := by decide +kernel
theorem d_M_chance_0 : decode b_M_chance 0 = .ok (.iload_n 1, 1) := by decide +kernel
theorem d_M_chance_1 : decode b_M_chance 1 = .ok (.invokestatic 148, 3) := by decide +kernel
theorem d_M_chance_4 : decode b_M_chance 4 = .ok (.ifCond .eq 25, 3) := by decide +kernel
theorem d_M_chance_7 : decode b_M_chance 7 = .ok (.iload_n 2, 1) := by decide +kernel
theorem d_M_chance_8 : decode b_M_chance 8 = .ok (.invokestatic 148, 3) := by decide +kernel
theorem d_M_chance_11 : decode b_M_chance 11 = .ok (.ifCond .eq 18, 3) := by decide +kernel
theorem d_M_chance_14 : decode b_M_chance 14 = .ok (.iload_n 3, 1) := by decide +kernel
theorem d_M_chance_15 : decode b_M_chance 15 = .ok (.invokestatic 148, 3) := by decide +kernel
theorem d_M_chance_18 : decode b_M_chance 18 = .ok (.ifCond .eq 11, 3) := by decide +kernel
theorem d_M_chance_21 : decode b_M_chance 21 = .ok (.iload 4, 2) := by decide +kernel
theorem d_M_chance_23 : decode b_M_chance 23 = .ok (.invokestatic 148, 3) := by decide +kernel
theorem d_M_chance_26 : decode b_M_chance 26 = .ok (.ifCond .ne 7, 3) := by decide +kernel
theorem d_M_chance_29 : decode b_M_chance 29 = .ok (.ldc2_w 151, 3) := by decide +kernel
theorem d_M_chance_32 : decode b_M_chance 32 = .ok (.lreturn, 1) := by decide +kernel
theorem d_M_chance_33 : decode b_M_chance 33 = .ok (.aload_n 0, 1) := by decide +kernel
theorem d_M_chance_34 : decode b_M_chance 34 = .ok (.getfield 145, 3) := by decide +kernel
theorem d_M_chance_37 : decode b_M_chance 37 = .ok (.ifCond .ne 7, 3) := by decide +kernel
theorem d_M_chance_40 : decode b_M_chance 40 = .ok (.aload_n 0, 1) := by decide +kernel
theorem d_M_chance_41 : decode b_M_chance 41 = .ok (.invokevirtual 153, 3) := by decide +kernel
theorem d_M_chance_44 : decode b_M_chance 44 = .ok (.iload_n 1, 1) := by decide +kernel
theorem d_M_chance_45 : decode b_M_chance 45 = .ok (.iload_n 2, 1) := by decide +kernel
theorem d_M_chance_46 : decode b_M_chance 46 = .ok (.if_icmp .ge 7, 3) := by decide +kernel
theorem d_M_chance_49 : decode b_M_chance 49 = .ok (.iload_n 1, 1) := by decide +kernel
theorem d_M_chance_50 : decode b_M_chance 50 = .ok (.goto 4, 3) := by decide +kernel
theorem d_M_chance_53 : decode b_M_chance 53 = .ok (.iload_n 2, 1) := by decide +kernel
theorem d_M_chance_54 : decode b_M_chance 54 = .ok (.istore 5, 2) := by decide +kernel
theorem d_M_chance_56 : decode b_M_chance 56 = .ok (.iload_n 1, 1) := by decide +kernel
theorem d_M_chance_57 : decode b_M_chance 57 = .ok (.iload_n 2, 1) := by decide +kernel
theorem d_M_chance_58 : decode b_M_chance 58 = .ok (.if_icmp .ge 7, 3) := by decide +kernel
theorem d_M_chance_61 : decode b_M_chance 61 = .ok (.iload_n 2, 1) := by decide +kernel
theorem d_M_chance_62 : decode b_M_chance 62 = .ok (.goto 4, 3) := by decide +kernel
theorem d_M_chance_65 : decode b_M_chance 65 = .ok (.iload_n 1, 1) := by decide +kernel
theorem d_M_chance_66 : decode b_M_chance 66 = .ok (.istore 6, 2) := by decide +kernel
theorem d_M_chance_68 : decode b_M_chance 68 = .ok (.iload_n 3, 1) := by decide +kernel
theorem d_M_chance_69 : decode b_M_chance 69 = .ok (.iload 4, 2) := by decide +kernel
theorem d_M_chance_71 : decode b_M_chance 71 = .ok (.if_icmp .ge 7, 3) := by decide +kernel
theorem d_M_chance_74 : decode b_M_chance 74 = .ok (.iload_n 3, 1) := by decide +kernel
theorem d_M_chance_75 : decode b_M_chance 75 = .ok (.goto 5, 3) := by decide +kernel
theorem d_M_chance_78 : decode b_M_chance 78 = .ok (.iload 4, 2) := by decide +kernel
theorem d_M_chance_80 : decode b_M_chance 80 = .ok (.istore 7, 2) := by decide +kernel
theorem d_M_chance_82 : decode b_M_chance 82 = .ok (.iload_n 3, 1) := by decide +kernel
theorem d_M_chance_83 : decode b_M_chance 83 = .ok (.iload 4, 2) := by decide +kernel
theorem d_M_chance_85 : decode b_M_chance 85 = .ok (.if_icmp .ge 8, 3) := by decide +kernel
theorem d_M_chance_88 : decode b_M_chance 88 = .ok (.iload 4, 2) := by decide +kernel
theorem d_M_chance_90 : decode b_M_chance 90 = .ok (.goto 4, 3) := by decide +kernel
theorem d_M_chance_93 : decode b_M_chance 93 = .ok (.iload_n 3, 1) := by decide +kernel
theorem d_M_chance_94 : decode b_M_chance 94 = .ok (.istore 8, 2) := by decide +kernel
theorem d_M_chance_96 : decode b_M_chance 96 = .ok (.aload_n 0, 1) := by decide +kernel
theorem d_M_chance_97 : decode b_M_chance 97 = .ok (.getfield 29, 3) := by decide +kernel
theorem d_M_chance_100 : decode b_M_chance 100 = .ok (.bipush 125, 2) := by decide +kernel
theorem d_M_chance_102 : decode b_M_chance 102 = .ok (.iload 5, 2) := by decide +kernel
theorem d_M_chance_104 : decode b_M_chance 104 = .ok (.imul, 1) := by decide +kernel
theorem d_M_chance_105 : decode b_M_chance 105 = .ok (.bipush 25, 2) := by decide +kernel
theorem d_M_chance_107 : decode b_M_chance 107 = .ok (.iload 6, 2) := by decide +kernel
theorem d_M_chance_109 : decode b_M_chance 109 = .ok (.imul, 1) := by decide +kernel
theorem d_M_chance_110 : decode b_M_chance 110 = .ok (.iadd, 1) := by decide +kernel
theorem d_M_chance_111 : decode b_M_chance 111 = .ok (.iconst 5, 1) := by decide +kernel
theorem d_M_chance_112 : decode b_M_chance 112 = .ok (.iload 7, 2) := by decide +kernel
theorem d_M_chance_114 : decode b_M_chance 114 = .ok (.imul, 1) := by decide +kernel
theorem d_M_chance_115 : decode b_M_chance 115 = .ok (.iadd, 1) := by decide +kernel
theorem d_M_chance_116 : decode b_M_chance 116 = .ok (.iload 8, 2) := by decide +kernel
theorem d_M_chance_118 : decode b_M_chance 118 = .ok (.iadd, 1) := by decide +kernel
theorem d_M_chance_119 : decode b_M_chance 119 = .ok (.laload, 1) := by decide +kernel
theorem d_M_chance_120 : decode b_M_chance 120 = .ok (.lreturn, 1) := by decide +kernel
