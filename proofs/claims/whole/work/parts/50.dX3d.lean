theorem dX3_step_1 : decode cX3_step 1 = .ok (.iconst 0, 1) := by decide +kernel
theorem dX3_step_2 : decode cX3_step 2 = .ok (.putfield 44, 3) := by decide +kernel
theorem dX3_step_5 : decode cX3_step 5 = .ok (.iconst 0, 1) := by decide +kernel
theorem dX3_step_6 : decode cX3_step 6 = .ok (.istore_n 2, 1) := by decide +kernel
theorem dX3_step_7 : decode cX3_step 7 = .ok (.iload_n 2, 1) := by decide +kernel
theorem dX3_step_8 : decode cX3_step 8 = .ok (.iconst 2, 1) := by decide +kernel
theorem dX3_step_9 : decode cX3_step 9 = .ok (.if_icmp .ge 122, 3) := by decide +kernel
theorem dX3_step_12 : decode cX3_step 12 = .ok (.aload_n 0, 1) := by decide +kernel
theorem dX3_step_13 : decode cX3_step 13 = .ok (.iload_n 2, 1) := by decide +kernel
theorem dX3_step_14 : decode cX3_step 14 = .ok (.iload_n 1, 1) := by decide +kernel
theorem dX3_step_15 : decode cX3_step 15 = .ok (.invokevirtual 109, 3) := by decide +kernel
theorem dX3_step_18 : decode cX3_step 18 = .ok (.istore_n 3, 1) := by decide +kernel
theorem dX3_step_19 : decode cX3_step 19 = .ok (.iconst 0, 1) := by decide +kernel
theorem dX3_step_20 : decode cX3_step 20 = .ok (.istore 4, 2) := by decide +kernel
theorem dX3_step_22 : decode cX3_step 22 = .ok (.iload 4, 2) := by decide +kernel
theorem dX3_step_24 : decode cX3_step 24 = .ok (.aload_n 0, 1) := by decide +kernel
theorem dX3_step_25 : decode cX3_step 25 = .ok (.getfield 29, 3) := by decide +kernel
theorem dX3_step_28 : decode cX3_step 28 = .ok (.iload_n 2, 1) := by decide +kernel
theorem dX3_step_29 : decode cX3_step 29 = .ok (.iaload, 1) := by decide +kernel
theorem dX3_step_30 : decode cX3_step 30 = .ok (.if_icmp .ge 38, 3) := by decide +kernel
theorem dX3_step_33 : decode cX3_step 33 = .ok (.aload_n 0, 1) := by decide +kernel
theorem dX3_step_34 : decode cX3_step 34 = .ok (.getfield 35, 3) := by decide +kernel
theorem dX3_step_37 : decode cX3_step 37 = .ok (.bipush 16, 2) := by decide +kernel
theorem dX3_step_39 : decode cX3_step 39 = .ok (.iload_n 2, 1) := by decide +kernel
theorem dX3_step_40 : decode cX3_step 40 = .ok (.imul, 1) := by decide +kernel
theorem dX3_step_41 : decode cX3_step 41 = .ok (.iload 4, 2) := by decide +kernel
theorem dX3_step_43 : decode cX3_step 43 = .ok (.iadd, 1) := by decide +kernel
theorem dX3_step_44 : decode cX3_step 44 = .ok (.aload_n 0, 1) := by decide +kernel
theorem dX3_step_45 : decode cX3_step 45 = .ok (.aload_n 0, 1) := by decide +kernel
theorem dX3_step_46 : decode cX3_step 46 = .ok (.getfield 32, 3) := by decide +kernel
theorem dX3_step_49 : decode cX3_step 49 = .ok (.bipush 16, 2) := by decide +kernel
theorem dX3_step_51 : decode cX3_step 51 = .ok (.iload_n 2, 1) := by decide +kernel
theorem dX3_step_52 : decode cX3_step 52 = .ok (.imul, 1) := by decide +kernel
theorem dX3_step_53 : decode cX3_step 53 = .ok (.iload 4, 2) := by decide +kernel
theorem dX3_step_55 : decode cX3_step 55 = .ok (.iadd, 1) := by decide +kernel
theorem dX3_step_56 : decode cX3_step 56 = .ok (.iaload, 1) := by decide +kernel
theorem dX3_step_57 : decode cX3_step 57 = .ok (.iload_n 3, 1) := by decide +kernel
theorem dX3_step_58 : decode cX3_step 58 = .ok (.invokevirtual 89, 3) := by decide +kernel
theorem dX3_step_61 : decode cX3_step 61 = .ok (.iastore, 1) := by decide +kernel
theorem dX3_step_62 : decode cX3_step 62 = .ok (.iinc 4 1, 3) := by decide +kernel
theorem dX3_step_65 : decode cX3_step 65 = .ok (.goto (-43), 3) := by decide +kernel
theorem dX3_step_68 : decode cX3_step 68 = .ok (.aload_n 0, 1) := by decide +kernel
theorem dX3_step_69 : decode cX3_step 69 = .ok (.getfield 38, 3) := by decide +kernel
theorem dX3_step_72 : decode cX3_step 72 = .ok (.iload_n 2, 1) := by decide +kernel
theorem dX3_step_73 : decode cX3_step 73 = .ok (.aload_n 0, 1) := by decide +kernel
theorem dX3_step_74 : decode cX3_step 74 = .ok (.getfield 29, 3) := by decide +kernel
theorem dX3_step_77 : decode cX3_step 77 = .ok (.iload_n 2, 1) := by decide +kernel
theorem dX3_step_78 : decode cX3_step 78 = .ok (.iaload, 1) := by decide +kernel
theorem dX3_step_79 : decode cX3_step 79 = .ok (.iastore, 1) := by decide +kernel
theorem dX3_step_80 : decode cX3_step 80 = .ok (.iconst 0, 1) := by decide +kernel
theorem dX3_step_81 : decode cX3_step 81 = .ok (.istore 4, 2) := by decide +kernel
theorem dX3_step_83 : decode cX3_step 83 = .ok (.iload 4, 2) := by decide +kernel
theorem dX3_step_85 : decode cX3_step 85 = .ok (.aload_n 0, 1) := by decide +kernel
theorem dX3_step_86 : decode cX3_step 86 = .ok (.getfield 54, 3) := by decide +kernel
theorem dX3_step_89 : decode cX3_step 89 = .ok (.if_icmp .ge 36, 3) := by decide +kernel
theorem dX3_step_92 : decode cX3_step 92 = .ok (.aload_n 0, 1) := by decide +kernel
theorem dX3_step_93 : decode cX3_step 93 = .ok (.getfield 26, 3) := by decide +kernel
theorem dX3_step_96 : decode cX3_step 96 = .ok (.iconst 4, 1) := by decide +kernel
theorem dX3_step_97 : decode cX3_step 97 = .ok (.iload_n 2, 1) := by decide +kernel
theorem dX3_step_98 : decode cX3_step 98 = .ok (.imul, 1) := by decide +kernel
theorem dX3_step_99 : decode cX3_step 99 = .ok (.iload 4, 2) := by decide +kernel
theorem dX3_step_101 : decode cX3_step 101 = .ok (.iadd, 1) := by decide +kernel
theorem dX3_step_102 : decode cX3_step 102 = .ok (.aload_n 0, 1) := by decide +kernel
theorem dX3_step_103 : decode cX3_step 103 = .ok (.aload_n 0, 1) := by decide +kernel
theorem dX3_step_104 : decode cX3_step 104 = .ok (.getfield 23, 3) := by decide +kernel
theorem dX3_step_107 : decode cX3_step 107 = .ok (.iconst 4, 1) := by decide +kernel
theorem dX3_step_108 : decode cX3_step 108 = .ok (.iload_n 2, 1) := by decide +kernel
theorem dX3_step_109 : decode cX3_step 109 = .ok (.imul, 1) := by decide +kernel
theorem dX3_step_110 : decode cX3_step 110 = .ok (.iload 4, 2) := by decide +kernel
theorem dX3_step_112 : decode cX3_step 112 = .ok (.iadd, 1) := by decide +kernel
theorem dX3_step_113 : decode cX3_step 113 = .ok (.iaload, 1) := by decide +kernel
theorem dX3_step_114 : decode cX3_step 114 = .ok (.iload_n 3, 1) := by decide +kernel
theorem dX3_step_115 : decode cX3_step 115 = .ok (.invokevirtual 89, 3) := by decide +kernel
theorem dX3_step_118 : decode cX3_step 118 = .ok (.iastore, 1) := by decide +kernel
theorem dX3_step_119 : decode cX3_step 119 = .ok (.iinc 4 1, 3) := by decide +kernel
theorem dX3_step_122 : decode cX3_step 122 = .ok (.goto (-39), 3) := by decide +kernel
theorem dX3_step_125 : decode cX3_step 125 = .ok (.iinc 2 1, 3) := by decide +kernel
theorem dX3_step_128 : decode cX3_step 128 = .ok (.goto (-121), 3) := by decide +kernel
theorem dX3_step_131 : decode cX3_step 131 = .ok (.iconst 0, 1) := by decide +kernel
theorem dX3_step_132 : decode cX3_step 132 = .ok (.istore_n 2, 1) := by decide +kernel
theorem dX3_step_133 : decode cX3_step 133 = .ok (.iload_n 2, 1) := by decide +kernel
theorem dX3_step_134 : decode cX3_step 134 = .ok (.aload_n 0, 1) := by decide +kernel
theorem dX3_step_135 : decode cX3_step 135 = .ok (.invokevirtual 97, 3) := by decide +kernel
theorem dX3_step_138 : decode cX3_step 138 = .ok (.if_icmp .ge 50, 3) := by decide +kernel
theorem dX3_step_141 : decode cX3_step 141 = .ok (.aload_n 0, 1) := by decide +kernel
theorem dX3_step_142 : decode cX3_step 142 = .ok (.getfield 106, 3) := by decide +kernel
theorem dX3_step_145 : decode cX3_step 145 = .ok (.iconst (-1), 1) := by decide +kernel
theorem dX3_step_146 : decode cX3_step 146 = .ok (.if_icmp .ne 42, 3) := by decide +kernel
theorem dX3_step_149 : decode cX3_step 149 = .ok (.aload_n 0, 1) := by decide +kernel
theorem dX3_step_150 : decode cX3_step 150 = .ok (.aload_n 0, 1) := by decide +kernel
theorem dX3_step_151 : decode cX3_step 151 = .ok (.getfield 35, 3) := by decide +kernel
theorem dX3_step_154 : decode cX3_step 154 = .ok (.iload_n 2, 1) := by decide +kernel
theorem dX3_step_155 : decode cX3_step 155 = .ok (.iaload, 1) := by decide +kernel
theorem dX3_step_156 : decode cX3_step 156 = .ok (.aload_n 0, 1) := by decide +kernel
theorem dX3_step_157 : decode cX3_step 157 = .ok (.getfield 35, 3) := by decide +kernel
theorem dX3_step_160 : decode cX3_step 160 = .ok (.bipush 16, 2) := by decide +kernel
theorem dX3_step_162 : decode cX3_step 162 = .ok (.iload_n 2, 1) := by decide +kernel
theorem dX3_step_163 : decode cX3_step 163 = .ok (.iadd, 1) := by decide +kernel
theorem dX3_step_164 : decode cX3_step 164 = .ok (.iaload, 1) := by decide +kernel
theorem dX3_step_165 : decode cX3_step 165 = .ok (.if_icmp .eq 10, 3) := by decide +kernel
theorem dX3_step_168 : decode cX3_step 168 = .ok (.aload_n 0, 1) := by decide +kernel
theorem dX3_step_169 : decode cX3_step 169 = .ok (.getfield 103, 3) := by decide +kernel
theorem dX3_step_172 : decode cX3_step 172 = .ok (.goto 7, 3) := by decide +kernel
theorem dX3_step_175 : decode cX3_step 175 = .ok (.aload_n 0, 1) := by decide +kernel
theorem dX3_step_176 : decode cX3_step 176 = .ok (.getfield 106, 3) := by decide +kernel
theorem dX3_step_179 : decode cX3_step 179 = .ok (.putfield 106, 3) := by decide +kernel
theorem dX3_step_182 : decode cX3_step 182 = .ok (.iinc 2 1, 3) := by decide +kernel
theorem dX3_step_185 : decode cX3_step 185 = .ok (.goto (-52), 3) := by decide +kernel
theorem dX3_step_188 : decode cX3_step 188 = .ok (.aload_n 0, 1) := by decide +kernel
theorem dX3_step_189 : decode cX3_step 189 = .ok (.dup, 1) := by decide +kernel
theorem dX3_step_190 : decode cX3_step 190 = .ok (.getfield 103, 3) := by decide +kernel
theorem dX3_step_193 : decode cX3_step 193 = .ok (.iconst 1, 1) := by decide +kernel
theorem dX3_step_194 : decode cX3_step 194 = .ok (.iadd, 1) := by decide +kernel
theorem dX3_step_195 : decode cX3_step 195 = .ok (.putfield 103, 3) := by decide +kernel
theorem dX3_step_198 : decode cX3_step 198 = .ok (.aload_n 0, 1) := by decide +kernel
theorem dX3_step_199 : decode cX3_step 199 = .ok (.getfield 103, 3) := by decide +kernel
theorem dX3_step_202 : decode cX3_step 202 = .ok (.ireturn, 1) := by decide +kernel
theorem dX3_out_0 : decode cX3_out 0 = .ok (.aload_n 0, 1) := by decide +kernel
theorem dX3_out_1 : decode cX3_out 1 = .ok (.iload_n 1, 1) := by decide +kernel
theorem dX3_out_2 : decode cX3_out 2 = .ok (.invokestatic 61, 3) := by decide +kernel
theorem dX3_out_5 : decode cX3_out 5 = .ok (.ifCond .eq 20, 3) := by decide +kernel
theorem dX3_out_8 : decode cX3_out 8 = .ok (.iload_n 2, 1) := by decide +kernel
theorem dX3_out_9 : decode cX3_out 9 = .ok (.aload_n 0, 1) := by decide +kernel
theorem dX3_out_10 : decode cX3_out 10 = .ok (.getfield 29, 3) := by decide +kernel
theorem dX3_out_13 : decode cX3_out 13 = .ok (.iload_n 1, 1) := by decide +kernel
theorem dX3_out_14 : decode cX3_out 14 = .ok (.iaload, 1) := by decide +kernel
theorem dX3_out_15 : decode cX3_out 15 = .ok (.invokestatic 77, 3) := by decide +kernel
theorem dX3_out_18 : decode cX3_out 18 = .ok (.ifCond .eq 7, 3) := by decide +kernel
theorem dX3_out_21 : decode cX3_out 21 = .ok (.iconst 0, 1) := by decide +kernel
theorem dX3_out_22 : decode cX3_out 22 = .ok (.goto 4, 3) := by decide +kernel
theorem dX3_out_25 : decode cX3_out 25 = .ok (.iconst 1, 1) := by decide +kernel
theorem dX3_out_26 : decode cX3_out 26 = .ok (.putfield 44, 3) := by decide +kernel
theorem dX3_out_29 : decode cX3_out 29 = .ok (.aload_n 0, 1) := by decide +kernel
theorem dX3_out_30 : decode cX3_out 30 = .ok (.getfield 44, 3) := by decide +kernel
theorem dX3_out_33 : decode cX3_out 33 = .ok (.ifCond .le 7, 3) := by decide +kernel
theorem dX3_out_36 : decode cX3_out 36 = .ok (.iconst 0, 1) := by decide +kernel
theorem dX3_out_37 : decode cX3_out 37 = .ok (.goto 28, 3) := by decide +kernel
theorem dX3_out_40 : decode cX3_out 40 = .ok (.iload_n 2, 1) := by decide +kernel
theorem dX3_out_41 : decode cX3_out 41 = .ok (.aload_n 0, 1) := by decide +kernel
theorem dX3_out_42 : decode cX3_out 42 = .ok (.getfield 38, 3) := by decide +kernel
theorem dX3_out_45 : decode cX3_out 45 = .ok (.iload_n 1, 1) := by decide +kernel
theorem dX3_out_46 : decode cX3_out 46 = .ok (.iaload, 1) := by decide +kernel
theorem dX3_out_47 : decode cX3_out 47 = .ok (.if_icmp .ge 17, 3) := by decide +kernel
theorem dX3_out_50 : decode cX3_out 50 = .ok (.aload_n 0, 1) := by decide +kernel
theorem dX3_out_51 : decode cX3_out 51 = .ok (.getfield 35, 3) := by decide +kernel
theorem dX3_out_54 : decode cX3_out 54 = .ok (.bipush 16, 2) := by decide +kernel
theorem dX3_out_56 : decode cX3_out 56 = .ok (.iload_n 1, 1) := by decide +kernel
theorem dX3_out_57 : decode cX3_out 57 = .ok (.imul, 1) := by decide +kernel
theorem dX3_out_58 : decode cX3_out 58 = .ok (.iload_n 2, 1) := by decide +kernel
theorem dX3_out_59 : decode cX3_out 59 = .ok (.iadd, 1) := by decide +kernel
theorem dX3_out_60 : decode cX3_out 60 = .ok (.iaload, 1) := by decide +kernel
theorem dX3_out_61 : decode cX3_out 61 = .ok (.goto 4, 3) := by decide +kernel
theorem dX3_out_64 : decode cX3_out 64 = .ok (.iconst (-1), 1) := by decide +kernel
theorem dX3_out_65 : decode cX3_out 65 = .ok (.ireturn, 1) := by decide +kernel
theorem dX3_state_0 : decode cX3_state 0 = .ok (.aload_n 0, 1) := by decide +kernel
theorem dX3_state_1 : decode cX3_state 1 = .ok (.iload_n 1, 1) := by decide +kernel
theorem dX3_state_2 : decode cX3_state 2 = .ok (.invokestatic 61, 3) := by decide +kernel
theorem dX3_state_5 : decode cX3_state 5 = .ok (.ifCond .eq 18, 3) := by decide +kernel
theorem dX3_state_8 : decode cX3_state 8 = .ok (.iload_n 2, 1) := by decide +kernel
theorem dX3_state_9 : decode cX3_state 9 = .ok (.aload_n 0, 1) := by decide +kernel
theorem dX3_state_10 : decode cX3_state 10 = .ok (.getfield 54, 3) := by decide +kernel
theorem dX3_state_13 : decode cX3_state 13 = .ok (.invokestatic 77, 3) := by decide +kernel
theorem dX3_state_16 : decode cX3_state 16 = .ok (.ifCond .eq 7, 3) := by decide +kernel
theorem dX3_state_19 : decode cX3_state 19 = .ok (.iconst 0, 1) := by decide +kernel
theorem dX3_state_20 : decode cX3_state 20 = .ok (.goto 4, 3) := by decide +kernel
theorem dX3_state_23 : decode cX3_state 23 = .ok (.iconst 1, 1) := by decide +kernel
theorem dX3_state_24 : decode cX3_state 24 = .ok (.putfield 44, 3) := by decide +kernel
theorem dX3_state_27 : decode cX3_state 27 = .ok (.aload_n 0, 1) := by decide +kernel
theorem dX3_state_28 : decode cX3_state 28 = .ok (.getfield 44, 3) := by decide +kernel
theorem dX3_state_31 : decode cX3_state 31 = .ok (.ifCond .le 7, 3) := by decide +kernel
theorem dX3_state_34 : decode cX3_state 34 = .ok (.iconst 0, 1) := by decide +kernel
theorem dX3_state_35 : decode cX3_state 35 = .ok (.goto 13, 3) := by decide +kernel
theorem dX3_state_38 : decode cX3_state 38 = .ok (.aload_n 0, 1) := by decide +kernel
theorem dX3_state_39 : decode cX3_state 39 = .ok (.getfield 26, 3) := by decide +kernel
theorem dX3_state_42 : decode cX3_state 42 = .ok (.iconst 4, 1) := by decide +kernel
theorem dX3_state_43 : decode cX3_state 43 = .ok (.iload_n 1, 1) := by decide +kernel
theorem dX3_state_44 : decode cX3_state 44 = .ok (.imul, 1) := by decide +kernel
theorem dX3_state_45 : decode cX3_state 45 = .ok (.iload_n 2, 1) := by decide +kernel
theorem dX3_state_46 : decode cX3_state 46 = .ok (.iadd, 1) := by decide +kernel
theorem dX3_state_47 : decode cX3_state 47 = .ok (.iaload, 1) := by decide +kernel
theorem dX3_state_48 : decode cX3_state 48 = .ok (.ireturn, 1) := by decide +kernel
theorem dX3_apart_0 : decode cX3_apart 0 = .ok (.aload_n 0, 1) := by decide +kernel
theorem dX3_apart_1 : decode cX3_apart 1 = .ok (.iconst 0, 1) := by decide +kernel
theorem dX3_apart_2 : decode cX3_apart 2 = .ok (.putfield 44, 3) := by decide +kernel
theorem dX3_apart_5 : decode cX3_apart 5 = .ok (.aload_n 0, 1) := by decide +kernel
theorem dX3_apart_6 : decode cX3_apart 6 = .ok (.getfield 106, 3) := by decide +kernel
theorem dX3_apart_9 : decode cX3_apart 9 = .ok (.ireturn, 1) := by decide +kernel
theorem dX3_ands_0 : decode cX3_ands 0 = .ok (.iconst 0, 1) := by decide +kernel
theorem dX3_ands_1 : decode cX3_ands 1 = .ok (.istore_n 2, 1) := by decide +kernel
theorem dX3_ands_2 : decode cX3_ands 2 = .ok (.iconst 0, 1) := by decide +kernel
theorem dX3_ands_3 : decode cX3_ands 3 = .ok (.istore_n 3, 1) := by decide +kernel
theorem dX3_ands_4 : decode cX3_ands 4 = .ok (.iload_n 3, 1) := by decide +kernel
theorem dX3_ands_5 : decode cX3_ands 5 = .ok (.aload_n 0, 1) := by decide +kernel
theorem dX3_ands_6 : decode cX3_ands 6 = .ok (.getfield 48, 3) := by decide +kernel
theorem dX3_ands_9 : decode cX3_ands 9 = .ok (.if_icmp .ge 27, 3) := by decide +kernel
theorem dX3_ands_12 : decode cX3_ands 12 = .ok (.aload_n 0, 1) := by decide +kernel
theorem dX3_ands_13 : decode cX3_ands 13 = .ok (.getfield 7, 3) := by decide +kernel
theorem dX3_ands_16 : decode cX3_ands 16 = .ok (.iload_n 3, 1) := by decide +kernel
theorem dX3_ands_17 : decode cX3_ands 17 = .ok (.iaload, 1) := by decide +kernel
theorem dX3_ands_18 : decode cX3_ands 18 = .ok (.iload_n 1, 1) := by decide +kernel
theorem dX3_ands_19 : decode cX3_ands 19 = .ok (.if_icmp .ne 9, 3) := by decide +kernel
theorem dX3_ands_22 : decode cX3_ands 22 = .ok (.iload_n 2, 1) := by decide +kernel
theorem dX3_ands_23 : decode cX3_ands 23 = .ok (.iconst 1, 1) := by decide +kernel
theorem dX3_ands_24 : decode cX3_ands 24 = .ok (.iadd, 1) := by decide +kernel
theorem dX3_ands_25 : decode cX3_ands 25 = .ok (.goto 4, 3) := by decide +kernel
theorem dX3_ands_28 : decode cX3_ands 28 = .ok (.iload_n 2, 1) := by decide +kernel
theorem dX3_ands_29 : decode cX3_ands 29 = .ok (.istore_n 2, 1) := by decide +kernel
theorem dX3_ands_30 : decode cX3_ands 30 = .ok (.iinc 3 1, 3) := by decide +kernel
theorem dX3_ands_33 : decode cX3_ands 33 = .ok (.goto (-29), 3) := by decide +kernel
theorem dX3_ands_36 : decode cX3_ands 36 = .ok (.iload_n 2, 1) := by decide +kernel
theorem dX3_ands_37 : decode cX3_ands 37 = .ok (.ireturn, 1) := by decide +kernel
theorem dX3_count_0 : decode cX3_count 0 = .ok (.aload_n 0, 1) := by decide +kernel
theorem dX3_count_1 : decode cX3_count 1 = .ok (.iload_n 1, 1) := by decide +kernel
theorem dX3_count_2 : decode cX3_count 2 = .ok (.bipush 7, 2) := by decide +kernel
theorem dX3_count_4 : decode cX3_count 4 = .ok (.invokestatic 77, 3) := by decide +kernel
theorem dX3_count_7 : decode cX3_count 7 = .ok (.ifCond .eq 7, 3) := by decide +kernel
theorem dX3_count_10 : decode cX3_count 10 = .ok (.iconst 0, 1) := by decide +kernel
theorem dX3_count_11 : decode cX3_count 11 = .ok (.goto 4, 3) := by decide +kernel
theorem dX3_count_14 : decode cX3_count 14 = .ok (.iconst 1, 1) := by decide +kernel
theorem dX3_count_15 : decode cX3_count 15 = .ok (.putfield 44, 3) := by decide +kernel
theorem dX3_count_18 : decode cX3_count 18 = .ok (.iload_n 1, 1) := by decide +kernel
theorem dX3_count_19 : decode cX3_count 19 = .ok (.tableswitch 82 0 6 #[41, 46, 51, 56, 62, 68, 75], 41) := by decide +kernel
theorem dX3_count_60 : decode cX3_count 60 = .ok (.aload_n 0, 1) := by decide +kernel
theorem dX3_count_61 : decode cX3_count 61 = .ok (.getfield 48, 3) := by decide +kernel
theorem dX3_count_64 : decode cX3_count 64 = .ok (.ireturn, 1) := by decide +kernel
theorem dX3_count_65 : decode cX3_count 65 = .ok (.aload_n 0, 1) := by decide +kernel
theorem dX3_count_66 : decode cX3_count 66 = .ok (.getfield 51, 3) := by decide +kernel
theorem dX3_count_69 : decode cX3_count 69 = .ok (.ireturn, 1) := by decide +kernel
theorem dX3_count_70 : decode cX3_count 70 = .ok (.aload_n 0, 1) := by decide +kernel
theorem dX3_count_71 : decode cX3_count 71 = .ok (.getfield 54, 3) := by decide +kernel
theorem dX3_count_74 : decode cX3_count 74 = .ok (.ireturn, 1) := by decide +kernel
theorem dX3_count_75 : decode cX3_count 75 = .ok (.aload_n 0, 1) := by decide +kernel
theorem dX3_count_76 : decode cX3_count 76 = .ok (.iconst 0, 1) := by decide +kernel
theorem dX3_count_77 : decode cX3_count 77 = .ok (.invokevirtual 112, 3) := by decide +kernel
theorem dX3_count_80 : decode cX3_count 80 = .ok (.ireturn, 1) := by decide +kernel
theorem dX3_count_81 : decode cX3_count 81 = .ok (.aload_n 0, 1) := by decide +kernel
theorem dX3_count_82 : decode cX3_count 82 = .ok (.iconst 1, 1) := by decide +kernel
theorem dX3_count_83 : decode cX3_count 83 = .ok (.invokevirtual 112, 3) := by decide +kernel
theorem dX3_count_86 : decode cX3_count 86 = .ok (.ireturn, 1) := by decide +kernel
theorem dX3_count_87 : decode cX3_count 87 = .ok (.aload_n 0, 1) := by decide +kernel
theorem dX3_count_88 : decode cX3_count 88 = .ok (.getfield 29, 3) := by decide +kernel
theorem dX3_count_91 : decode cX3_count 91 = .ok (.iconst 0, 1) := by decide +kernel
theorem dX3_count_92 : decode cX3_count 92 = .ok (.iaload, 1) := by decide +kernel
theorem dX3_count_93 : decode cX3_count 93 = .ok (.ireturn, 1) := by decide +kernel
theorem dX3_count_94 : decode cX3_count 94 = .ok (.aload_n 0, 1) := by decide +kernel
theorem dX3_count_95 : decode cX3_count 95 = .ok (.getfield 29, 3) := by decide +kernel
theorem dX3_count_98 : decode cX3_count 98 = .ok (.iconst 1, 1) := by decide +kernel
theorem dX3_count_99 : decode cX3_count 99 = .ok (.iaload, 1) := by decide +kernel
theorem dX3_count_100 : decode cX3_count 100 = .ok (.ireturn, 1) := by decide +kernel
theorem dX3_count_101 : decode cX3_count 101 = .ok (.iconst 0, 1) := by decide +kernel
theorem dX3_count_102 : decode cX3_count 102 = .ok (.ireturn, 1) := by decide +kernel
theorem dX3_clear_0 : decode cX3_clear 0 = .ok (.aload_n 0, 1) := by decide +kernel
theorem dX3_clear_1 : decode cX3_clear 1 = .ok (.iconst 0, 1) := by decide +kernel
theorem dX3_clear_2 : decode cX3_clear 2 = .ok (.putfield 44, 3) := by decide +kernel
theorem dX3_clear_5 : decode cX3_clear 5 = .ok (.aload_n 0, 1) := by decide +kernel
theorem dX3_clear_6 : decode cX3_clear 6 = .ok (.iconst 1, 1) := by decide +kernel
theorem dX3_clear_7 : decode cX3_clear 7 = .ok (.putfield 48, 3) := by decide +kernel
theorem dX3_clear_10 : decode cX3_clear 10 = .ok (.aload_n 0, 1) := by decide +kernel
theorem dX3_clear_11 : decode cX3_clear 11 = .ok (.getfield 7, 3) := by decide +kernel
theorem dX3_clear_14 : decode cX3_clear 14 = .ok (.iconst 0, 1) := by decide +kernel
theorem dX3_clear_15 : decode cX3_clear 15 = .ok (.iconst (-1), 1) := by decide +kernel
theorem dX3_clear_16 : decode cX3_clear 16 = .ok (.iastore, 1) := by decide +kernel
theorem dX3_clear_17 : decode cX3_clear 17 = .ok (.iconst 0, 1) := by decide +kernel
theorem dX3_clear_18 : decode cX3_clear 18 = .ok (.istore_n 1, 1) := by decide +kernel
theorem dX3_clear_19 : decode cX3_clear 19 = .ok (.iload_n 1, 1) := by decide +kernel
theorem dX3_clear_20 : decode cX3_clear 20 = .ok (.bipush 64, 2) := by decide +kernel
theorem dX3_clear_22 : decode cX3_clear 22 = .ok (.if_icmp .ge 16, 3) := by decide +kernel
theorem dX3_clear_25 : decode cX3_clear 25 = .ok (.aload_n 0, 1) := by decide +kernel
theorem dX3_clear_26 : decode cX3_clear 26 = .ok (.getfield 13, 3) := by decide +kernel
theorem dX3_clear_29 : decode cX3_clear 29 = .ok (.iload_n 1, 1) := by decide +kernel
theorem dX3_clear_30 : decode cX3_clear 30 = .ok (.lconst 0, 1) := by decide +kernel
theorem dX3_clear_31 : decode cX3_clear 31 = .ok (.lastore, 1) := by decide +kernel
theorem dX3_clear_32 : decode cX3_clear 32 = .ok (.iinc 1 1, 3) := by decide +kernel
theorem dX3_clear_35 : decode cX3_clear 35 = .ok (.goto (-16), 3) := by decide +kernel
theorem dX3_clear_38 : decode cX3_clear 38 = .ok (.aload_n 0, 1) := by decide +kernel
theorem dX3_clear_39 : decode cX3_clear 39 = .ok (.iconst 0, 1) := by decide +kernel
theorem dX3_clear_40 : decode cX3_clear 40 = .ok (.putfield 51, 3) := by decide +kernel
theorem dX3_clear_43 : decode cX3_clear 43 = .ok (.aload_n 0, 1) := by decide +kernel
theorem dX3_clear_44 : decode cX3_clear 44 = .ok (.iconst 0, 1) := by decide +kernel
theorem dX3_clear_45 : decode cX3_clear 45 = .ok (.putfield 54, 3) := by decide +kernel
theorem dX3_clear_48 : decode cX3_clear 48 = .ok (.aload_n 0, 1) := by decide +kernel
theorem dX3_clear_49 : decode cX3_clear 49 = .ok (.getfield 29, 3) := by decide +kernel
theorem dX3_clear_52 : decode cX3_clear 52 = .ok (.iconst 0, 1) := by decide +kernel
theorem dX3_clear_53 : decode cX3_clear 53 = .ok (.iconst 0, 1) := by decide +kernel
theorem dX3_clear_54 : decode cX3_clear 54 = .ok (.iastore, 1) := by decide +kernel
theorem dX3_clear_55 : decode cX3_clear 55 = .ok (.aload_n 0, 1) := by decide +kernel
theorem dX3_clear_56 : decode cX3_clear 56 = .ok (.getfield 29, 3) := by decide +kernel
theorem dX3_clear_59 : decode cX3_clear 59 = .ok (.iconst 1, 1) := by decide +kernel
theorem dX3_clear_60 : decode cX3_clear 60 = .ok (.iconst 0, 1) := by decide +kernel
theorem dX3_clear_61 : decode cX3_clear 61 = .ok (.iastore, 1) := by decide +kernel
theorem dX3_clear_62 : decode cX3_clear 62 = .ok (.aload_n 0, 1) := by decide +kernel
theorem dX3_clear_63 : decode cX3_clear 63 = .ok (.invokevirtual 65, 3) := by decide +kernel
theorem dX3_clear_66 : decode cX3_clear 66 = .ok (.return_, 1) := by decide +kernel
