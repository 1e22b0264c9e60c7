theorem dX3_and_144 : decode cX3_and 144 = .ok (.iadd, 1) := by decide +kernel
theorem dX3_and_145 : decode cX3_and 145 = .ok (.aload_n 0, 1) := by decide +kernel
theorem dX3_and_146 : decode cX3_and 146 = .ok (.getfield 13, 3) := by decide +kernel
theorem dX3_and_149 : decode cX3_and 149 = .ok (.bipush 64, 2) := by decide +kernel
theorem dX3_and_151 : decode cX3_and 151 = .ok (.iload_n 2, 1) := by decide +kernel
theorem dX3_and_152 : decode cX3_and 152 = .ok (.iconst 2, 1) := by decide +kernel
theorem dX3_and_153 : decode cX3_and 153 = .ok (.idiv, 1) := by decide +kernel
theorem dX3_and_154 : decode cX3_and 154 = .ok (.imul, 1) := by decide +kernel
theorem dX3_and_155 : decode cX3_and 155 = .ok (.iload 9, 2) := by decide +kernel
theorem dX3_and_157 : decode cX3_and 157 = .ok (.iadd, 1) := by decide +kernel
theorem dX3_and_158 : decode cX3_and 158 = .ok (.laload, 1) := by decide +kernel
theorem dX3_and_159 : decode cX3_and 159 = .ok (.lload 5, 2) := by decide +kernel
theorem dX3_and_161 : decode cX3_and 161 = .ok (.lxor, 1) := by decide +kernel
theorem dX3_and_162 : decode cX3_and 162 = .ok (.aload_n 0, 1) := by decide +kernel
theorem dX3_and_163 : decode cX3_and 163 = .ok (.getfield 13, 3) := by decide +kernel
theorem dX3_and_166 : decode cX3_and 166 = .ok (.bipush 64, 2) := by decide +kernel
theorem dX3_and_168 : decode cX3_and 168 = .ok (.iload_n 3, 1) := by decide +kernel
theorem dX3_and_169 : decode cX3_and 169 = .ok (.iconst 2, 1) := by decide +kernel
theorem dX3_and_170 : decode cX3_and 170 = .ok (.idiv, 1) := by decide +kernel
theorem dX3_and_171 : decode cX3_and 171 = .ok (.imul, 1) := by decide +kernel
theorem dX3_and_172 : decode cX3_and 172 = .ok (.iload 9, 2) := by decide +kernel
theorem dX3_and_174 : decode cX3_and 174 = .ok (.iadd, 1) := by decide +kernel
theorem dX3_and_175 : decode cX3_and 175 = .ok (.laload, 1) := by decide +kernel
theorem dX3_and_176 : decode cX3_and 176 = .ok (.lload 7, 2) := by decide +kernel
theorem dX3_and_178 : decode cX3_and 178 = .ok (.lxor, 1) := by decide +kernel
theorem dX3_and_179 : decode cX3_and 179 = .ok (.land, 1) := by decide +kernel
theorem dX3_and_180 : decode cX3_and 180 = .ok (.lastore, 1) := by decide +kernel
theorem dX3_and_181 : decode cX3_and 181 = .ok (.iinc 9 1, 3) := by decide +kernel
theorem dX3_and_184 : decode cX3_and 184 = .ok (.goto (-60), 3) := by decide +kernel
theorem dX3_and_187 : decode cX3_and 187 = .ok (.aload_n 0, 1) := by decide +kernel
theorem dX3_and_188 : decode cX3_and 188 = .ok (.getfield 7, 3) := by decide +kernel
theorem dX3_and_191 : decode cX3_and 191 = .ok (.aload_n 0, 1) := by decide +kernel
theorem dX3_and_192 : decode cX3_and 192 = .ok (.getfield 48, 3) := by decide +kernel
theorem dX3_and_195 : decode cX3_and 195 = .ok (.iload_n 1, 1) := by decide +kernel
theorem dX3_and_196 : decode cX3_and 196 = .ok (.iastore, 1) := by decide +kernel
theorem dX3_and_197 : decode cX3_and 197 = .ok (.aload_n 0, 1) := by decide +kernel
theorem dX3_and_198 : decode cX3_and 198 = .ok (.dup, 1) := by decide +kernel
theorem dX3_and_199 : decode cX3_and 199 = .ok (.getfield 48, 3) := by decide +kernel
theorem dX3_and_202 : decode cX3_and 202 = .ok (.iconst 1, 1) := by decide +kernel
theorem dX3_and_203 : decode cX3_and 203 = .ok (.iadd, 1) := by decide +kernel
theorem dX3_and_204 : decode cX3_and 204 = .ok (.putfield 48, 3) := by decide +kernel
theorem dX3_and_207 : decode cX3_and 207 = .ok (.iconst 2, 1) := by decide +kernel
theorem dX3_and_208 : decode cX3_and 208 = .ok (.aload_n 0, 1) := by decide +kernel
theorem dX3_and_209 : decode cX3_and 209 = .ok (.getfield 48, 3) := by decide +kernel
theorem dX3_and_212 : decode cX3_and 212 = .ok (.imul, 1) := by decide +kernel
theorem dX3_and_213 : decode cX3_and 213 = .ok (.iconst 2, 1) := by decide +kernel
theorem dX3_and_214 : decode cX3_and 214 = .ok (.isub, 1) := by decide +kernel
theorem dX3_and_215 : decode cX3_and 215 = .ok (.ireturn, 1) := by decide +kernel
theorem dX3_output_0 : decode cX3_output 0 = .ok (.iload_n 1, 1) := by decide +kernel
theorem dX3_output_1 : decode cX3_output 1 = .ok (.invokestatic 61, 3) := by decide +kernel
theorem dX3_output_4 : decode cX3_output 4 = .ok (.ifCond .eq 15, 3) := by decide +kernel
theorem dX3_output_7 : decode cX3_output 7 = .ok (.aload_n 0, 1) := by decide +kernel
theorem dX3_output_8 : decode cX3_output 8 = .ok (.iload_n 2, 1) := by decide +kernel
theorem dX3_output_9 : decode cX3_output 9 = .ok (.invokevirtual 68, 3) := by decide +kernel
theorem dX3_output_12 : decode cX3_output 12 = .ok (.ifCond .eq 7, 3) := by decide +kernel
theorem dX3_output_15 : decode cX3_output 15 = .ok (.iconst 1, 1) := by decide +kernel
theorem dX3_output_16 : decode cX3_output 16 = .ok (.goto 4, 3) := by decide +kernel
theorem dX3_output_19 : decode cX3_output 19 = .ok (.iconst 0, 1) := by decide +kernel
theorem dX3_output_20 : decode cX3_output 20 = .ok (.istore_n 3, 1) := by decide +kernel
theorem dX3_output_21 : decode cX3_output 21 = .ok (.aload_n 0, 1) := by decide +kernel
theorem dX3_output_22 : decode cX3_output 22 = .ok (.iload_n 3, 1) := by decide +kernel
theorem dX3_output_23 : decode cX3_output 23 = .ok (.ifCond .ne 7, 3) := by decide +kernel
theorem dX3_output_26 : decode cX3_output 26 = .ok (.iconst 1, 1) := by decide +kernel
theorem dX3_output_27 : decode cX3_output 27 = .ok (.goto 32, 3) := by decide +kernel
theorem dX3_output_30 : decode cX3_output 30 = .ok (.aload_n 0, 1) := by decide +kernel
theorem dX3_output_31 : decode cX3_output 31 = .ok (.getfield 29, 3) := by decide +kernel
theorem dX3_output_34 : decode cX3_output 34 = .ok (.iload_n 1, 1) := by decide +kernel
theorem dX3_output_35 : decode cX3_output 35 = .ok (.iaload, 1) := by decide +kernel
theorem dX3_output_36 : decode cX3_output 36 = .ok (.bipush 16, 2) := by decide +kernel
theorem dX3_output_38 : decode cX3_output 38 = .ok (.if_icmp .ne 7, 3) := by decide +kernel
theorem dX3_output_41 : decode cX3_output 41 = .ok (.iconst 2, 1) := by decide +kernel
theorem dX3_output_42 : decode cX3_output 42 = .ok (.goto 17, 3) := by decide +kernel
theorem dX3_output_45 : decode cX3_output 45 = .ok (.aload_n 0, 1) := by decide +kernel
theorem dX3_output_46 : decode cX3_output 46 = .ok (.iload_n 1, 1) := by decide +kernel
theorem dX3_output_47 : decode cX3_output 47 = .ok (.iload_n 2, 1) := by decide +kernel
theorem dX3_output_48 : decode cX3_output 48 = .ok (.invokevirtual 71, 3) := by decide +kernel
theorem dX3_output_51 : decode cX3_output 51 = .ok (.ifCond .eq 7, 3) := by decide +kernel
theorem dX3_output_54 : decode cX3_output 54 = .ok (.iconst 3, 1) := by decide +kernel
theorem dX3_output_55 : decode cX3_output 55 = .ok (.goto 4, 3) := by decide +kernel
theorem dX3_output_58 : decode cX3_output 58 = .ok (.iconst 0, 1) := by decide +kernel
theorem dX3_output_59 : decode cX3_output 59 = .ok (.putfield 44, 3) := by decide +kernel
theorem dX3_output_62 : decode cX3_output 62 = .ok (.aload_n 0, 1) := by decide +kernel
theorem dX3_output_63 : decode cX3_output 63 = .ok (.getfield 44, 3) := by decide +kernel
theorem dX3_output_66 : decode cX3_output 66 = .ok (.ifCond .le 5, 3) := by decide +kernel
theorem dX3_output_69 : decode cX3_output 69 = .ok (.iconst 0, 1) := by decide +kernel
theorem dX3_output_70 : decode cX3_output 70 = .ok (.ireturn, 1) := by decide +kernel
theorem dX3_output_71 : decode cX3_output 71 = .ok (.aload_n 0, 1) := by decide +kernel
theorem dX3_output_72 : decode cX3_output 72 = .ok (.getfield 32, 3) := by decide +kernel
theorem dX3_output_75 : decode cX3_output 75 = .ok (.bipush 16, 2) := by decide +kernel
theorem dX3_output_77 : decode cX3_output 77 = .ok (.iload_n 1, 1) := by decide +kernel
theorem dX3_output_78 : decode cX3_output 78 = .ok (.imul, 1) := by decide +kernel
theorem dX3_output_79 : decode cX3_output 79 = .ok (.aload_n 0, 1) := by decide +kernel
theorem dX3_output_80 : decode cX3_output 80 = .ok (.getfield 29, 3) := by decide +kernel
theorem dX3_output_83 : decode cX3_output 83 = .ok (.iload_n 1, 1) := by decide +kernel
theorem dX3_output_84 : decode cX3_output 84 = .ok (.iaload, 1) := by decide +kernel
theorem dX3_output_85 : decode cX3_output 85 = .ok (.iadd, 1) := by decide +kernel
theorem dX3_output_86 : decode cX3_output 86 = .ok (.iload_n 2, 1) := by decide +kernel
theorem dX3_output_87 : decode cX3_output 87 = .ok (.iastore, 1) := by decide +kernel
theorem dX3_output_88 : decode cX3_output 88 = .ok (.aload_n 0, 1) := by decide +kernel
theorem dX3_output_89 : decode cX3_output 89 = .ok (.getfield 29, 3) := by decide +kernel
theorem dX3_output_92 : decode cX3_output 92 = .ok (.iload_n 1, 1) := by decide +kernel
theorem dX3_output_93 : decode cX3_output 93 = .ok (.dup2, 1) := by decide +kernel
theorem dX3_output_94 : decode cX3_output 94 = .ok (.iaload, 1) := by decide +kernel
theorem dX3_output_95 : decode cX3_output 95 = .ok (.iconst 1, 1) := by decide +kernel
theorem dX3_output_96 : decode cX3_output 96 = .ok (.iadd, 1) := by decide +kernel
theorem dX3_output_97 : decode cX3_output 97 = .ok (.iastore, 1) := by decide +kernel
theorem dX3_output_98 : decode cX3_output 98 = .ok (.aload_n 0, 1) := by decide +kernel
theorem dX3_output_99 : decode cX3_output 99 = .ok (.getfield 29, 3) := by decide +kernel
theorem dX3_output_102 : decode cX3_output 102 = .ok (.iload_n 1, 1) := by decide +kernel
theorem dX3_output_103 : decode cX3_output 103 = .ok (.iaload, 1) := by decide +kernel
theorem dX3_output_104 : decode cX3_output 104 = .ok (.iconst 1, 1) := by decide +kernel
theorem dX3_output_105 : decode cX3_output 105 = .ok (.isub, 1) := by decide +kernel
theorem dX3_output_106 : decode cX3_output 106 = .ok (.ireturn, 1) := by decide +kernel
theorem dX3_next_0 : decode cX3_next 0 = .ok (.iload_n 1, 1) := by decide +kernel
theorem dX3_next_1 : decode cX3_next 1 = .ok (.invokestatic 61, 3) := by decide +kernel
theorem dX3_next_4 : decode cX3_next 4 = .ok (.ifCond .eq 26, 3) := by decide +kernel
theorem dX3_next_7 : decode cX3_next 7 = .ok (.iload_n 2, 1) := by decide +kernel
theorem dX3_next_8 : decode cX3_next 8 = .ok (.aload_n 0, 1) := by decide +kernel
theorem dX3_next_9 : decode cX3_next 9 = .ok (.getfield 54, 3) := by decide +kernel
theorem dX3_next_12 : decode cX3_next 12 = .ok (.invokestatic 77, 3) := by decide +kernel
theorem dX3_next_15 : decode cX3_next 15 = .ok (.ifCond .eq 15, 3) := by decide +kernel
theorem dX3_next_18 : decode cX3_next 18 = .ok (.aload_n 0, 1) := by decide +kernel
theorem dX3_next_19 : decode cX3_next 19 = .ok (.iload_n 3, 1) := by decide +kernel
theorem dX3_next_20 : decode cX3_next 20 = .ok (.invokevirtual 68, 3) := by decide +kernel
theorem dX3_next_23 : decode cX3_next 23 = .ok (.ifCond .eq 7, 3) := by decide +kernel
theorem dX3_next_26 : decode cX3_next 26 = .ok (.iconst 1, 1) := by decide +kernel
theorem dX3_next_27 : decode cX3_next 27 = .ok (.goto 4, 3) := by decide +kernel
theorem dX3_next_30 : decode cX3_next 30 = .ok (.iconst 0, 1) := by decide +kernel
theorem dX3_next_31 : decode cX3_next 31 = .ok (.istore 4, 2) := by decide +kernel
theorem dX3_next_33 : decode cX3_next 33 = .ok (.aload_n 0, 1) := by decide +kernel
theorem dX3_next_34 : decode cX3_next 34 = .ok (.iload 4, 2) := by decide +kernel
theorem dX3_next_36 : decode cX3_next 36 = .ok (.ifCond .ne 7, 3) := by decide +kernel
theorem dX3_next_39 : decode cX3_next 39 = .ok (.iconst 1, 1) := by decide +kernel
theorem dX3_next_40 : decode cX3_next 40 = .ok (.goto 17, 3) := by decide +kernel
theorem dX3_next_43 : decode cX3_next 43 = .ok (.aload_n 0, 1) := by decide +kernel
theorem dX3_next_44 : decode cX3_next 44 = .ok (.iload_n 1, 1) := by decide +kernel
theorem dX3_next_45 : decode cX3_next 45 = .ok (.iload_n 3, 1) := by decide +kernel
theorem dX3_next_46 : decode cX3_next 46 = .ok (.invokevirtual 71, 3) := by decide +kernel
theorem dX3_next_49 : decode cX3_next 49 = .ok (.ifCond .eq 7, 3) := by decide +kernel
theorem dX3_next_52 : decode cX3_next 52 = .ok (.iconst 2, 1) := by decide +kernel
theorem dX3_next_53 : decode cX3_next 53 = .ok (.goto 4, 3) := by decide +kernel
theorem dX3_next_56 : decode cX3_next 56 = .ok (.iconst 0, 1) := by decide +kernel
theorem dX3_next_57 : decode cX3_next 57 = .ok (.putfield 44, 3) := by decide +kernel
theorem dX3_next_60 : decode cX3_next 60 = .ok (.aload_n 0, 1) := by decide +kernel
theorem dX3_next_61 : decode cX3_next 61 = .ok (.getfield 44, 3) := by decide +kernel
theorem dX3_next_64 : decode cX3_next 64 = .ok (.ifCond .le 5, 3) := by decide +kernel
theorem dX3_next_67 : decode cX3_next 67 = .ok (.iconst 0, 1) := by decide +kernel
theorem dX3_next_68 : decode cX3_next 68 = .ok (.ireturn, 1) := by decide +kernel
theorem dX3_next_69 : decode cX3_next 69 = .ok (.aload_n 0, 1) := by decide +kernel
theorem dX3_next_70 : decode cX3_next 70 = .ok (.getfield 23, 3) := by decide +kernel
theorem dX3_next_73 : decode cX3_next 73 = .ok (.iconst 4, 1) := by decide +kernel
theorem dX3_next_74 : decode cX3_next 74 = .ok (.iload_n 1, 1) := by decide +kernel
theorem dX3_next_75 : decode cX3_next 75 = .ok (.imul, 1) := by decide +kernel
theorem dX3_next_76 : decode cX3_next 76 = .ok (.iload_n 2, 1) := by decide +kernel
theorem dX3_next_77 : decode cX3_next 77 = .ok (.iadd, 1) := by decide +kernel
theorem dX3_next_78 : decode cX3_next 78 = .ok (.iaload, 1) := by decide +kernel
theorem dX3_next_79 : decode cX3_next 79 = .ok (.istore 5, 2) := by decide +kernel
theorem dX3_next_81 : decode cX3_next 81 = .ok (.aload_n 0, 1) := by decide +kernel
theorem dX3_next_82 : decode cX3_next 82 = .ok (.getfield 23, 3) := by decide +kernel
theorem dX3_next_85 : decode cX3_next 85 = .ok (.iconst 4, 1) := by decide +kernel
theorem dX3_next_86 : decode cX3_next 86 = .ok (.iload_n 1, 1) := by decide +kernel
theorem dX3_next_87 : decode cX3_next 87 = .ok (.imul, 1) := by decide +kernel
theorem dX3_next_88 : decode cX3_next 88 = .ok (.iload_n 2, 1) := by decide +kernel
theorem dX3_next_89 : decode cX3_next 89 = .ok (.iadd, 1) := by decide +kernel
theorem dX3_next_90 : decode cX3_next 90 = .ok (.iload_n 3, 1) := by decide +kernel
theorem dX3_next_91 : decode cX3_next 91 = .ok (.iastore, 1) := by decide +kernel
theorem dX3_next_92 : decode cX3_next 92 = .ok (.iload 5, 2) := by decide +kernel
theorem dX3_next_94 : decode cX3_next 94 = .ok (.ireturn, 1) := by decide +kernel
theorem dX3_areSame_0 : decode cX3_areSame 0 = .ok (.iload_n 1, 1) := by decide +kernel
theorem dX3_areSame_1 : decode cX3_areSame 1 = .ok (.iconst 1, 1) := by decide +kernel
theorem dX3_areSame_2 : decode cX3_areSame 2 = .ok (.iand, 1) := by decide +kernel
theorem dX3_areSame_3 : decode cX3_areSame 3 = .ok (.iload_n 2, 1) := by decide +kernel
theorem dX3_areSame_4 : decode cX3_areSame 4 = .ok (.iconst 1, 1) := by decide +kernel
theorem dX3_areSame_5 : decode cX3_areSame 5 = .ok (.iand, 1) := by decide +kernel
theorem dX3_areSame_6 : decode cX3_areSame 6 = .ok (.if_icmp .ne 7, 3) := by decide +kernel
theorem dX3_areSame_9 : decode cX3_areSame 9 = .ok (.lconst 0, 1) := by decide +kernel
theorem dX3_areSame_10 : decode cX3_areSame 10 = .ok (.goto 6, 3) := by decide +kernel
theorem dX3_areSame_13 : decode cX3_areSame 13 = .ok (.ldc2_w 75, 3) := by decide +kernel
theorem dX3_areSame_16 : decode cX3_areSame 16 = .ok (.lstore_n 3, 1) := by decide +kernel
theorem dX3_areSame_17 : decode cX3_areSame 17 = .ok (.iconst 0, 1) := by decide +kernel
theorem dX3_areSame_18 : decode cX3_areSame 18 = .ok (.istore 5, 2) := by decide +kernel
theorem dX3_areSame_20 : decode cX3_areSame 20 = .ok (.iload 5, 2) := by decide +kernel
theorem dX3_areSame_22 : decode cX3_areSame 22 = .ok (.bipush 64, 2) := by decide +kernel
theorem dX3_areSame_24 : decode cX3_areSame 24 = .ok (.if_icmp .ge 45, 3) := by decide +kernel
theorem dX3_areSame_27 : decode cX3_areSame 27 = .ok (.aload_n 0, 1) := by decide +kernel
theorem dX3_areSame_28 : decode cX3_areSame 28 = .ok (.getfield 13, 3) := by decide +kernel
theorem dX3_areSame_31 : decode cX3_areSame 31 = .ok (.bipush 64, 2) := by decide +kernel
theorem dX3_areSame_33 : decode cX3_areSame 33 = .ok (.iload_n 1, 1) := by decide +kernel
theorem dX3_areSame_34 : decode cX3_areSame 34 = .ok (.iconst 2, 1) := by decide +kernel
theorem dX3_areSame_35 : decode cX3_areSame 35 = .ok (.idiv, 1) := by decide +kernel
theorem dX3_areSame_36 : decode cX3_areSame 36 = .ok (.imul, 1) := by decide +kernel
theorem dX3_areSame_37 : decode cX3_areSame 37 = .ok (.iload 5, 2) := by decide +kernel
theorem dX3_areSame_39 : decode cX3_areSame 39 = .ok (.iadd, 1) := by decide +kernel
theorem dX3_areSame_40 : decode cX3_areSame 40 = .ok (.laload, 1) := by decide +kernel
theorem dX3_areSame_41 : decode cX3_areSame 41 = .ok (.aload_n 0, 1) := by decide +kernel
theorem dX3_areSame_42 : decode cX3_areSame 42 = .ok (.getfield 13, 3) := by decide +kernel
theorem dX3_areSame_45 : decode cX3_areSame 45 = .ok (.bipush 64, 2) := by decide +kernel
theorem dX3_areSame_47 : decode cX3_areSame 47 = .ok (.iload_n 2, 1) := by decide +kernel
theorem dX3_areSame_48 : decode cX3_areSame 48 = .ok (.iconst 2, 1) := by decide +kernel
theorem dX3_areSame_49 : decode cX3_areSame 49 = .ok (.idiv, 1) := by decide +kernel
theorem dX3_areSame_50 : decode cX3_areSame 50 = .ok (.imul, 1) := by decide +kernel
theorem dX3_areSame_51 : decode cX3_areSame 51 = .ok (.iload 5, 2) := by decide +kernel
theorem dX3_areSame_53 : decode cX3_areSame 53 = .ok (.iadd, 1) := by decide +kernel
theorem dX3_areSame_54 : decode cX3_areSame 54 = .ok (.laload, 1) := by decide +kernel
theorem dX3_areSame_55 : decode cX3_areSame 55 = .ok (.lload_n 3, 1) := by decide +kernel
theorem dX3_areSame_56 : decode cX3_areSame 56 = .ok (.lxor, 1) := by decide +kernel
theorem dX3_areSame_57 : decode cX3_areSame 57 = .ok (.lcmp, 1) := by decide +kernel
theorem dX3_areSame_58 : decode cX3_areSame 58 = .ok (.ifCond .eq 5, 3) := by decide +kernel
theorem dX3_areSame_61 : decode cX3_areSame 61 = .ok (.iconst 0, 1) := by decide +kernel
theorem dX3_areSame_62 : decode cX3_areSame 62 = .ok (.ireturn, 1) := by decide +kernel
theorem dX3_areSame_63 : decode cX3_areSame 63 = .ok (.iinc 5 1, 3) := by decide +kernel
theorem dX3_areSame_66 : decode cX3_areSame 66 = .ok (.goto (-46), 3) := by decide +kernel
theorem dX3_areSame_69 : decode cX3_areSame 69 = .ok (.iconst 1, 1) := by decide +kernel
theorem dX3_areSame_70 : decode cX3_areSame 70 = .ok (.ireturn, 1) := by decide +kernel
theorem dX3_same_0 : decode cX3_same 0 = .ok (.aload_n 0, 1) := by decide +kernel
theorem dX3_same_1 : decode cX3_same 1 = .ok (.aload_n 0, 1) := by decide +kernel
theorem dX3_same_2 : decode cX3_same 2 = .ok (.iload_n 1, 1) := by decide +kernel
theorem dX3_same_3 : decode cX3_same 3 = .ok (.invokevirtual 68, 3) := by decide +kernel
theorem dX3_same_6 : decode cX3_same 6 = .ok (.ifCond .eq 15, 3) := by decide +kernel
theorem dX3_same_9 : decode cX3_same 9 = .ok (.aload_n 0, 1) := by decide +kernel
theorem dX3_same_10 : decode cX3_same 10 = .ok (.iload_n 2, 1) := by decide +kernel
theorem dX3_same_11 : decode cX3_same 11 = .ok (.invokevirtual 68, 3) := by decide +kernel
theorem dX3_same_14 : decode cX3_same 14 = .ok (.ifCond .eq 7, 3) := by decide +kernel
theorem dX3_same_17 : decode cX3_same 17 = .ok (.iconst 0, 1) := by decide +kernel
theorem dX3_same_18 : decode cX3_same 18 = .ok (.goto 4, 3) := by decide +kernel
theorem dX3_same_21 : decode cX3_same 21 = .ok (.iconst 1, 1) := by decide +kernel
theorem dX3_same_22 : decode cX3_same 22 = .ok (.putfield 44, 3) := by decide +kernel
theorem dX3_same_25 : decode cX3_same 25 = .ok (.aload_n 0, 1) := by decide +kernel
theorem dX3_same_26 : decode cX3_same 26 = .ok (.getfield 44, 3) := by decide +kernel
theorem dX3_same_29 : decode cX3_same 29 = .ok (.ifCond .ne 16, 3) := by decide +kernel
theorem dX3_same_32 : decode cX3_same 32 = .ok (.aload_n 0, 1) := by decide +kernel
theorem dX3_same_33 : decode cX3_same 33 = .ok (.iload_n 1, 1) := by decide +kernel
theorem dX3_same_34 : decode cX3_same 34 = .ok (.iload_n 2, 1) := by decide +kernel
theorem dX3_same_35 : decode cX3_same 35 = .ok (.invokevirtual 80, 3) := by decide +kernel
theorem dX3_same_38 : decode cX3_same 38 = .ok (.ifCond .eq 7, 3) := by decide +kernel
theorem dX3_same_41 : decode cX3_same 41 = .ok (.iconst 1, 1) := by decide +kernel
theorem dX3_same_42 : decode cX3_same 42 = .ok (.goto 4, 3) := by decide +kernel
theorem dX3_same_45 : decode cX3_same 45 = .ok (.iconst 0, 1) := by decide +kernel
theorem dX3_same_46 : decode cX3_same 46 = .ok (.ireturn, 1) := by decide +kernel
theorem dX3_firstOf_0 : decode cX3_firstOf 0 = .ok (.iconst 0, 1) := by decide +kernel
theorem dX3_firstOf_1 : decode cX3_firstOf 1 = .ok (.istore_n 2, 1) := by decide +kernel
theorem dX3_firstOf_2 : decode cX3_firstOf 2 = .ok (.iload_n 2, 1) := by decide +kernel
theorem dX3_firstOf_3 : decode cX3_firstOf 3 = .ok (.iload_n 1, 1) := by decide +kernel
theorem dX3_firstOf_4 : decode cX3_firstOf 4 = .ok (.if_icmp .ge 20, 3) := by decide +kernel
theorem dX3_firstOf_7 : decode cX3_firstOf 7 = .ok (.aload_n 0, 1) := by decide +kernel
theorem dX3_firstOf_8 : decode cX3_firstOf 8 = .ok (.iload_n 2, 1) := by decide +kernel
theorem dX3_firstOf_9 : decode cX3_firstOf 9 = .ok (.iload_n 1, 1) := by decide +kernel
theorem dX3_firstOf_10 : decode cX3_firstOf 10 = .ok (.invokevirtual 80, 3) := by decide +kernel
theorem dX3_firstOf_13 : decode cX3_firstOf 13 = .ok (.ifCond .eq 5, 3) := by decide +kernel
theorem dX3_firstOf_16 : decode cX3_firstOf 16 = .ok (.iload_n 2, 1) := by decide +kernel
theorem dX3_firstOf_17 : decode cX3_firstOf 17 = .ok (.ireturn, 1) := by decide +kernel
theorem dX3_firstOf_18 : decode cX3_firstOf 18 = .ok (.iinc 2 1, 3) := by decide +kernel
theorem dX3_firstOf_21 : decode cX3_firstOf 21 = .ok (.goto (-19), 3) := by decide +kernel
theorem dX3_firstOf_24 : decode cX3_firstOf 24 = .ok (.iload_n 1, 1) := by decide +kernel
theorem dX3_firstOf_25 : decode cX3_firstOf 25 = .ok (.ireturn, 1) := by decide +kernel
theorem dX3_first_0 : decode cX3_first 0 = .ok (.aload_n 0, 1) := by decide +kernel
theorem dX3_first_1 : decode cX3_first 1 = .ok (.aload_n 0, 1) := by decide +kernel
theorem dX3_first_2 : decode cX3_first 2 = .ok (.iload_n 1, 1) := by decide +kernel
theorem dX3_first_3 : decode cX3_first 3 = .ok (.invokevirtual 68, 3) := by decide +kernel
theorem dX3_first_6 : decode cX3_first 6 = .ok (.ifCond .eq 7, 3) := by decide +kernel
theorem dX3_first_9 : decode cX3_first 9 = .ok (.iconst 0, 1) := by decide +kernel
theorem dX3_first_10 : decode cX3_first 10 = .ok (.goto 4, 3) := by decide +kernel
theorem dX3_first_13 : decode cX3_first 13 = .ok (.iconst 1, 1) := by decide +kernel
theorem dX3_first_14 : decode cX3_first 14 = .ok (.putfield 44, 3) := by decide +kernel
theorem dX3_first_17 : decode cX3_first 17 = .ok (.aload_n 0, 1) := by decide +kernel
theorem dX3_first_18 : decode cX3_first 18 = .ok (.getfield 44, 3) := by decide +kernel
theorem dX3_first_21 : decode cX3_first 21 = .ok (.ifCond .le 7, 3) := by decide +kernel
theorem dX3_first_24 : decode cX3_first 24 = .ok (.iconst 0, 1) := by decide +kernel
theorem dX3_first_25 : decode cX3_first 25 = .ok (.goto 8, 3) := by decide +kernel
theorem dX3_first_28 : decode cX3_first 28 = .ok (.aload_n 0, 1) := by decide +kernel
theorem dX3_first_29 : decode cX3_first 29 = .ok (.iload_n 1, 1) := by decide +kernel
theorem dX3_first_30 : decode cX3_first 30 = .ok (.invokevirtual 83, 3) := by decide +kernel
theorem dX3_first_33 : decode cX3_first 33 = .ok (.ireturn, 1) := by decide +kernel
theorem dX3_isLeast_0 : decode cX3_isLeast 0 = .ok (.iconst 0, 1) := by decide +kernel
theorem dX3_isLeast_1 : decode cX3_isLeast 1 = .ok (.istore_n 2, 1) := by decide +kernel
theorem dX3_isLeast_2 : decode cX3_isLeast 2 = .ok (.iload_n 2, 1) := by decide +kernel
theorem dX3_isLeast_3 : decode cX3_isLeast 3 = .ok (.iload_n 1, 1) := by decide +kernel
theorem dX3_isLeast_4 : decode cX3_isLeast 4 = .ok (.if_icmp .ge 39, 3) := by decide +kernel
theorem dX3_isLeast_7 : decode cX3_isLeast 7 = .ok (.aload_n 0, 1) := by decide +kernel
theorem dX3_isLeast_8 : decode cX3_isLeast 8 = .ok (.iconst 2, 1) := by decide +kernel
theorem dX3_isLeast_9 : decode cX3_isLeast 9 = .ok (.iload_n 2, 1) := by decide +kernel
theorem dX3_isLeast_10 : decode cX3_isLeast 10 = .ok (.imul, 1) := by decide +kernel
theorem dX3_isLeast_11 : decode cX3_isLeast 11 = .ok (.iconst 2, 1) := by decide +kernel
theorem dX3_isLeast_12 : decode cX3_isLeast 12 = .ok (.iload_n 1, 1) := by decide +kernel
theorem dX3_isLeast_13 : decode cX3_isLeast 13 = .ok (.imul, 1) := by decide +kernel
theorem dX3_isLeast_14 : decode cX3_isLeast 14 = .ok (.invokevirtual 80, 3) := by decide +kernel
theorem dX3_isLeast_17 : decode cX3_isLeast 17 = .ok (.ifCond .ne 18, 3) := by decide +kernel
theorem dX3_isLeast_20 : decode cX3_isLeast 20 = .ok (.aload_n 0, 1) := by decide +kernel
theorem dX3_isLeast_21 : decode cX3_isLeast 21 = .ok (.iconst 2, 1) := by decide +kernel
theorem dX3_isLeast_22 : decode cX3_isLeast 22 = .ok (.iload_n 2, 1) := by decide +kernel
theorem dX3_isLeast_23 : decode cX3_isLeast 23 = .ok (.imul, 1) := by decide +kernel
theorem dX3_isLeast_24 : decode cX3_isLeast 24 = .ok (.iconst 1, 1) := by decide +kernel
theorem dX3_isLeast_25 : decode cX3_isLeast 25 = .ok (.iadd, 1) := by decide +kernel
theorem dX3_isLeast_26 : decode cX3_isLeast 26 = .ok (.iconst 2, 1) := by decide +kernel
theorem dX3_isLeast_27 : decode cX3_isLeast 27 = .ok (.iload_n 1, 1) := by decide +kernel
theorem dX3_isLeast_28 : decode cX3_isLeast 28 = .ok (.imul, 1) := by decide +kernel
theorem dX3_isLeast_29 : decode cX3_isLeast 29 = .ok (.invokevirtual 80, 3) := by decide +kernel
theorem dX3_isLeast_32 : decode cX3_isLeast 32 = .ok (.ifCond .eq 5, 3) := by decide +kernel
theorem dX3_isLeast_35 : decode cX3_isLeast 35 = .ok (.iconst 0, 1) := by decide +kernel
theorem dX3_isLeast_36 : decode cX3_isLeast 36 = .ok (.ireturn, 1) := by decide +kernel
theorem dX3_isLeast_37 : decode cX3_isLeast 37 = .ok (.iinc 2 1, 3) := by decide +kernel
theorem dX3_isLeast_40 : decode cX3_isLeast 40 = .ok (.goto (-38), 3) := by decide +kernel
theorem dX3_isLeast_43 : decode cX3_isLeast 43 = .ok (.iconst 1, 1) := by decide +kernel
theorem dX3_isLeast_44 : decode cX3_isLeast 44 = .ok (.ireturn, 1) := by decide +kernel
theorem dX3_classes_0 : decode cX3_classes 0 = .ok (.aload_n 0, 1) := by decide +kernel
theorem dX3_classes_1 : decode cX3_classes 1 = .ok (.iconst 0, 1) := by decide +kernel
theorem dX3_classes_2 : decode cX3_classes 2 = .ok (.putfield 44, 3) := by decide +kernel
theorem dX3_classes_5 : decode cX3_classes 5 = .ok (.iconst 0, 1) := by decide +kernel
theorem dX3_classes_6 : decode cX3_classes 6 = .ok (.istore_n 1, 1) := by decide +kernel
theorem dX3_classes_7 : decode cX3_classes 7 = .ok (.iconst 0, 1) := by decide +kernel
theorem dX3_classes_8 : decode cX3_classes 8 = .ok (.istore_n 2, 1) := by decide +kernel
theorem dX3_classes_9 : decode cX3_classes 9 = .ok (.iload_n 2, 1) := by decide +kernel
theorem dX3_classes_10 : decode cX3_classes 10 = .ok (.aload_n 0, 1) := by decide +kernel
theorem dX3_classes_11 : decode cX3_classes 11 = .ok (.getfield 48, 3) := by decide +kernel
theorem dX3_classes_14 : decode cX3_classes 14 = .ok (.if_icmp .ge 25, 3) := by decide +kernel
theorem dX3_classes_17 : decode cX3_classes 17 = .ok (.aload_n 0, 1) := by decide +kernel
theorem dX3_classes_18 : decode cX3_classes 18 = .ok (.iload_n 2, 1) := by decide +kernel
theorem dX3_classes_19 : decode cX3_classes 19 = .ok (.invokevirtual 86, 3) := by decide +kernel
theorem dX3_classes_22 : decode cX3_classes 22 = .ok (.ifCond .eq 9, 3) := by decide +kernel
theorem dX3_classes_25 : decode cX3_classes 25 = .ok (.iload_n 1, 1) := by decide +kernel
theorem dX3_classes_26 : decode cX3_classes 26 = .ok (.iconst 1, 1) := by decide +kernel
theorem dX3_classes_27 : decode cX3_classes 27 = .ok (.iadd, 1) := by decide +kernel
theorem dX3_classes_28 : decode cX3_classes 28 = .ok (.goto 4, 3) := by decide +kernel
theorem dX3_classes_31 : decode cX3_classes 31 = .ok (.iload_n 1, 1) := by decide +kernel
theorem dX3_classes_32 : decode cX3_classes 32 = .ok (.istore_n 1, 1) := by decide +kernel
theorem dX3_classes_33 : decode cX3_classes 33 = .ok (.iinc 2 1, 3) := by decide +kernel
theorem dX3_classes_36 : decode cX3_classes 36 = .ok (.goto (-27), 3) := by decide +kernel
theorem dX3_classes_39 : decode cX3_classes 39 = .ok (.iload_n 1, 1) := by decide +kernel
theorem dX3_classes_40 : decode cX3_classes 40 = .ok (.ireturn, 1) := by decide +kernel
theorem dX3_merged_0 : decode cX3_merged 0 = .ok (.aload_n 0, 1) := by decide +kernel
theorem dX3_merged_1 : decode cX3_merged 1 = .ok (.iload_n 1, 1) := by decide +kernel
theorem dX3_merged_2 : decode cX3_merged 2 = .ok (.invokestatic 61, 3) := by decide +kernel
theorem dX3_merged_5 : decode cX3_merged 5 = .ok (.ifCond .eq 7, 3) := by decide +kernel
theorem dX3_merged_8 : decode cX3_merged 8 = .ok (.iconst 0, 1) := by decide +kernel
theorem dX3_merged_9 : decode cX3_merged 9 = .ok (.goto 4, 3) := by decide +kernel
theorem dX3_merged_12 : decode cX3_merged 12 = .ok (.iconst 1, 1) := by decide +kernel
theorem dX3_merged_13 : decode cX3_merged 13 = .ok (.putfield 44, 3) := by decide +kernel
theorem dX3_merged_16 : decode cX3_merged 16 = .ok (.iconst 0, 1) := by decide +kernel
theorem dX3_merged_17 : decode cX3_merged 17 = .ok (.istore_n 2, 1) := by decide +kernel
theorem dX3_merged_18 : decode cX3_merged 18 = .ok (.iconst 0, 1) := by decide +kernel
theorem dX3_merged_19 : decode cX3_merged 19 = .ok (.istore_n 3, 1) := by decide +kernel
theorem dX3_merged_20 : decode cX3_merged 20 = .ok (.iload_n 3, 1) := by decide +kernel
theorem dX3_merged_21 : decode cX3_merged 21 = .ok (.aload_n 0, 1) := by decide +kernel
theorem dX3_merged_22 : decode cX3_merged 22 = .ok (.getfield 48, 3) := by decide +kernel
theorem dX3_merged_25 : decode cX3_merged 25 = .ok (.if_icmp .ge 42, 3) := by decide +kernel
theorem dX3_merged_28 : decode cX3_merged 28 = .ok (.aload_n 0, 1) := by decide +kernel
theorem dX3_merged_29 : decode cX3_merged 29 = .ok (.getfield 44, 3) := by decide +kernel
theorem dX3_merged_32 : decode cX3_merged 32 = .ok (.ifCond .ne 35, 3) := by decide +kernel
theorem dX3_merged_35 : decode cX3_merged 35 = .ok (.aload_n 0, 1) := by decide +kernel
theorem dX3_merged_36 : decode cX3_merged 36 = .ok (.getfield 7, 3) := by decide +kernel
theorem dX3_merged_39 : decode cX3_merged 39 = .ok (.iload_n 3, 1) := by decide +kernel
theorem dX3_merged_40 : decode cX3_merged 40 = .ok (.iaload, 1) := by decide +kernel
theorem dX3_merged_41 : decode cX3_merged 41 = .ok (.iload_n 1, 1) := by decide +kernel
theorem dX3_merged_42 : decode cX3_merged 42 = .ok (.if_icmp .ne 17, 3) := by decide +kernel
theorem dX3_merged_45 : decode cX3_merged 45 = .ok (.aload_n 0, 1) := by decide +kernel
theorem dX3_merged_46 : decode cX3_merged 46 = .ok (.iload_n 3, 1) := by decide +kernel
theorem dX3_merged_47 : decode cX3_merged 47 = .ok (.invokevirtual 86, 3) := by decide +kernel
theorem dX3_merged_50 : decode cX3_merged 50 = .ok (.ifCond .ne 9, 3) := by decide +kernel
theorem dX3_merged_53 : decode cX3_merged 53 = .ok (.iload_n 2, 1) := by decide +kernel
theorem dX3_merged_54 : decode cX3_merged 54 = .ok (.iconst 1, 1) := by decide +kernel
theorem dX3_merged_55 : decode cX3_merged 55 = .ok (.iadd, 1) := by decide +kernel
theorem dX3_merged_56 : decode cX3_merged 56 = .ok (.goto 4, 3) := by decide +kernel
theorem dX3_merged_59 : decode cX3_merged 59 = .ok (.iload_n 2, 1) := by decide +kernel
theorem dX3_merged_60 : decode cX3_merged 60 = .ok (.istore_n 2, 1) := by decide +kernel
theorem dX3_merged_61 : decode cX3_merged 61 = .ok (.iinc 3 1, 3) := by decide +kernel
theorem dX3_merged_64 : decode cX3_merged 64 = .ok (.goto (-44), 3) := by decide +kernel
theorem dX3_merged_67 : decode cX3_merged 67 = .ok (.iload_n 2, 1) := by decide +kernel
theorem dX3_merged_68 : decode cX3_merged 68 = .ok (.ireturn, 1) := by decide +kernel
theorem dX3_hangs_0 : decode cX3_hangs 0 = .ok (.aload_n 0, 1) := by decide +kernel
theorem dX3_hangs_1 : decode cX3_hangs 1 = .ok (.aload_n 0, 1) := by decide +kernel
theorem dX3_hangs_2 : decode cX3_hangs 2 = .ok (.iload_n 1, 1) := by decide +kernel
theorem dX3_hangs_3 : decode cX3_hangs 3 = .ok (.invokevirtual 68, 3) := by decide +kernel
theorem dX3_hangs_6 : decode cX3_hangs 6 = .ok (.ifCond .eq 7, 3) := by decide +kernel
theorem dX3_hangs_9 : decode cX3_hangs 9 = .ok (.iconst 0, 1) := by decide +kernel
theorem dX3_hangs_10 : decode cX3_hangs 10 = .ok (.goto 4, 3) := by decide +kernel
theorem dX3_hangs_13 : decode cX3_hangs 13 = .ok (.iconst 1, 1) := by decide +kernel
theorem dX3_hangs_14 : decode cX3_hangs 14 = .ok (.putfield 44, 3) := by decide +kernel
theorem dX3_hangs_17 : decode cX3_hangs 17 = .ok (.iconst 0, 1) := by decide +kernel
theorem dX3_hangs_18 : decode cX3_hangs 18 = .ok (.istore_n 2, 1) := by decide +kernel
theorem dX3_hangs_19 : decode cX3_hangs 19 = .ok (.iconst 0, 1) := by decide +kernel
theorem dX3_hangs_20 : decode cX3_hangs 20 = .ok (.istore_n 3, 1) := by decide +kernel
theorem dX3_hangs_21 : decode cX3_hangs 21 = .ok (.iload_n 3, 1) := by decide +kernel
theorem dX3_hangs_22 : decode cX3_hangs 22 = .ok (.bipush 12, 2) := by decide +kernel
theorem dX3_hangs_24 : decode cX3_hangs 24 = .ok (.if_icmp .ge 60, 3) := by decide +kernel
theorem dX3_hangs_27 : decode cX3_hangs 27 = .ok (.aload_n 0, 1) := by decide +kernel
theorem dX3_hangs_28 : decode cX3_hangs 28 = .ok (.getfield 44, 3) := by decide +kernel
theorem dX3_hangs_31 : decode cX3_hangs 31 = .ok (.ifCond .ne 53, 3) := by decide +kernel
theorem dX3_hangs_34 : decode cX3_hangs 34 = .ok (.iconst 0, 1) := by decide +kernel
theorem dX3_hangs_35 : decode cX3_hangs 35 = .ok (.istore 4, 2) := by decide +kernel
theorem dX3_hangs_37 : decode cX3_hangs 37 = .ok (.iload 4, 2) := by decide +kernel
theorem dX3_hangs_39 : decode cX3_hangs 39 = .ok (.sipush 4096, 3) := by decide +kernel
theorem dX3_hangs_42 : decode cX3_hangs 42 = .ok (.if_icmp .ge 36, 3) := by decide +kernel
theorem dX3_hangs_45 : decode cX3_hangs 45 = .ok (.aload_n 0, 1) := by decide +kernel
theorem dX3_hangs_46 : decode cX3_hangs 46 = .ok (.iload_n 1, 1) := by decide +kernel
theorem dX3_hangs_47 : decode cX3_hangs 47 = .ok (.iload 4, 2) := by decide +kernel
theorem dX3_hangs_49 : decode cX3_hangs 49 = .ok (.invokevirtual 89, 3) := by decide +kernel
theorem dX3_hangs_52 : decode cX3_hangs 52 = .ok (.aload_n 0, 1) := by decide +kernel
theorem dX3_hangs_53 : decode cX3_hangs 53 = .ok (.iload_n 1, 1) := by decide +kernel
theorem dX3_hangs_54 : decode cX3_hangs 54 = .ok (.iload 4, 2) := by decide +kernel
theorem dX3_hangs_56 : decode cX3_hangs 56 = .ok (.iconst 1, 1) := by decide +kernel
