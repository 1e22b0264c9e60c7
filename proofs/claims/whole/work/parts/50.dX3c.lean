theorem dX3_hangs_57 : decode cX3_hangs 57 = .ok (.iload_n 3, 1) := by decide +kernel
theorem dX3_hangs_58 : decode cX3_hangs 58 = .ok (.ishl, 1) := by decide +kernel
theorem dX3_hangs_59 : decode cX3_hangs 59 = .ok (.ixor, 1) := by decide +kernel
theorem dX3_hangs_60 : decode cX3_hangs 60 = .ok (.invokevirtual 89, 3) := by decide +kernel
theorem dX3_hangs_63 : decode cX3_hangs 63 = .ok (.if_icmp .eq 9, 3) := by decide +kernel
theorem dX3_hangs_66 : decode cX3_hangs 66 = .ok (.iload_n 2, 1) := by decide +kernel
theorem dX3_hangs_67 : decode cX3_hangs 67 = .ok (.iconst 1, 1) := by decide +kernel
theorem dX3_hangs_68 : decode cX3_hangs 68 = .ok (.iload_n 3, 1) := by decide +kernel
theorem dX3_hangs_69 : decode cX3_hangs 69 = .ok (.ishl, 1) := by decide +kernel
theorem dX3_hangs_70 : decode cX3_hangs 70 = .ok (.ior, 1) := by decide +kernel
theorem dX3_hangs_71 : decode cX3_hangs 71 = .ok (.istore_n 2, 1) := by decide +kernel
theorem dX3_hangs_72 : decode cX3_hangs 72 = .ok (.iinc 4 1, 3) := by decide +kernel
theorem dX3_hangs_75 : decode cX3_hangs 75 = .ok (.goto (-38), 3) := by decide +kernel
theorem dX3_hangs_78 : decode cX3_hangs 78 = .ok (.iinc 3 1, 3) := by decide +kernel
theorem dX3_hangs_81 : decode cX3_hangs 81 = .ok (.goto (-60), 3) := by decide +kernel
theorem dX3_hangs_84 : decode cX3_hangs 84 = .ok (.iload_n 2, 1) := by decide +kernel
theorem dX3_hangs_85 : decode cX3_hangs 85 = .ok (.ireturn, 1) := by decide +kernel
theorem dX3_ones_0 : decode cX3_ones 0 = .ok (.aload_n 0, 1) := by decide +kernel
theorem dX3_ones_1 : decode cX3_ones 1 = .ok (.aload_n 0, 1) := by decide +kernel
theorem dX3_ones_2 : decode cX3_ones 2 = .ok (.iload_n 1, 1) := by decide +kernel
theorem dX3_ones_3 : decode cX3_ones 3 = .ok (.invokevirtual 68, 3) := by decide +kernel
theorem dX3_ones_6 : decode cX3_ones 6 = .ok (.ifCond .eq 7, 3) := by decide +kernel
theorem dX3_ones_9 : decode cX3_ones 9 = .ok (.iconst 0, 1) := by decide +kernel
theorem dX3_ones_10 : decode cX3_ones 10 = .ok (.goto 4, 3) := by decide +kernel
theorem dX3_ones_13 : decode cX3_ones 13 = .ok (.iconst 1, 1) := by decide +kernel
theorem dX3_ones_14 : decode cX3_ones 14 = .ok (.putfield 44, 3) := by decide +kernel
theorem dX3_ones_17 : decode cX3_ones 17 = .ok (.iconst 0, 1) := by decide +kernel
theorem dX3_ones_18 : decode cX3_ones 18 = .ok (.istore_n 2, 1) := by decide +kernel
theorem dX3_ones_19 : decode cX3_ones 19 = .ok (.iconst 0, 1) := by decide +kernel
theorem dX3_ones_20 : decode cX3_ones 20 = .ok (.istore_n 3, 1) := by decide +kernel
theorem dX3_ones_21 : decode cX3_ones 21 = .ok (.iload_n 3, 1) := by decide +kernel
theorem dX3_ones_22 : decode cX3_ones 22 = .ok (.sipush 4096, 3) := by decide +kernel
theorem dX3_ones_25 : decode cX3_ones 25 = .ok (.if_icmp .ge 35, 3) := by decide +kernel
theorem dX3_ones_28 : decode cX3_ones 28 = .ok (.aload_n 0, 1) := by decide +kernel
theorem dX3_ones_29 : decode cX3_ones 29 = .ok (.getfield 44, 3) := by decide +kernel
theorem dX3_ones_32 : decode cX3_ones 32 = .ok (.ifCond .ne 28, 3) := by decide +kernel
theorem dX3_ones_35 : decode cX3_ones 35 = .ok (.iload_n 3, 1) := by decide +kernel
theorem dX3_ones_36 : decode cX3_ones 36 = .ok (.aload_n 0, 1) := by decide +kernel
theorem dX3_ones_37 : decode cX3_ones 37 = .ok (.invokevirtual 93, 3) := by decide +kernel
theorem dX3_ones_40 : decode cX3_ones 40 = .ok (.iand, 1) := by decide +kernel
theorem dX3_ones_41 : decode cX3_ones 41 = .ok (.iload_n 3, 1) := by decide +kernel
theorem dX3_ones_42 : decode cX3_ones 42 = .ok (.if_icmp .ne 12, 3) := by decide +kernel
theorem dX3_ones_45 : decode cX3_ones 45 = .ok (.iload_n 2, 1) := by decide +kernel
theorem dX3_ones_46 : decode cX3_ones 46 = .ok (.aload_n 0, 1) := by decide +kernel
theorem dX3_ones_47 : decode cX3_ones 47 = .ok (.iload_n 1, 1) := by decide +kernel
theorem dX3_ones_48 : decode cX3_ones 48 = .ok (.iload_n 3, 1) := by decide +kernel
theorem dX3_ones_49 : decode cX3_ones 49 = .ok (.invokevirtual 89, 3) := by decide +kernel
theorem dX3_ones_52 : decode cX3_ones 52 = .ok (.iadd, 1) := by decide +kernel
theorem dX3_ones_53 : decode cX3_ones 53 = .ok (.istore_n 2, 1) := by decide +kernel
theorem dX3_ones_54 : decode cX3_ones 54 = .ok (.iinc 3 1, 3) := by decide +kernel
theorem dX3_ones_57 : decode cX3_ones 57 = .ok (.goto (-36), 3) := by decide +kernel
theorem dX3_ones_60 : decode cX3_ones 60 = .ok (.iload_n 2, 1) := by decide +kernel
theorem dX3_ones_61 : decode cX3_ones 61 = .ok (.ireturn, 1) := by decide +kernel
theorem dX3_value_0 : decode cX3_value 0 = .ok (.aload_n 0, 1) := by decide +kernel
theorem dX3_value_1 : decode cX3_value 1 = .ok (.aload_n 0, 1) := by decide +kernel
theorem dX3_value_2 : decode cX3_value 2 = .ok (.iload_n 1, 1) := by decide +kernel
theorem dX3_value_3 : decode cX3_value 3 = .ok (.invokevirtual 68, 3) := by decide +kernel
theorem dX3_value_6 : decode cX3_value 6 = .ok (.ifCond .eq 7, 3) := by decide +kernel
theorem dX3_value_9 : decode cX3_value 9 = .ok (.iconst 0, 1) := by decide +kernel
theorem dX3_value_10 : decode cX3_value 10 = .ok (.goto 4, 3) := by decide +kernel
theorem dX3_value_13 : decode cX3_value 13 = .ok (.iconst 1, 1) := by decide +kernel
theorem dX3_value_14 : decode cX3_value 14 = .ok (.putfield 44, 3) := by decide +kernel
theorem dX3_value_17 : decode cX3_value 17 = .ok (.aload_n 0, 1) := by decide +kernel
theorem dX3_value_18 : decode cX3_value 18 = .ok (.getfield 44, 3) := by decide +kernel
theorem dX3_value_21 : decode cX3_value 21 = .ok (.ifCond .le 7, 3) := by decide +kernel
theorem dX3_value_24 : decode cX3_value 24 = .ok (.iconst 0, 1) := by decide +kernel
theorem dX3_value_25 : decode cX3_value 25 = .ok (.goto 14, 3) := by decide +kernel
theorem dX3_value_28 : decode cX3_value 28 = .ok (.aload_n 0, 1) := by decide +kernel
theorem dX3_value_29 : decode cX3_value 29 = .ok (.iload_n 1, 1) := by decide +kernel
theorem dX3_value_30 : decode cX3_value 30 = .ok (.iload_n 2, 1) := by decide +kernel
theorem dX3_value_31 : decode cX3_value 31 = .ok (.aload_n 0, 1) := by decide +kernel
theorem dX3_value_32 : decode cX3_value 32 = .ok (.invokevirtual 93, 3) := by decide +kernel
theorem dX3_value_35 : decode cX3_value 35 = .ok (.iand, 1) := by decide +kernel
theorem dX3_value_36 : decode cX3_value 36 = .ok (.invokevirtual 89, 3) := by decide +kernel
theorem dX3_value_39 : decode cX3_value 39 = .ok (.ireturn, 1) := by decide +kernel
theorem dX3_both_0 : decode cX3_both 0 = .ok (.aload_n 0, 1) := by decide +kernel
theorem dX3_both_1 : decode cX3_both 1 = .ok (.getfield 29, 3) := by decide +kernel
theorem dX3_both_4 : decode cX3_both 4 = .ok (.iconst 0, 1) := by decide +kernel
theorem dX3_both_5 : decode cX3_both 5 = .ok (.iaload, 1) := by decide +kernel
theorem dX3_both_6 : decode cX3_both 6 = .ok (.aload_n 0, 1) := by decide +kernel
theorem dX3_both_7 : decode cX3_both 7 = .ok (.getfield 29, 3) := by decide +kernel
theorem dX3_both_10 : decode cX3_both 10 = .ok (.iconst 1, 1) := by decide +kernel
theorem dX3_both_11 : decode cX3_both 11 = .ok (.iaload, 1) := by decide +kernel
theorem dX3_both_12 : decode cX3_both 12 = .ok (.if_icmp .ge 12, 3) := by decide +kernel
theorem dX3_both_15 : decode cX3_both 15 = .ok (.aload_n 0, 1) := by decide +kernel
theorem dX3_both_16 : decode cX3_both 16 = .ok (.getfield 29, 3) := by decide +kernel
theorem dX3_both_19 : decode cX3_both 19 = .ok (.iconst 0, 1) := by decide +kernel
theorem dX3_both_20 : decode cX3_both 20 = .ok (.iaload, 1) := by decide +kernel
theorem dX3_both_21 : decode cX3_both 21 = .ok (.goto 9, 3) := by decide +kernel
theorem dX3_both_24 : decode cX3_both 24 = .ok (.aload_n 0, 1) := by decide +kernel
theorem dX3_both_25 : decode cX3_both 25 = .ok (.getfield 29, 3) := by decide +kernel
theorem dX3_both_28 : decode cX3_both 28 = .ok (.iconst 1, 1) := by decide +kernel
theorem dX3_both_29 : decode cX3_both 29 = .ok (.iaload, 1) := by decide +kernel
theorem dX3_both_30 : decode cX3_both 30 = .ok (.ireturn, 1) := by decide +kernel
theorem dX3_isApart_0 : decode cX3_isApart 0 = .ok (.iload_n 1, 1) := by decide +kernel
theorem dX3_isApart_1 : decode cX3_isApart 1 = .ok (.bipush 100, 2) := by decide +kernel
theorem dX3_isApart_3 : decode cX3_isApart 3 = .ok (.if_icmp .ge 39, 3) := by decide +kernel
theorem dX3_isApart_6 : decode cX3_isApart 6 = .ok (.iload_n 1, 1) := by decide +kernel
theorem dX3_isApart_7 : decode cX3_isApart 7 = .ok (.aload_n 0, 1) := by decide +kernel
theorem dX3_isApart_8 : decode cX3_isApart 8 = .ok (.invokevirtual 97, 3) := by decide +kernel
theorem dX3_isApart_11 : decode cX3_isApart 11 = .ok (.if_icmp .ge 29, 3) := by decide +kernel
theorem dX3_isApart_14 : decode cX3_isApart 14 = .ok (.aload_n 0, 1) := by decide +kernel
theorem dX3_isApart_15 : decode cX3_isApart 15 = .ok (.aload_n 0, 1) := by decide +kernel
theorem dX3_isApart_16 : decode cX3_isApart 16 = .ok (.getfield 32, 3) := by decide +kernel
theorem dX3_isApart_19 : decode cX3_isApart 19 = .ok (.iload_n 1, 1) := by decide +kernel
theorem dX3_isApart_20 : decode cX3_isApart 20 = .ok (.iaload, 1) := by decide +kernel
theorem dX3_isApart_21 : decode cX3_isApart 21 = .ok (.aload_n 0, 1) := by decide +kernel
theorem dX3_isApart_22 : decode cX3_isApart 22 = .ok (.getfield 32, 3) := by decide +kernel
theorem dX3_isApart_25 : decode cX3_isApart 25 = .ok (.bipush 16, 2) := by decide +kernel
theorem dX3_isApart_27 : decode cX3_isApart 27 = .ok (.iload_n 1, 1) := by decide +kernel
theorem dX3_isApart_28 : decode cX3_isApart 28 = .ok (.iadd, 1) := by decide +kernel
theorem dX3_isApart_29 : decode cX3_isApart 29 = .ok (.iaload, 1) := by decide +kernel
theorem dX3_isApart_30 : decode cX3_isApart 30 = .ok (.invokevirtual 80, 3) := by decide +kernel
theorem dX3_isApart_33 : decode cX3_isApart 33 = .ok (.ifCond .ne 7, 3) := by decide +kernel
theorem dX3_isApart_36 : decode cX3_isApart 36 = .ok (.iconst 1, 1) := by decide +kernel
theorem dX3_isApart_37 : decode cX3_isApart 37 = .ok (.goto 4, 3) := by decide +kernel
theorem dX3_isApart_40 : decode cX3_isApart 40 = .ok (.iconst 0, 1) := by decide +kernel
theorem dX3_isApart_41 : decode cX3_isApart 41 = .ok (.ireturn, 1) := by decide +kernel
theorem dX3_isApart_42 : decode cX3_isApart 42 = .ok (.iload_n 1, 1) := by decide +kernel
theorem dX3_isApart_43 : decode cX3_isApart 43 = .ok (.sipush 200, 3) := by decide +kernel
theorem dX3_isApart_46 : decode cX3_isApart 46 = .ok (.if_icmp .ge 45, 3) := by decide +kernel
theorem dX3_isApart_49 : decode cX3_isApart 49 = .ok (.iload_n 1, 1) := by decide +kernel
theorem dX3_isApart_50 : decode cX3_isApart 50 = .ok (.bipush 100, 2) := by decide +kernel
theorem dX3_isApart_52 : decode cX3_isApart 52 = .ok (.isub, 1) := by decide +kernel
theorem dX3_isApart_53 : decode cX3_isApart 53 = .ok (.aload_n 0, 1) := by decide +kernel
theorem dX3_isApart_54 : decode cX3_isApart 54 = .ok (.getfield 54, 3) := by decide +kernel
theorem dX3_isApart_57 : decode cX3_isApart 57 = .ok (.if_icmp .ge 32, 3) := by decide +kernel
theorem dX3_isApart_60 : decode cX3_isApart 60 = .ok (.aload_n 0, 1) := by decide +kernel
theorem dX3_isApart_61 : decode cX3_isApart 61 = .ok (.aload_n 0, 1) := by decide +kernel
theorem dX3_isApart_62 : decode cX3_isApart 62 = .ok (.getfield 23, 3) := by decide +kernel
theorem dX3_isApart_65 : decode cX3_isApart 65 = .ok (.iload_n 1, 1) := by decide +kernel
theorem dX3_isApart_66 : decode cX3_isApart 66 = .ok (.bipush 100, 2) := by decide +kernel
theorem dX3_isApart_68 : decode cX3_isApart 68 = .ok (.isub, 1) := by decide +kernel
theorem dX3_isApart_69 : decode cX3_isApart 69 = .ok (.iaload, 1) := by decide +kernel
theorem dX3_isApart_70 : decode cX3_isApart 70 = .ok (.aload_n 0, 1) := by decide +kernel
theorem dX3_isApart_71 : decode cX3_isApart 71 = .ok (.getfield 23, 3) := by decide +kernel
theorem dX3_isApart_74 : decode cX3_isApart 74 = .ok (.iload_n 1, 1) := by decide +kernel
theorem dX3_isApart_75 : decode cX3_isApart 75 = .ok (.bipush 96, 2) := by decide +kernel
theorem dX3_isApart_77 : decode cX3_isApart 77 = .ok (.isub, 1) := by decide +kernel
theorem dX3_isApart_78 : decode cX3_isApart 78 = .ok (.iaload, 1) := by decide +kernel
theorem dX3_isApart_79 : decode cX3_isApart 79 = .ok (.invokevirtual 80, 3) := by decide +kernel
theorem dX3_isApart_82 : decode cX3_isApart 82 = .ok (.ifCond .ne 7, 3) := by decide +kernel
theorem dX3_isApart_85 : decode cX3_isApart 85 = .ok (.iconst 1, 1) := by decide +kernel
theorem dX3_isApart_86 : decode cX3_isApart 86 = .ok (.goto 4, 3) := by decide +kernel
theorem dX3_isApart_89 : decode cX3_isApart 89 = .ok (.iconst 0, 1) := by decide +kernel
theorem dX3_isApart_90 : decode cX3_isApart 90 = .ok (.ireturn, 1) := by decide +kernel
theorem dX3_isApart_91 : decode cX3_isApart 91 = .ok (.iload_n 1, 1) := by decide +kernel
theorem dX3_isApart_92 : decode cX3_isApart 92 = .ok (.sipush 300, 3) := by decide +kernel
theorem dX3_isApart_95 : decode cX3_isApart 95 = .ok (.if_icmp .ge 44, 3) := by decide +kernel
theorem dX3_isApart_98 : decode cX3_isApart 98 = .ok (.iload_n 1, 1) := by decide +kernel
theorem dX3_isApart_99 : decode cX3_isApart 99 = .ok (.sipush 200, 3) := by decide +kernel
theorem dX3_isApart_102 : decode cX3_isApart 102 = .ok (.isub, 1) := by decide +kernel
theorem dX3_isApart_103 : decode cX3_isApart 103 = .ok (.aload_n 0, 1) := by decide +kernel
theorem dX3_isApart_104 : decode cX3_isApart 104 = .ok (.getfield 54, 3) := by decide +kernel
theorem dX3_isApart_107 : decode cX3_isApart 107 = .ok (.if_icmp .ge 30, 3) := by decide +kernel
theorem dX3_isApart_110 : decode cX3_isApart 110 = .ok (.aload_n 0, 1) := by decide +kernel
theorem dX3_isApart_111 : decode cX3_isApart 111 = .ok (.getfield 20, 3) := by decide +kernel
theorem dX3_isApart_114 : decode cX3_isApart 114 = .ok (.iload_n 1, 1) := by decide +kernel
theorem dX3_isApart_115 : decode cX3_isApart 115 = .ok (.sipush 200, 3) := by decide +kernel
theorem dX3_isApart_118 : decode cX3_isApart 118 = .ok (.isub, 1) := by decide +kernel
theorem dX3_isApart_119 : decode cX3_isApart 119 = .ok (.iaload, 1) := by decide +kernel
theorem dX3_isApart_120 : decode cX3_isApart 120 = .ok (.aload_n 0, 1) := by decide +kernel
theorem dX3_isApart_121 : decode cX3_isApart 121 = .ok (.getfield 20, 3) := by decide +kernel
theorem dX3_isApart_124 : decode cX3_isApart 124 = .ok (.iload_n 1, 1) := by decide +kernel
theorem dX3_isApart_125 : decode cX3_isApart 125 = .ok (.sipush 196, 3) := by decide +kernel
theorem dX3_isApart_128 : decode cX3_isApart 128 = .ok (.isub, 1) := by decide +kernel
theorem dX3_isApart_129 : decode cX3_isApart 129 = .ok (.iaload, 1) := by decide +kernel
theorem dX3_isApart_130 : decode cX3_isApart 130 = .ok (.if_icmp .eq 7, 3) := by decide +kernel
theorem dX3_isApart_133 : decode cX3_isApart 133 = .ok (.iconst 1, 1) := by decide +kernel
theorem dX3_isApart_134 : decode cX3_isApart 134 = .ok (.goto 4, 3) := by decide +kernel
theorem dX3_isApart_137 : decode cX3_isApart 137 = .ok (.iconst 0, 1) := by decide +kernel
theorem dX3_isApart_138 : decode cX3_isApart 138 = .ok (.ireturn, 1) := by decide +kernel
theorem dX3_isApart_139 : decode cX3_isApart 139 = .ok (.aload_n 0, 1) := by decide +kernel
theorem dX3_isApart_140 : decode cX3_isApart 140 = .ok (.getfield 29, 3) := by decide +kernel
theorem dX3_isApart_143 : decode cX3_isApart 143 = .ok (.iconst 0, 1) := by decide +kernel
theorem dX3_isApart_144 : decode cX3_isApart 144 = .ok (.iaload, 1) := by decide +kernel
theorem dX3_isApart_145 : decode cX3_isApart 145 = .ok (.aload_n 0, 1) := by decide +kernel
theorem dX3_isApart_146 : decode cX3_isApart 146 = .ok (.getfield 29, 3) := by decide +kernel
theorem dX3_isApart_149 : decode cX3_isApart 149 = .ok (.iconst 1, 1) := by decide +kernel
theorem dX3_isApart_150 : decode cX3_isApart 150 = .ok (.iaload, 1) := by decide +kernel
theorem dX3_isApart_151 : decode cX3_isApart 151 = .ok (.if_icmp .eq 7, 3) := by decide +kernel
theorem dX3_isApart_154 : decode cX3_isApart 154 = .ok (.iconst 1, 1) := by decide +kernel
theorem dX3_isApart_155 : decode cX3_isApart 155 = .ok (.goto 4, 3) := by decide +kernel
theorem dX3_isApart_158 : decode cX3_isApart 158 = .ok (.iconst 0, 1) := by decide +kernel
theorem dX3_isApart_159 : decode cX3_isApart 159 = .ok (.ireturn, 1) := by decide +kernel
theorem dX3_differs_0 : decode cX3_differs 0 = .ok (.aload_n 0, 1) := by decide +kernel
theorem dX3_differs_1 : decode cX3_differs 1 = .ok (.iload_n 1, 1) := by decide +kernel
theorem dX3_differs_2 : decode cX3_differs 2 = .ok (.ifCond .ge 7, 3) := by decide +kernel
theorem dX3_differs_5 : decode cX3_differs 5 = .ok (.iconst 1, 1) := by decide +kernel
theorem dX3_differs_6 : decode cX3_differs 6 = .ok (.goto 4, 3) := by decide +kernel
theorem dX3_differs_9 : decode cX3_differs 9 = .ok (.iconst 0, 1) := by decide +kernel
theorem dX3_differs_10 : decode cX3_differs 10 = .ok (.putfield 44, 3) := by decide +kernel
theorem dX3_differs_13 : decode cX3_differs 13 = .ok (.iload_n 1, 1) := by decide +kernel
theorem dX3_differs_14 : decode cX3_differs 14 = .ok (.istore_n 2, 1) := by decide +kernel
theorem dX3_differs_15 : decode cX3_differs 15 = .ok (.iconst 0, 1) := by decide +kernel
theorem dX3_differs_16 : decode cX3_differs 16 = .ok (.istore_n 3, 1) := by decide +kernel
theorem dX3_differs_17 : decode cX3_differs 17 = .ok (.iload_n 3, 1) := by decide +kernel
theorem dX3_differs_18 : decode cX3_differs 18 = .ok (.sipush 300, 3) := by decide +kernel
theorem dX3_differs_21 : decode cX3_differs 21 = .ok (.if_icmp .gt 84, 3) := by decide +kernel
theorem dX3_differs_24 : decode cX3_differs 24 = .ok (.aload_n 0, 1) := by decide +kernel
theorem dX3_differs_25 : decode cX3_differs 25 = .ok (.getfield 44, 3) := by decide +kernel
theorem dX3_differs_28 : decode cX3_differs 28 = .ok (.ifCond .ne 77, 3) := by decide +kernel
theorem dX3_differs_31 : decode cX3_differs 31 = .ok (.iload_n 3, 1) := by decide +kernel
theorem dX3_differs_32 : decode cX3_differs 32 = .ok (.bipush 16, 2) := by decide +kernel
theorem dX3_differs_34 : decode cX3_differs 34 = .ok (.if_icmp .lt 36, 3) := by decide +kernel
theorem dX3_differs_37 : decode cX3_differs 37 = .ok (.iload_n 3, 1) := by decide +kernel
theorem dX3_differs_38 : decode cX3_differs 38 = .ok (.bipush 100, 2) := by decide +kernel
theorem dX3_differs_40 : decode cX3_differs 40 = .ok (.if_icmp .lt 9, 3) := by decide +kernel
theorem dX3_differs_43 : decode cX3_differs 43 = .ok (.iload_n 3, 1) := by decide +kernel
theorem dX3_differs_44 : decode cX3_differs 44 = .ok (.bipush 104, 2) := by decide +kernel
theorem dX3_differs_46 : decode cX3_differs 46 = .ok (.if_icmp .lt 24, 3) := by decide +kernel
theorem dX3_differs_49 : decode cX3_differs 49 = .ok (.iload_n 3, 1) := by decide +kernel
theorem dX3_differs_50 : decode cX3_differs 50 = .ok (.sipush 200, 3) := by decide +kernel
theorem dX3_differs_53 : decode cX3_differs 53 = .ok (.if_icmp .lt 10, 3) := by decide +kernel
theorem dX3_differs_56 : decode cX3_differs 56 = .ok (.iload_n 3, 1) := by decide +kernel
theorem dX3_differs_57 : decode cX3_differs 57 = .ok (.sipush 204, 3) := by decide +kernel
theorem dX3_differs_60 : decode cX3_differs 60 = .ok (.if_icmp .lt 10, 3) := by decide +kernel
theorem dX3_differs_63 : decode cX3_differs 63 = .ok (.iload_n 3, 1) := by decide +kernel
theorem dX3_differs_64 : decode cX3_differs 64 = .ok (.sipush 300, 3) := by decide +kernel
theorem dX3_differs_67 : decode cX3_differs 67 = .ok (.if_icmp .ne 7, 3) := by decide +kernel
theorem dX3_differs_70 : decode cX3_differs 70 = .ok (.iconst 1, 1) := by decide +kernel
theorem dX3_differs_71 : decode cX3_differs 71 = .ok (.goto 4, 3) := by decide +kernel
theorem dX3_differs_74 : decode cX3_differs 74 = .ok (.iconst 0, 1) := by decide +kernel
theorem dX3_differs_75 : decode cX3_differs 75 = .ok (.istore 4, 2) := by decide +kernel
theorem dX3_differs_77 : decode cX3_differs 77 = .ok (.iload 4, 2) := by decide +kernel
theorem dX3_differs_79 : decode cX3_differs 79 = .ok (.ifCond .eq 20, 3) := by decide +kernel
theorem dX3_differs_82 : decode cX3_differs 82 = .ok (.aload_n 0, 1) := by decide +kernel
theorem dX3_differs_83 : decode cX3_differs 83 = .ok (.iload_n 3, 1) := by decide +kernel
theorem dX3_differs_84 : decode cX3_differs 84 = .ok (.invokevirtual 100, 3) := by decide +kernel
theorem dX3_differs_87 : decode cX3_differs 87 = .ok (.ifCond .eq 12, 3) := by decide +kernel
theorem dX3_differs_90 : decode cX3_differs 90 = .ok (.iload_n 2, 1) := by decide +kernel
theorem dX3_differs_91 : decode cX3_differs 91 = .ok (.ifCond .ne 5, 3) := by decide +kernel
theorem dX3_differs_94 : decode cX3_differs 94 = .ok (.iload_n 3, 1) := by decide +kernel
theorem dX3_differs_95 : decode cX3_differs 95 = .ok (.ireturn, 1) := by decide +kernel
theorem dX3_differs_96 : decode cX3_differs 96 = .ok (.iinc 2 (-1), 3) := by decide +kernel
theorem dX3_differs_99 : decode cX3_differs 99 = .ok (.iinc 3 1, 3) := by decide +kernel
theorem dX3_differs_102 : decode cX3_differs 102 = .ok (.goto (-85), 3) := by decide +kernel
theorem dX3_differs_105 : decode cX3_differs 105 = .ok (.aload_n 0, 1) := by decide +kernel
theorem dX3_differs_106 : decode cX3_differs 106 = .ok (.getfield 44, 3) := by decide +kernel
theorem dX3_differs_109 : decode cX3_differs 109 = .ok (.ifCond .le 7, 3) := by decide +kernel
theorem dX3_differs_112 : decode cX3_differs 112 = .ok (.iconst 0, 1) := by decide +kernel
theorem dX3_differs_113 : decode cX3_differs 113 = .ok (.goto 4, 3) := by decide +kernel
theorem dX3_differs_116 : decode cX3_differs 116 = .ok (.iconst (-1), 1) := by decide +kernel
theorem dX3_differs_117 : decode cX3_differs 117 = .ok (.ireturn, 1) := by decide +kernel
theorem dX3_witness_0 : decode cX3_witness 0 = .ok (.iload_n 1, 1) := by decide +kernel
theorem dX3_witness_1 : decode cX3_witness 1 = .ok (.aload_n 0, 1) := by decide +kernel
theorem dX3_witness_2 : decode cX3_witness 2 = .ok (.invokevirtual 97, 3) := by decide +kernel
theorem dX3_witness_5 : decode cX3_witness 5 = .ok (.invokestatic 77, 3) := by decide +kernel
theorem dX3_witness_8 : decode cX3_witness 8 = .ok (.istore_n 2, 1) := by decide +kernel
theorem dX3_witness_9 : decode cX3_witness 9 = .ok (.iload_n 1, 1) := by decide +kernel
theorem dX3_witness_10 : decode cX3_witness 10 = .ok (.bipush 100, 2) := by decide +kernel
theorem dX3_witness_12 : decode cX3_witness 12 = .ok (.isub, 1) := by decide +kernel
theorem dX3_witness_13 : decode cX3_witness 13 = .ok (.aload_n 0, 1) := by decide +kernel
theorem dX3_witness_14 : decode cX3_witness 14 = .ok (.getfield 54, 3) := by decide +kernel
theorem dX3_witness_17 : decode cX3_witness 17 = .ok (.invokestatic 77, 3) := by decide +kernel
theorem dX3_witness_20 : decode cX3_witness 20 = .ok (.ifCond .eq 13, 3) := by decide +kernel
theorem dX3_witness_23 : decode cX3_witness 23 = .ok (.iload_n 1, 1) := by decide +kernel
theorem dX3_witness_24 : decode cX3_witness 24 = .ok (.bipush 100, 2) := by decide +kernel
theorem dX3_witness_26 : decode cX3_witness 26 = .ok (.if_icmp .lt 7, 3) := by decide +kernel
theorem dX3_witness_29 : decode cX3_witness 29 = .ok (.iconst 1, 1) := by decide +kernel
theorem dX3_witness_30 : decode cX3_witness 30 = .ok (.goto 4, 3) := by decide +kernel
theorem dX3_witness_33 : decode cX3_witness 33 = .ok (.iconst 0, 1) := by decide +kernel
theorem dX3_witness_34 : decode cX3_witness 34 = .ok (.istore_n 3, 1) := by decide +kernel
theorem dX3_witness_35 : decode cX3_witness 35 = .ok (.aload_n 0, 1) := by decide +kernel
theorem dX3_witness_36 : decode cX3_witness 36 = .ok (.iload_n 2, 1) := by decide +kernel
theorem dX3_witness_37 : decode cX3_witness 37 = .ok (.ifCond .ne 7, 3) := by decide +kernel
theorem dX3_witness_40 : decode cX3_witness 40 = .ok (.iload_n 3, 1) := by decide +kernel
theorem dX3_witness_41 : decode cX3_witness 41 = .ok (.ifCond .eq 7, 3) := by decide +kernel
theorem dX3_witness_44 : decode cX3_witness 44 = .ok (.iconst 0, 1) := by decide +kernel
theorem dX3_witness_45 : decode cX3_witness 45 = .ok (.goto 4, 3) := by decide +kernel
theorem dX3_witness_48 : decode cX3_witness 48 = .ok (.iconst 1, 1) := by decide +kernel
theorem dX3_witness_49 : decode cX3_witness 49 = .ok (.putfield 44, 3) := by decide +kernel
theorem dX3_witness_52 : decode cX3_witness 52 = .ok (.aload_n 0, 1) := by decide +kernel
theorem dX3_witness_53 : decode cX3_witness 53 = .ok (.getfield 44, 3) := by decide +kernel
theorem dX3_witness_56 : decode cX3_witness 56 = .ok (.ifCond .le 5, 3) := by decide +kernel
theorem dX3_witness_59 : decode cX3_witness 59 = .ok (.iconst 0, 1) := by decide +kernel
theorem dX3_witness_60 : decode cX3_witness 60 = .ok (.ireturn, 1) := by decide +kernel
theorem dX3_witness_61 : decode cX3_witness 61 = .ok (.iload_n 2, 1) := by decide +kernel
theorem dX3_witness_62 : decode cX3_witness 62 = .ok (.ifCond .eq 12, 3) := by decide +kernel
theorem dX3_witness_65 : decode cX3_witness 65 = .ok (.aload_n 0, 1) := by decide +kernel
theorem dX3_witness_66 : decode cX3_witness 66 = .ok (.getfield 32, 3) := by decide +kernel
theorem dX3_witness_69 : decode cX3_witness 69 = .ok (.iload_n 1, 1) := by decide +kernel
theorem dX3_witness_70 : decode cX3_witness 70 = .ok (.iaload, 1) := by decide +kernel
theorem dX3_witness_71 : decode cX3_witness 71 = .ok (.goto 12, 3) := by decide +kernel
theorem dX3_witness_74 : decode cX3_witness 74 = .ok (.aload_n 0, 1) := by decide +kernel
theorem dX3_witness_75 : decode cX3_witness 75 = .ok (.getfield 23, 3) := by decide +kernel
theorem dX3_witness_78 : decode cX3_witness 78 = .ok (.iload_n 1, 1) := by decide +kernel
theorem dX3_witness_79 : decode cX3_witness 79 = .ok (.bipush 100, 2) := by decide +kernel
theorem dX3_witness_81 : decode cX3_witness 81 = .ok (.isub, 1) := by decide +kernel
theorem dX3_witness_82 : decode cX3_witness 82 = .ok (.iaload, 1) := by decide +kernel
theorem dX3_witness_83 : decode cX3_witness 83 = .ok (.istore 4, 2) := by decide +kernel
theorem dX3_witness_85 : decode cX3_witness 85 = .ok (.iload_n 2, 1) := by decide +kernel
theorem dX3_witness_86 : decode cX3_witness 86 = .ok (.ifCond .eq 15, 3) := by decide +kernel
theorem dX3_witness_89 : decode cX3_witness 89 = .ok (.aload_n 0, 1) := by decide +kernel
theorem dX3_witness_90 : decode cX3_witness 90 = .ok (.getfield 32, 3) := by decide +kernel
theorem dX3_witness_93 : decode cX3_witness 93 = .ok (.bipush 16, 2) := by decide +kernel
theorem dX3_witness_95 : decode cX3_witness 95 = .ok (.iload_n 1, 1) := by decide +kernel
theorem dX3_witness_96 : decode cX3_witness 96 = .ok (.iadd, 1) := by decide +kernel
theorem dX3_witness_97 : decode cX3_witness 97 = .ok (.iaload, 1) := by decide +kernel
theorem dX3_witness_98 : decode cX3_witness 98 = .ok (.goto 12, 3) := by decide +kernel
theorem dX3_witness_101 : decode cX3_witness 101 = .ok (.aload_n 0, 1) := by decide +kernel
theorem dX3_witness_102 : decode cX3_witness 102 = .ok (.getfield 23, 3) := by decide +kernel
theorem dX3_witness_105 : decode cX3_witness 105 = .ok (.iload_n 1, 1) := by decide +kernel
theorem dX3_witness_106 : decode cX3_witness 106 = .ok (.bipush 96, 2) := by decide +kernel
theorem dX3_witness_108 : decode cX3_witness 108 = .ok (.isub, 1) := by decide +kernel
theorem dX3_witness_109 : decode cX3_witness 109 = .ok (.iaload, 1) := by decide +kernel
theorem dX3_witness_110 : decode cX3_witness 110 = .ok (.istore 5, 2) := by decide +kernel
theorem dX3_witness_112 : decode cX3_witness 112 = .ok (.iconst 0, 1) := by decide +kernel
theorem dX3_witness_113 : decode cX3_witness 113 = .ok (.istore 6, 2) := by decide +kernel
theorem dX3_witness_115 : decode cX3_witness 115 = .ok (.iload 6, 2) := by decide +kernel
theorem dX3_witness_117 : decode cX3_witness 117 = .ok (.sipush 4096, 3) := by decide +kernel
theorem dX3_witness_120 : decode cX3_witness 120 = .ok (.if_icmp .ge 31, 3) := by decide +kernel
theorem dX3_witness_123 : decode cX3_witness 123 = .ok (.aload_n 0, 1) := by decide +kernel
theorem dX3_witness_124 : decode cX3_witness 124 = .ok (.iload 4, 2) := by decide +kernel
theorem dX3_witness_126 : decode cX3_witness 126 = .ok (.iload 6, 2) := by decide +kernel
theorem dX3_witness_128 : decode cX3_witness 128 = .ok (.invokevirtual 89, 3) := by decide +kernel
theorem dX3_witness_131 : decode cX3_witness 131 = .ok (.aload_n 0, 1) := by decide +kernel
theorem dX3_witness_132 : decode cX3_witness 132 = .ok (.iload 5, 2) := by decide +kernel
theorem dX3_witness_134 : decode cX3_witness 134 = .ok (.iload 6, 2) := by decide +kernel
theorem dX3_witness_136 : decode cX3_witness 136 = .ok (.invokevirtual 89, 3) := by decide +kernel
theorem dX3_witness_139 : decode cX3_witness 139 = .ok (.if_icmp .eq 6, 3) := by decide +kernel
theorem dX3_witness_142 : decode cX3_witness 142 = .ok (.iload 6, 2) := by decide +kernel
theorem dX3_witness_144 : decode cX3_witness 144 = .ok (.ireturn, 1) := by decide +kernel
theorem dX3_witness_145 : decode cX3_witness 145 = .ok (.iinc 6 1, 3) := by decide +kernel
theorem dX3_witness_148 : decode cX3_witness 148 = .ok (.goto (-33), 3) := by decide +kernel
theorem dX3_witness_151 : decode cX3_witness 151 = .ok (.iconst (-1), 1) := by decide +kernel
theorem dX3_witness_152 : decode cX3_witness 152 = .ok (.ireturn, 1) := by decide +kernel
theorem dX3_start_0 : decode cX3_start 0 = .ok (.iconst 0, 1) := by decide +kernel
theorem dX3_start_1 : decode cX3_start 1 = .ok (.istore_n 1, 1) := by decide +kernel
theorem dX3_start_2 : decode cX3_start 2 = .ok (.iload_n 1, 1) := by decide +kernel
theorem dX3_start_3 : decode cX3_start 3 = .ok (.bipush 8, 2) := by decide +kernel
theorem dX3_start_5 : decode cX3_start 5 = .ok (.if_icmp .ge 21, 3) := by decide +kernel
theorem dX3_start_8 : decode cX3_start 8 = .ok (.aload_n 0, 1) := by decide +kernel
theorem dX3_start_9 : decode cX3_start 9 = .ok (.getfield 26, 3) := by decide +kernel
theorem dX3_start_12 : decode cX3_start 12 = .ok (.iload_n 1, 1) := by decide +kernel
theorem dX3_start_13 : decode cX3_start 13 = .ok (.aload_n 0, 1) := by decide +kernel
theorem dX3_start_14 : decode cX3_start 14 = .ok (.getfield 20, 3) := by decide +kernel
theorem dX3_start_17 : decode cX3_start 17 = .ok (.iload_n 1, 1) := by decide +kernel
theorem dX3_start_18 : decode cX3_start 18 = .ok (.iaload, 1) := by decide +kernel
theorem dX3_start_19 : decode cX3_start 19 = .ok (.iastore, 1) := by decide +kernel
theorem dX3_start_20 : decode cX3_start 20 = .ok (.iinc 1 1, 3) := by decide +kernel
theorem dX3_start_23 : decode cX3_start 23 = .ok (.goto (-21), 3) := by decide +kernel
theorem dX3_start_26 : decode cX3_start 26 = .ok (.aload_n 0, 1) := by decide +kernel
theorem dX3_start_27 : decode cX3_start 27 = .ok (.iconst 0, 1) := by decide +kernel
theorem dX3_start_28 : decode cX3_start 28 = .ok (.putfield 103, 3) := by decide +kernel
theorem dX3_start_31 : decode cX3_start 31 = .ok (.aload_n 0, 1) := by decide +kernel
theorem dX3_start_32 : decode cX3_start 32 = .ok (.iconst (-1), 1) := by decide +kernel
theorem dX3_start_33 : decode cX3_start 33 = .ok (.putfield 106, 3) := by decide +kernel
theorem dX3_start_36 : decode cX3_start 36 = .ok (.aload_n 0, 1) := by decide +kernel
theorem dX3_start_37 : decode cX3_start 37 = .ok (.getfield 38, 3) := by decide +kernel
theorem dX3_start_40 : decode cX3_start 40 = .ok (.iconst 0, 1) := by decide +kernel
theorem dX3_start_41 : decode cX3_start 41 = .ok (.iconst 0, 1) := by decide +kernel
theorem dX3_start_42 : decode cX3_start 42 = .ok (.iastore, 1) := by decide +kernel
theorem dX3_start_43 : decode cX3_start 43 = .ok (.aload_n 0, 1) := by decide +kernel
theorem dX3_start_44 : decode cX3_start 44 = .ok (.getfield 38, 3) := by decide +kernel
theorem dX3_start_47 : decode cX3_start 47 = .ok (.iconst 1, 1) := by decide +kernel
theorem dX3_start_48 : decode cX3_start 48 = .ok (.iconst 0, 1) := by decide +kernel
theorem dX3_start_49 : decode cX3_start 49 = .ok (.iastore, 1) := by decide +kernel
theorem dX3_start_50 : decode cX3_start 50 = .ok (.return_, 1) := by decide +kernel
theorem dX3_reset_0 : decode cX3_reset 0 = .ok (.aload_n 0, 1) := by decide +kernel
theorem dX3_reset_1 : decode cX3_reset 1 = .ok (.iconst 0, 1) := by decide +kernel
theorem dX3_reset_2 : decode cX3_reset 2 = .ok (.putfield 44, 3) := by decide +kernel
theorem dX3_reset_5 : decode cX3_reset 5 = .ok (.aload_n 0, 1) := by decide +kernel
theorem dX3_reset_6 : decode cX3_reset 6 = .ok (.invokevirtual 65, 3) := by decide +kernel
theorem dX3_reset_9 : decode cX3_reset 9 = .ok (.return_, 1) := by decide +kernel
theorem dX3_assignment_0 : decode cX3_assignment 0 = .ok (.iload_n 2, 1) := by decide +kernel
theorem dX3_assignment_1 : decode cX3_assignment 1 = .ok (.iconst 1, 1) := by decide +kernel
theorem dX3_assignment_2 : decode cX3_assignment 2 = .ok (.aload_n 0, 1) := by decide +kernel
theorem dX3_assignment_3 : decode cX3_assignment 3 = .ok (.getfield 51, 3) := by decide +kernel
theorem dX3_assignment_6 : decode cX3_assignment 6 = .ok (.ishl, 1) := by decide +kernel
theorem dX3_assignment_7 : decode cX3_assignment 7 = .ok (.iconst 1, 1) := by decide +kernel
theorem dX3_assignment_8 : decode cX3_assignment 8 = .ok (.isub, 1) := by decide +kernel
theorem dX3_assignment_9 : decode cX3_assignment 9 = .ok (.iand, 1) := by decide +kernel
theorem dX3_assignment_10 : decode cX3_assignment 10 = .ok (.istore_n 3, 1) := by decide +kernel
theorem dX3_assignment_11 : decode cX3_assignment 11 = .ok (.iconst 0, 1) := by decide +kernel
theorem dX3_assignment_12 : decode cX3_assignment 12 = .ok (.istore 4, 2) := by decide +kernel
theorem dX3_assignment_14 : decode cX3_assignment 14 = .ok (.iload 4, 2) := by decide +kernel
theorem dX3_assignment_16 : decode cX3_assignment 16 = .ok (.aload_n 0, 1) := by decide +kernel
theorem dX3_assignment_17 : decode cX3_assignment 17 = .ok (.getfield 54, 3) := by decide +kernel
theorem dX3_assignment_20 : decode cX3_assignment 20 = .ok (.if_icmp .ge 29, 3) := by decide +kernel
theorem dX3_assignment_23 : decode cX3_assignment 23 = .ok (.iload_n 3, 1) := by decide +kernel
theorem dX3_assignment_24 : decode cX3_assignment 24 = .ok (.aload_n 0, 1) := by decide +kernel
theorem dX3_assignment_25 : decode cX3_assignment 25 = .ok (.getfield 26, 3) := by decide +kernel
theorem dX3_assignment_28 : decode cX3_assignment 28 = .ok (.iconst 4, 1) := by decide +kernel
theorem dX3_assignment_29 : decode cX3_assignment 29 = .ok (.iload_n 1, 1) := by decide +kernel
theorem dX3_assignment_30 : decode cX3_assignment 30 = .ok (.imul, 1) := by decide +kernel
theorem dX3_assignment_31 : decode cX3_assignment 31 = .ok (.iload 4, 2) := by decide +kernel
theorem dX3_assignment_33 : decode cX3_assignment 33 = .ok (.iadd, 1) := by decide +kernel
theorem dX3_assignment_34 : decode cX3_assignment 34 = .ok (.iaload, 1) := by decide +kernel
theorem dX3_assignment_35 : decode cX3_assignment 35 = .ok (.bipush 8, 2) := by decide +kernel
theorem dX3_assignment_37 : decode cX3_assignment 37 = .ok (.iload 4, 2) := by decide +kernel
theorem dX3_assignment_39 : decode cX3_assignment 39 = .ok (.iadd, 1) := by decide +kernel
theorem dX3_assignment_40 : decode cX3_assignment 40 = .ok (.ishl, 1) := by decide +kernel
theorem dX3_assignment_41 : decode cX3_assignment 41 = .ok (.ior, 1) := by decide +kernel
theorem dX3_assignment_42 : decode cX3_assignment 42 = .ok (.istore_n 3, 1) := by decide +kernel
theorem dX3_assignment_43 : decode cX3_assignment 43 = .ok (.iinc 4 1, 3) := by decide +kernel
theorem dX3_assignment_46 : decode cX3_assignment 46 = .ok (.goto (-32), 3) := by decide +kernel
theorem dX3_assignment_49 : decode cX3_assignment 49 = .ok (.iload_n 3, 1) := by decide +kernel
theorem dX3_assignment_50 : decode cX3_assignment 50 = .ok (.ireturn, 1) := by decide +kernel
theorem dX3_step_0 : decode cX3_step 0 = .ok (.aload_n 0, 1) := by decide +kernel
