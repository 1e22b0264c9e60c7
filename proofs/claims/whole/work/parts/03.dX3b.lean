theorem dX3_merged_29 : decode cX3_merged 29 = .ok (.getfield 44, 3) := by decide +kernel
theorem dX3_merged_32 : decode cX3_merged 32 = .ok (.ifCond .ne 35, 3) := by decide +kernel
theorem dX3_merged_35 : decode cX3_merged 35 = .ok (.aload_n 0, 1) := by decide +kernel
theorem dX3_merged_36 : decode cX3_merged 36 = .ok (.getfield 7, 3) := by decide +kernel
theorem dX3_merged_39 : decode cX3_merged 39 = .ok (.iload_n 3, 1) := by decide +kernel
theorem dX3_merged_40 : decode cX3_merged 40 = .ok (.iaload, 1) := by decide +kernel
theorem dX3_merged_41 : decode cX3_merged 41 = .ok (.iload_n 1, 1) := by decide +kernel
theorem dX3_merged_42 : decode cX3_merged 42 = .ok (.if_icmp .ne 17, 3) := by decide +kernel
theorem dX3_merged_45 : decode cX3_merged 45 = .ok (.aload_n 0, 1) := by decide +kernel
theorem dX3_merged_46 : decode cX3_merged 46 = .ok (.iload_n 3, 1) := by decide +kernel
theorem dX3_merged_47 : decode cX3_merged 47 = .ok (.invokevirtual 86, 3) := by decide +kernel
theorem dX3_merged_50 : decode cX3_merged 50 = .ok (.ifCond .ne 9, 3) := by decide +kernel
theorem dX3_merged_53 : decode cX3_merged 53 = .ok (.iload_n 2, 1) := by decide +kernel
theorem dX3_merged_54 : decode cX3_merged 54 = .ok (.iconst 1, 1) := by decide +kernel
theorem dX3_merged_55 : decode cX3_merged 55 = .ok (.iadd, 1) := by decide +kernel
theorem dX3_merged_56 : decode cX3_merged 56 = .ok (.goto 4, 3) := by decide +kernel
theorem dX3_merged_59 : decode cX3_merged 59 = .ok (.iload_n 2, 1) := by decide +kernel
theorem dX3_merged_60 : decode cX3_merged 60 = .ok (.istore_n 2, 1) := by decide +kernel
theorem dX3_merged_61 : decode cX3_merged 61 = .ok (.iinc 3 1, 3) := by decide +kernel
theorem dX3_merged_64 : decode cX3_merged 64 = .ok (.goto (-44), 3) := by decide +kernel
theorem dX3_merged_67 : decode cX3_merged 67 = .ok (.iload_n 2, 1) := by decide +kernel
theorem dX3_merged_68 : decode cX3_merged 68 = .ok (.ireturn, 1) := by decide +kernel
theorem dX3_hangs_0 : decode cX3_hangs 0 = .ok (.aload_n 0, 1) := by decide +kernel
theorem dX3_hangs_1 : decode cX3_hangs 1 = .ok (.aload_n 0, 1) := by decide +kernel
theorem dX3_hangs_2 : decode cX3_hangs 2 = .ok (.iload_n 1, 1) := by decide +kernel
theorem dX3_hangs_3 : decode cX3_hangs 3 = .ok (.invokevirtual 68, 3) := by decide +kernel
theorem dX3_hangs_6 : decode cX3_hangs 6 = .ok (.ifCond .eq 7, 3) := by decide +kernel
theorem dX3_hangs_9 : decode cX3_hangs 9 = .ok (.iconst 0, 1) := by decide +kernel
theorem dX3_hangs_10 : decode cX3_hangs 10 = .ok (.goto 4, 3) := by decide +kernel
theorem dX3_hangs_13 : decode cX3_hangs 13 = .ok (.iconst 1, 1) := by decide +kernel
theorem dX3_hangs_14 : decode cX3_hangs 14 = .ok (.putfield 44, 3) := by decide +kernel
theorem dX3_hangs_17 : decode cX3_hangs 17 = .ok (.iconst 0, 1) := by decide +kernel
theorem dX3_hangs_18 : decode cX3_hangs 18 = .ok (.istore_n 2, 1) := by decide +kernel
theorem dX3_hangs_19 : decode cX3_hangs 19 = .ok (.iconst 0, 1) := by decide +kernel
theorem dX3_hangs_20 : decode cX3_hangs 20 = .ok (.istore_n 3, 1) := by decide +kernel
theorem dX3_hangs_21 : decode cX3_hangs 21 = .ok (.iload_n 3, 1) := by decide +kernel
theorem dX3_hangs_22 : decode cX3_hangs 22 = .ok (.bipush 12, 2) := by decide +kernel
theorem dX3_hangs_24 : decode cX3_hangs 24 = .ok (.if_icmp .ge 60, 3) := by decide +kernel
theorem dX3_hangs_27 : decode cX3_hangs 27 = .ok (.aload_n 0, 1) := by decide +kernel
theorem dX3_hangs_28 : decode cX3_hangs 28 = .ok (.getfield 44, 3) := by decide +kernel
theorem dX3_hangs_31 : decode cX3_hangs 31 = .ok (.ifCond .ne 53, 3) := by decide +kernel
theorem dX3_hangs_34 : decode cX3_hangs 34 = .ok (.iconst 0, 1) := by decide +kernel
theorem dX3_hangs_35 : decode cX3_hangs 35 = .ok (.istore 4, 2) := by decide +kernel
theorem dX3_hangs_37 : decode cX3_hangs 37 = .ok (.iload 4, 2) := by decide +kernel
theorem dX3_hangs_39 : decode cX3_hangs 39 = .ok (.sipush 4096, 3) := by decide +kernel
theorem dX3_hangs_42 : decode cX3_hangs 42 = .ok (.if_icmp .ge 36, 3) := by decide +kernel
theorem dX3_hangs_45 : decode cX3_hangs 45 = .ok (.aload_n 0, 1) := by decide +kernel
theorem dX3_hangs_46 : decode cX3_hangs 46 = .ok (.iload_n 1, 1) := by decide +kernel
theorem dX3_hangs_47 : decode cX3_hangs 47 = .ok (.iload 4, 2) := by decide +kernel
theorem dX3_hangs_49 : decode cX3_hangs 49 = .ok (.invokevirtual 89, 3) := by decide +kernel
theorem dX3_hangs_52 : decode cX3_hangs 52 = .ok (.aload_n 0, 1) := by decide +kernel
theorem dX3_hangs_53 : decode cX3_hangs 53 = .ok (.iload_n 1, 1) := by decide +kernel
theorem dX3_hangs_54 : decode cX3_hangs 54 = .ok (.iload 4, 2) := by decide +kernel
theorem dX3_hangs_56 : decode cX3_hangs 56 = .ok (.iconst 1, 1) := by decide +kernel
theorem dX3_hangs_57 : decode cX3_hangs 57 = .ok (.iload_n 3, 1) := by decide +kernel
theorem dX3_hangs_58 : decode cX3_hangs 58 = .ok (.ishl, 1) := by decide +kernel
theorem dX3_hangs_59 : decode cX3_hangs 59 = .ok (.ixor, 1) := by decide +kernel
theorem dX3_hangs_60 : decode cX3_hangs 60 = .ok (.invokevirtual 89, 3) := by decide +kernel
theorem dX3_hangs_63 : decode cX3_hangs 63 = .ok (.if_icmp .eq 9, 3) := by decide +kernel
theorem dX3_hangs_66 : decode cX3_hangs 66 = .ok (.iload_n 2, 1) := by decide +kernel
theorem dX3_hangs_67 : decode cX3_hangs 67 = .ok (.iconst 1, 1) := by decide +kernel
theorem dX3_hangs_68 : decode cX3_hangs 68 = .ok (.iload_n 3, 1) := by decide +kernel
theorem dX3_hangs_69 : decode cX3_hangs 69 = .ok (.ishl, 1) := by decide +kernel
theorem dX3_hangs_70 : decode cX3_hangs 70 = .ok (.ior, 1) := by decide +kernel
theorem dX3_hangs_71 : decode cX3_hangs 71 = .ok (.istore_n 2, 1) := by decide +kernel
theorem dX3_hangs_72 : decode cX3_hangs 72 = .ok (.iinc 4 1, 3) := by decide +kernel
theorem dX3_hangs_75 : decode cX3_hangs 75 = .ok (.goto (-38), 3) := by decide +kernel
theorem dX3_hangs_78 : decode cX3_hangs 78 = .ok (.iinc 3 1, 3) := by decide +kernel
theorem dX3_hangs_81 : decode cX3_hangs 81 = .ok (.goto (-60), 3) := by decide +kernel
theorem dX3_hangs_84 : decode cX3_hangs 84 = .ok (.iload_n 2, 1) := by decide +kernel
theorem dX3_hangs_85 : decode cX3_hangs 85 = .ok (.ireturn, 1) := by decide +kernel
theorem dX3_ones_0 : decode cX3_ones 0 = .ok (.aload_n 0, 1) := by decide +kernel
theorem dX3_ones_1 : decode cX3_ones 1 = .ok (.aload_n 0, 1) := by decide +kernel
theorem dX3_ones_2 : decode cX3_ones 2 = .ok (.iload_n 1, 1) := by decide +kernel
theorem dX3_ones_3 : decode cX3_ones 3 = .ok (.invokevirtual 68, 3) := by decide +kernel
theorem dX3_ones_6 : decode cX3_ones 6 = .ok (.ifCond .eq 7, 3) := by decide +kernel
theorem dX3_ones_9 : decode cX3_ones 9 = .ok (.iconst 0, 1) := by decide +kernel
theorem dX3_ones_10 : decode cX3_ones 10 = .ok (.goto 4, 3) := by decide +kernel
theorem dX3_ones_13 : decode cX3_ones 13 = .ok (.iconst 1, 1) := by decide +kernel
theorem dX3_ones_14 : decode cX3_ones 14 = .ok (.putfield 44, 3) := by decide +kernel
theorem dX3_ones_17 : decode cX3_ones 17 = .ok (.iconst 0, 1) := by decide +kernel
theorem dX3_ones_18 : decode cX3_ones 18 = .ok (.istore_n 2, 1) := by decide +kernel
theorem dX3_ones_19 : decode cX3_ones 19 = .ok (.iconst 0, 1) := by decide +kernel
theorem dX3_ones_20 : decode cX3_ones 20 = .ok (.istore_n 3, 1) := by decide +kernel
theorem dX3_ones_21 : decode cX3_ones 21 = .ok (.iload_n 3, 1) := by decide +kernel
theorem dX3_ones_22 : decode cX3_ones 22 = .ok (.sipush 4096, 3) := by decide +kernel
theorem dX3_ones_25 : decode cX3_ones 25 = .ok (.if_icmp .ge 35, 3) := by decide +kernel
theorem dX3_ones_28 : decode cX3_ones 28 = .ok (.aload_n 0, 1) := by decide +kernel
theorem dX3_ones_29 : decode cX3_ones 29 = .ok (.getfield 44, 3) := by decide +kernel
theorem dX3_ones_32 : decode cX3_ones 32 = .ok (.ifCond .ne 28, 3) := by decide +kernel
theorem dX3_ones_35 : decode cX3_ones 35 = .ok (.iload_n 3, 1) := by decide +kernel
theorem dX3_ones_36 : decode cX3_ones 36 = .ok (.aload_n 0, 1) := by decide +kernel
theorem dX3_ones_37 : decode cX3_ones 37 = .ok (.invokevirtual 93, 3) := by decide +kernel
theorem dX3_ones_40 : decode cX3_ones 40 = .ok (.iand, 1) := by decide +kernel
theorem dX3_ones_41 : decode cX3_ones 41 = .ok (.iload_n 3, 1) := by decide +kernel
theorem dX3_ones_42 : decode cX3_ones 42 = .ok (.if_icmp .ne 12, 3) := by decide +kernel
theorem dX3_ones_45 : decode cX3_ones 45 = .ok (.iload_n 2, 1) := by decide +kernel
theorem dX3_ones_46 : decode cX3_ones 46 = .ok (.aload_n 0, 1) := by decide +kernel
theorem dX3_ones_47 : decode cX3_ones 47 = .ok (.iload_n 1, 1) := by decide +kernel
theorem dX3_ones_48 : decode cX3_ones 48 = .ok (.iload_n 3, 1) := by decide +kernel
theorem dX3_ones_49 : decode cX3_ones 49 = .ok (.invokevirtual 89, 3) := by decide +kernel
theorem dX3_ones_52 : decode cX3_ones 52 = .ok (.iadd, 1) := by decide +kernel
theorem dX3_ones_53 : decode cX3_ones 53 = .ok (.istore_n 2, 1) := by decide +kernel
theorem dX3_ones_54 : decode cX3_ones 54 = .ok (.iinc 3 1, 3) := by decide +kernel
theorem dX3_ones_57 : decode cX3_ones 57 = .ok (.goto (-36), 3) := by decide +kernel
theorem dX3_ones_60 : decode cX3_ones 60 = .ok (.iload_n 2, 1) := by decide +kernel
theorem dX3_ones_61 : decode cX3_ones 61 = .ok (.ireturn, 1) := by decide +kernel
theorem dX3_value_0 : decode cX3_value 0 = .ok (.aload_n 0, 1) := by decide +kernel
theorem dX3_value_1 : decode cX3_value 1 = .ok (.aload_n 0, 1) := by decide +kernel
theorem dX3_value_2 : decode cX3_value 2 = .ok (.iload_n 1, 1) := by decide +kernel
theorem dX3_value_3 : decode cX3_value 3 = .ok (.invokevirtual 68, 3) := by decide +kernel
theorem dX3_value_6 : decode cX3_value 6 = .ok (.ifCond .eq 7, 3) := by decide +kernel
theorem dX3_value_9 : decode cX3_value 9 = .ok (.iconst 0, 1) := by decide +kernel
theorem dX3_value_10 : decode cX3_value 10 = .ok (.goto 4, 3) := by decide +kernel
theorem dX3_value_13 : decode cX3_value 13 = .ok (.iconst 1, 1) := by decide +kernel
theorem dX3_value_14 : decode cX3_value 14 = .ok (.putfield 44, 3) := by decide +kernel
theorem dX3_value_17 : decode cX3_value 17 = .ok (.aload_n 0, 1) := by decide +kernel
theorem dX3_value_18 : decode cX3_value 18 = .ok (.getfield 44, 3) := by decide +kernel
theorem dX3_value_21 : decode cX3_value 21 = .ok (.ifCond .le 7, 3) := by decide +kernel
theorem dX3_value_24 : decode cX3_value 24 = .ok (.iconst 0, 1) := by decide +kernel
theorem dX3_value_25 : decode cX3_value 25 = .ok (.goto 14, 3) := by decide +kernel
theorem dX3_value_28 : decode cX3_value 28 = .ok (.aload_n 0, 1) := by decide +kernel
theorem dX3_value_29 : decode cX3_value 29 = .ok (.iload_n 1, 1) := by decide +kernel
theorem dX3_value_30 : decode cX3_value 30 = .ok (.iload_n 2, 1) := by decide +kernel
theorem dX3_value_31 : decode cX3_value 31 = .ok (.aload_n 0, 1) := by decide +kernel
theorem dX3_value_32 : decode cX3_value 32 = .ok (.invokevirtual 93, 3) := by decide +kernel
theorem dX3_value_35 : decode cX3_value 35 = .ok (.iand, 1) := by decide +kernel
theorem dX3_value_36 : decode cX3_value 36 = .ok (.invokevirtual 89, 3) := by decide +kernel
theorem dX3_value_39 : decode cX3_value 39 = .ok (.ireturn, 1) := by decide +kernel
theorem dX3_both_0 : decode cX3_both 0 = .ok (.aload_n 0, 1) := by decide +kernel
theorem dX3_both_1 : decode cX3_both 1 = .ok (.getfield 29, 3) := by decide +kernel
theorem dX3_both_4 : decode cX3_both 4 = .ok (.iconst 0, 1) := by decide +kernel
theorem dX3_both_5 : decode cX3_both 5 = .ok (.iaload, 1) := by decide +kernel
theorem dX3_both_6 : decode cX3_both 6 = .ok (.aload_n 0, 1) := by decide +kernel
theorem dX3_both_7 : decode cX3_both 7 = .ok (.getfield 29, 3) := by decide +kernel
theorem dX3_both_10 : decode cX3_both 10 = .ok (.iconst 1, 1) := by decide +kernel
theorem dX3_both_11 : decode cX3_both 11 = .ok (.iaload, 1) := by decide +kernel
theorem dX3_both_12 : decode cX3_both 12 = .ok (.if_icmp .ge 12, 3) := by decide +kernel
theorem dX3_both_15 : decode cX3_both 15 = .ok (.aload_n 0, 1) := by decide +kernel
theorem dX3_both_16 : decode cX3_both 16 = .ok (.getfield 29, 3) := by decide +kernel
theorem dX3_both_19 : decode cX3_both 19 = .ok (.iconst 0, 1) := by decide +kernel
theorem dX3_both_20 : decode cX3_both 20 = .ok (.iaload, 1) := by decide +kernel
theorem dX3_both_21 : decode cX3_both 21 = .ok (.goto 9, 3) := by decide +kernel
theorem dX3_both_24 : decode cX3_both 24 = .ok (.aload_n 0, 1) := by decide +kernel
theorem dX3_both_25 : decode cX3_both 25 = .ok (.getfield 29, 3) := by decide +kernel
theorem dX3_both_28 : decode cX3_both 28 = .ok (.iconst 1, 1) := by decide +kernel
theorem dX3_both_29 : decode cX3_both 29 = .ok (.iaload, 1) := by decide +kernel
theorem dX3_both_30 : decode cX3_both 30 = .ok (.ireturn, 1) := by decide +kernel
theorem dX3_isApart_0 : decode cX3_isApart 0 = .ok (.iload_n 1, 1) := by decide +kernel
theorem dX3_isApart_1 : decode cX3_isApart 1 = .ok (.bipush 100, 2) := by decide +kernel
theorem dX3_isApart_3 : decode cX3_isApart 3 = .ok (.if_icmp .ge 39, 3) := by decide +kernel
theorem dX3_isApart_6 : decode cX3_isApart 6 = .ok (.iload_n 1, 1) := by decide +kernel
theorem dX3_isApart_7 : decode cX3_isApart 7 = .ok (.aload_n 0, 1) := by decide +kernel
theorem dX3_isApart_8 : decode cX3_isApart 8 = .ok (.invokevirtual 97, 3) := by decide +kernel
theorem dX3_isApart_11 : decode cX3_isApart 11 = .ok (.if_icmp .ge 29, 3) := by decide +kernel
theorem dX3_isApart_14 : decode cX3_isApart 14 = .ok (.aload_n 0, 1) := by decide +kernel
theorem dX3_isApart_15 : decode cX3_isApart 15 = .ok (.aload_n 0, 1) := by decide +kernel
theorem dX3_isApart_16 : decode cX3_isApart 16 = .ok (.getfield 32, 3) := by decide +kernel
theorem dX3_isApart_19 : decode cX3_isApart 19 = .ok (.iload_n 1, 1) := by decide +kernel
theorem dX3_isApart_20 : decode cX3_isApart 20 = .ok (.iaload, 1) := by decide +kernel
theorem dX3_isApart_21 : decode cX3_isApart 21 = .ok (.aload_n 0, 1) := by decide +kernel
theorem dX3_isApart_22 : decode cX3_isApart 22 = .ok (.getfield 32, 3) := by decide +kernel
theorem dX3_isApart_25 : decode cX3_isApart 25 = .ok (.bipush 16, 2) := by decide +kernel
theorem dX3_isApart_27 : decode cX3_isApart 27 = .ok (.iload_n 1, 1) := by decide +kernel
theorem dX3_isApart_28 : decode cX3_isApart 28 = .ok (.iadd, 1) := by decide +kernel
theorem dX3_isApart_29 : decode cX3_isApart 29 = .ok (.iaload, 1) := by decide +kernel
theorem dX3_isApart_30 : decode cX3_isApart 30 = .ok (.invokevirtual 80, 3) := by decide +kernel
theorem dX3_isApart_33 : decode cX3_isApart 33 = .ok (.ifCond .ne 7, 3) := by decide +kernel
theorem dX3_isApart_36 : decode cX3_isApart 36 = .ok (.iconst 1, 1) := by decide +kernel
theorem dX3_isApart_37 : decode cX3_isApart 37 = .ok (.goto 4, 3) := by decide +kernel
theorem dX3_isApart_40 : decode cX3_isApart 40 = .ok (.iconst 0, 1) := by decide +kernel
theorem dX3_isApart_41 : decode cX3_isApart 41 = .ok (.ireturn, 1) := by decide +kernel
theorem dX3_isApart_42 : decode cX3_isApart 42 = .ok (.iload_n 1, 1) := by decide +kernel
theorem dX3_isApart_43 : decode cX3_isApart 43 = .ok (.sipush 200, 3) := by decide +kernel
theorem dX3_isApart_46 : decode cX3_isApart 46 = .ok (.if_icmp .ge 45, 3) := by decide +kernel
theorem dX3_isApart_49 : decode cX3_isApart 49 = .ok (.iload_n 1, 1) := by decide +kernel
theorem dX3_isApart_50 : decode cX3_isApart 50 = .ok (.bipush 100, 2) := by decide +kernel
theorem dX3_isApart_52 : decode cX3_isApart 52 = .ok (.isub, 1) := by decide +kernel
theorem dX3_isApart_53 : decode cX3_isApart 53 = .ok (.aload_n 0, 1) := by decide +kernel
theorem dX3_isApart_54 : decode cX3_isApart 54 = .ok (.getfield 54, 3) := by decide +kernel
theorem dX3_isApart_57 : decode cX3_isApart 57 = .ok (.if_icmp .ge 32, 3) := by decide +kernel
theorem dX3_isApart_60 : decode cX3_isApart 60 = .ok (.aload_n 0, 1) := by decide +kernel
theorem dX3_isApart_61 : decode cX3_isApart 61 = .ok (.aload_n 0, 1) := by decide +kernel
theorem dX3_isApart_62 : decode cX3_isApart 62 = .ok (.getfield 23, 3) := by decide +kernel
theorem dX3_isApart_65 : decode cX3_isApart 65 = .ok (.iload_n 1, 1) := by decide +kernel
theorem dX3_isApart_66 : decode cX3_isApart 66 = .ok (.bipush 100, 2) := by decide +kernel
theorem dX3_isApart_68 : decode cX3_isApart 68 = .ok (.isub, 1) := by decide +kernel
theorem dX3_isApart_69 : decode cX3_isApart 69 = .ok (.iaload, 1) := by decide +kernel
theorem dX3_isApart_70 : decode cX3_isApart 70 = .ok (.aload_n 0, 1) := by decide +kernel
theorem dX3_isApart_71 : decode cX3_isApart 71 = .ok (.getfield 23, 3) := by decide +kernel
theorem dX3_isApart_74 : decode cX3_isApart 74 = .ok (.iload_n 1, 1) := by decide +kernel
theorem dX3_isApart_75 : decode cX3_isApart 75 = .ok (.bipush 96, 2) := by decide +kernel
theorem dX3_isApart_77 : decode cX3_isApart 77 = .ok (.isub, 1) := by decide +kernel
theorem dX3_isApart_78 : decode cX3_isApart 78 = .ok (.iaload, 1) := by decide +kernel
theorem dX3_isApart_79 : decode cX3_isApart 79 = .ok (.invokevirtual 80, 3) := by decide +kernel
theorem dX3_isApart_82 : decode cX3_isApart 82 = .ok (.ifCond .ne 7, 3) := by decide +kernel
theorem dX3_isApart_85 : decode cX3_isApart 85 = .ok (.iconst 1, 1) := by decide +kernel
theorem dX3_isApart_86 : decode cX3_isApart 86 = .ok (.goto 4, 3) := by decide +kernel
theorem dX3_isApart_89 : decode cX3_isApart 89 = .ok (.iconst 0, 1) := by decide +kernel
theorem dX3_isApart_90 : decode cX3_isApart 90 = .ok (.ireturn, 1) := by decide +kernel
theorem dX3_isApart_91 : decode cX3_isApart 91 = .ok (.iload_n 1, 1) := by decide +kernel
theorem dX3_isApart_92 : decode cX3_isApart 92 = .ok (.sipush 300, 3) := by decide +kernel
theorem dX3_isApart_95 : decode cX3_isApart 95 = .ok (.if_icmp .ge 44, 3) := by decide +kernel
theorem dX3_isApart_98 : decode cX3_isApart 98 = .ok (.iload_n 1, 1) := by decide +kernel
theorem dX3_isApart_99 : decode cX3_isApart 99 = .ok (.sipush 200, 3) := by decide +kernel
theorem dX3_isApart_102 : decode cX3_isApart 102 = .ok (.isub, 1) := by decide +kernel
theorem dX3_isApart_103 : decode cX3_isApart 103 = .ok (.aload_n 0, 1) := by decide +kernel
theorem dX3_isApart_104 : decode cX3_isApart 104 = .ok (.getfield 54, 3) := by decide +kernel
theorem dX3_isApart_107 : decode cX3_isApart 107 = .ok (.if_icmp .ge 30, 3) := by decide +kernel
theorem dX3_isApart_110 : decode cX3_isApart 110 = .ok (.aload_n 0, 1) := by decide +kernel
theorem dX3_isApart_111 : decode cX3_isApart 111 = .ok (.getfield 20, 3) := by decide +kernel
theorem dX3_isApart_114 : decode cX3_isApart 114 = .ok (.iload_n 1, 1) := by decide +kernel
theorem dX3_isApart_115 : decode cX3_isApart 115 = .ok (.sipush 200, 3) := by decide +kernel
theorem dX3_isApart_118 : decode cX3_isApart 118 = .ok (.isub, 1) := by decide +kernel
theorem dX3_isApart_119 : decode cX3_isApart 119 = .ok (.iaload, 1) := by decide +kernel
theorem dX3_isApart_120 : decode cX3_isApart 120 = .ok (.aload_n 0, 1) := by decide +kernel
theorem dX3_isApart_121 : decode cX3_isApart 121 = .ok (.getfield 20, 3) := by decide +kernel
theorem dX3_isApart_124 : decode cX3_isApart 124 = .ok (.iload_n 1, 1) := by decide +kernel
theorem dX3_isApart_125 : decode cX3_isApart 125 = .ok (.sipush 196, 3) := by decide +kernel
theorem dX3_isApart_128 : decode cX3_isApart 128 = .ok (.isub, 1) := by decide +kernel
theorem dX3_isApart_129 : decode cX3_isApart 129 = .ok (.iaload, 1) := by decide +kernel
theorem dX3_isApart_130 : decode cX3_isApart 130 = .ok (.if_icmp .eq 7, 3) := by decide +kernel
theorem dX3_isApart_133 : decode cX3_isApart 133 = .ok (.iconst 1, 1) := by decide +kernel
theorem dX3_isApart_134 : decode cX3_isApart 134 = .ok (.goto 4, 3) := by decide +kernel
theorem dX3_isApart_137 : decode cX3_isApart 137 = .ok (.iconst 0, 1) := by decide +kernel
theorem dX3_isApart_138 : decode cX3_isApart 138 = .ok (.ireturn, 1) := by decide +kernel
theorem dX3_isApart_139 : decode cX3_isApart 139 = .ok (.aload_n 0, 1) := by decide +kernel
theorem dX3_isApart_140 : decode cX3_isApart 140 = .ok (.getfield 29, 3) := by decide +kernel
theorem dX3_isApart_143 : decode cX3_isApart 143 = .ok (.iconst 0, 1) := by decide +kernel
theorem dX3_isApart_144 : decode cX3_isApart 144 = .ok (.iaload, 1) := by decide +kernel
theorem dX3_isApart_145 : decode cX3_isApart 145 = .ok (.aload_n 0, 1) := by decide +kernel
theorem dX3_isApart_146 : decode cX3_isApart 146 = .ok (.getfield 29, 3) := by decide +kernel
theorem dX3_isApart_149 : decode cX3_isApart 149 = .ok (.iconst 1, 1) := by decide +kernel
theorem dX3_isApart_150 : decode cX3_isApart 150 = .ok (.iaload, 1) := by decide +kernel
theorem dX3_isApart_151 : decode cX3_isApart 151 = .ok (.if_icmp .eq 7, 3) := by decide +kernel
theorem dX3_isApart_154 : decode cX3_isApart 154 = .ok (.iconst 1, 1) := by decide +kernel
theorem dX3_isApart_155 : decode cX3_isApart 155 = .ok (.goto 4, 3) := by decide +kernel
theorem dX3_isApart_158 : decode cX3_isApart 158 = .ok (.iconst 0, 1) := by decide +kernel
theorem dX3_isApart_159 : decode cX3_isApart 159 = .ok (.ireturn, 1) := by decide +kernel
theorem dX3_differs_0 : decode cX3_differs 0 = .ok (.aload_n 0, 1) := by decide +kernel
theorem dX3_differs_1 : decode cX3_differs 1 = .ok (.iload_n 1, 1) := by decide +kernel
theorem dX3_differs_2 : decode cX3_differs 2 = .ok (.ifCond .ge 7, 3) := by decide +kernel
theorem dX3_differs_5 : decode cX3_differs 5 = .ok (.iconst 1, 1) := by decide +kernel
theorem dX3_differs_6 : decode cX3_differs 6 = .ok (.goto 4, 3) := by decide +kernel
theorem dX3_differs_9 : decode cX3_differs 9 = .ok (.iconst 0, 1) := by decide +kernel
theorem dX3_differs_10 : decode cX3_differs 10 = .ok (.putfield 44, 3) := by decide +kernel
theorem dX3_differs_13 : decode cX3_differs 13 = .ok (.iload_n 1, 1) := by decide +kernel
theorem dX3_differs_14 : decode cX3_differs 14 = .ok (.istore_n 2, 1) := by decide +kernel
theorem dX3_differs_15 : decode cX3_differs 15 = .ok (.iconst 0, 1) := by decide +kernel
theorem dX3_differs_16 : decode cX3_differs 16 = .ok (.istore_n 3, 1) := by decide +kernel
theorem dX3_differs_17 : decode cX3_differs 17 = .ok (.iload_n 3, 1) := by decide +kernel
theorem dX3_differs_18 : decode cX3_differs 18 = .ok (.sipush 300, 3) := by decide +kernel
theorem dX3_differs_21 : decode cX3_differs 21 = .ok (.if_icmp .gt 84, 3) := by decide +kernel
theorem dX3_differs_24 : decode cX3_differs 24 = .ok (.aload_n 0, 1) := by decide +kernel
theorem dX3_differs_25 : decode cX3_differs 25 = .ok (.getfield 44, 3) := by decide +kernel
theorem dX3_differs_28 : decode cX3_differs 28 = .ok (.ifCond .ne 77, 3) := by decide +kernel
theorem dX3_differs_31 : decode cX3_differs 31 = .ok (.iload_n 3, 1) := by decide +kernel
theorem dX3_differs_32 : decode cX3_differs 32 = .ok (.bipush 16, 2) := by decide +kernel
theorem dX3_differs_34 : decode cX3_differs 34 = .ok (.if_icmp .lt 36, 3) := by decide +kernel
theorem dX3_differs_37 : decode cX3_differs 37 = .ok (.iload_n 3, 1) := by decide +kernel
theorem dX3_differs_38 : decode cX3_differs 38 = .ok (.bipush 100, 2) := by decide +kernel
theorem dX3_differs_40 : decode cX3_differs 40 = .ok (.if_icmp .lt 9, 3) := by decide +kernel
theorem dX3_differs_43 : decode cX3_differs 43 = .ok (.iload_n 3, 1) := by decide +kernel
theorem dX3_differs_44 : decode cX3_differs 44 = .ok (.bipush 104, 2) := by decide +kernel
theorem dX3_differs_46 : decode cX3_differs 46 = .ok (.if_icmp .lt 24, 3) := by decide +kernel
theorem dX3_differs_49 : decode cX3_differs 49 = .ok (.iload_n 3, 1) := by decide +kernel
theorem dX3_differs_50 : decode cX3_differs 50 = .ok (.sipush 200, 3) := by decide +kernel
theorem dX3_differs_53 : decode cX3_differs 53 = .ok (.if_icmp .lt 10, 3) := by decide +kernel
theorem dX3_differs_56 : decode cX3_differs 56 = .ok (.iload_n 3, 1) := by decide +kernel
theorem dX3_differs_57 : decode cX3_differs 57 = .ok (.sipush 204, 3) := by decide +kernel
theorem dX3_differs_60 : decode cX3_differs 60 = .ok (.if_icmp .lt 10, 3) := by decide +kernel
theorem dX3_differs_63 : decode cX3_differs 63 = .ok (.iload_n 3, 1) := by decide +kernel
theorem dX3_differs_64 : decode cX3_differs 64 = .ok (.sipush 300, 3) := by decide +kernel
theorem dX3_differs_67 : decode cX3_differs 67 = .ok (.if_icmp .ne 7, 3) := by decide +kernel
theorem dX3_differs_70 : decode cX3_differs 70 = .ok (.iconst 1, 1) := by decide +kernel
theorem dX3_differs_71 : decode cX3_differs 71 = .ok (.goto 4, 3) := by decide +kernel
theorem dX3_differs_74 : decode cX3_differs 74 = .ok (.iconst 0, 1) := by decide +kernel
theorem dX3_differs_75 : decode cX3_differs 75 = .ok (.istore 4, 2) := by decide +kernel
theorem dX3_differs_77 : decode cX3_differs 77 = .ok (.iload 4, 2) := by decide +kernel
theorem dX3_differs_79 : decode cX3_differs 79 = .ok (.ifCond .eq 20, 3) := by decide +kernel
theorem dX3_differs_82 : decode cX3_differs 82 = .ok (.aload_n 0, 1) := by decide +kernel
theorem dX3_differs_83 : decode cX3_differs 83 = .ok (.iload_n 3, 1) := by decide +kernel
theorem dX3_differs_84 : decode cX3_differs 84 = .ok (.invokevirtual 100, 3) := by decide +kernel
theorem dX3_differs_87 : decode cX3_differs 87 = .ok (.ifCond .eq 12, 3) := by decide +kernel
theorem dX3_differs_90 : decode cX3_differs 90 = .ok (.iload_n 2, 1) := by decide +kernel
theorem dX3_differs_91 : decode cX3_differs 91 = .ok (.ifCond .ne 5, 3) := by decide +kernel
theorem dX3_differs_94 : decode cX3_differs 94 = .ok (.iload_n 3, 1) := by decide +kernel
theorem dX3_differs_95 : decode cX3_differs 95 = .ok (.ireturn, 1) := by decide +kernel
theorem dX3_differs_96 : decode cX3_differs 96 = .ok (.iinc 2 (-1), 3) := by decide +kernel
theorem dX3_differs_99 : decode cX3_differs 99 = .ok (.iinc 3 1, 3) := by decide +kernel
theorem dX3_differs_102 : decode cX3_differs 102 = .ok (.goto (-85), 3) := by decide +kernel
theorem dX3_differs_105 : decode cX3_differs 105 = .ok (.aload_n 0, 1) := by decide +kernel
theorem dX3_differs_106 : decode cX3_differs 106 = .ok (.getfield 44, 3) := by decide +kernel
theorem dX3_differs_109 : decode cX3_differs 109 = .ok (.ifCond .le 7, 3) := by decide +kernel
theorem dX3_differs_112 : decode cX3_differs 112 = .ok (.iconst 0, 1) := by decide +kernel
theorem dX3_differs_113 : decode cX3_differs 113 = .ok (.goto 4, 3) := by decide +kernel
theorem dX3_differs_116 : decode cX3_differs 116 = .ok (.iconst (-1), 1) := by decide +kernel
theorem dX3_differs_117 : decode cX3_differs 117 = .ok (.ireturn, 1) := by decide +kernel
theorem dX3_witness_0 : decode cX3_witness 0 = .ok (.iload_n 1, 1) := by decide +kernel
theorem dX3_witness_1 : decode cX3_witness 1 = .ok (.aload_n 0, 1) := by decide +kernel
theorem dX3_witness_2 : decode cX3_witness 2 = .ok (.invokevirtual 97, 3) := by decide +kernel
theorem dX3_witness_5 : decode cX3_witness 5 = .ok (.invokestatic 77, 3) := by decide +kernel
theorem dX3_witness_8 : decode cX3_witness 8 = .ok (.istore_n 2, 1) := by decide +kernel
theorem dX3_witness_9 : decode cX3_witness 9 = .ok (.iload_n 1, 1) := by decide +kernel
theorem dX3_witness_10 : decode cX3_witness 10 = .ok (.bipush 100, 2) := by decide +kernel
theorem dX3_witness_12 : decode cX3_witness 12 = .ok (.isub, 1) := by decide +kernel
theorem dX3_witness_13 : decode cX3_witness 13 = .ok (.aload_n 0, 1) := by decide +kernel
theorem dX3_witness_14 : decode cX3_witness 14 = .ok (.getfield 54, 3) := by decide +kernel
theorem dX3_witness_17 : decode cX3_witness 17 = .ok (.invokestatic 77, 3) := by decide +kernel
theorem dX3_witness_20 : decode cX3_witness 20 = .ok (.ifCond .eq 13, 3) := by decide +kernel
theorem dX3_witness_23 : decode cX3_witness 23 = .ok (.iload_n 1, 1) := by decide +kernel
theorem dX3_witness_24 : decode cX3_witness 24 = .ok (.bipush 100, 2) := by decide +kernel
theorem dX3_witness_26 : decode cX3_witness 26 = .ok (.if_icmp .lt 7, 3) := by decide +kernel
theorem dX3_witness_29 : decode cX3_witness 29 = .ok (.iconst 1, 1) := by decide +kernel
theorem dX3_witness_30 : decode cX3_witness 30 = .ok (.goto 4, 3) := by decide +kernel
theorem dX3_witness_33 : decode cX3_witness 33 = .ok (.iconst 0, 1) := by decide +kernel
theorem dX3_witness_34 : decode cX3_witness 34 = .ok (.istore_n 3, 1) := by decide +kernel
theorem dX3_witness_35 : decode cX3_witness 35 = .ok (.aload_n 0, 1) := by decide +kernel
theorem dX3_witness_36 : decode cX3_witness 36 = .ok (.iload_n 2, 1) := by decide +kernel
theorem dX3_witness_37 : decode cX3_witness 37 = .ok (.ifCond .ne 7, 3) := by decide +kernel
theorem dX3_witness_40 : decode cX3_witness 40 = .ok (.iload_n 3, 1) := by decide +kernel
theorem dX3_witness_41 : decode cX3_witness 41 = .ok (.ifCond .eq 7, 3) := by decide +kernel
theorem dX3_witness_44 : decode cX3_witness 44 = .ok (.iconst 0, 1) := by decide +kernel
theorem dX3_witness_45 : decode cX3_witness 45 = .ok (.goto 4, 3) := by decide +kernel
theorem dX3_witness_48 : decode cX3_witness 48 = .ok (.iconst 1, 1) := by decide +kernel
theorem dX3_witness_49 : decode cX3_witness 49 = .ok (.putfield 44, 3) := by decide +kernel
theorem dX3_witness_52 : decode cX3_witness 52 = .ok (.aload_n 0, 1) := by decide +kernel
theorem dX3_witness_53 : decode cX3_witness 53 = .ok (.getfield 44, 3) := by decide +kernel
theorem dX3_witness_56 : decode cX3_witness 56 = .ok (.ifCond .le 5, 3) := by decide +kernel
theorem dX3_witness_59 : decode cX3_witness 59 = .ok (.iconst 0, 1) := by decide +kernel
theorem dX3_witness_60 : decode cX3_witness 60 = .ok (.ireturn, 1) := by decide +kernel
theorem dX3_witness_61 : decode cX3_witness 61 = .ok (.iload_n 2, 1) := by decide +kernel
theorem dX3_witness_62 : decode cX3_witness 62 = .ok (.ifCond .eq 12, 3) := by decide +kernel
theorem dX3_witness_65 : decode cX3_witness 65 = .ok (.aload_n 0, 1) := by decide +kernel
theorem dX3_witness_66 : decode cX3_witness 66 = .ok (.getfield 32, 3) := by decide +kernel
theorem dX3_witness_69 : decode cX3_witness 69 = .ok (.iload_n 1, 1) := by decide +kernel
theorem dX3_witness_70 : decode cX3_witness 70 = .ok (.iaload, 1) := by decide +kernel
theorem dX3_witness_71 : decode cX3_witness 71 = .ok (.goto 12, 3) := by decide +kernel
theorem dX3_witness_74 : decode cX3_witness 74 = .ok (.aload_n 0, 1) := by decide +kernel
theorem dX3_witness_75 : decode cX3_witness 75 = .ok (.getfield 23, 3) := by decide +kernel
theorem dX3_witness_78 : decode cX3_witness 78 = .ok (.iload_n 1, 1) := by decide +kernel
theorem dX3_witness_79 : decode cX3_witness 79 = .ok (.bipush 100, 2) := by decide +kernel
theorem dX3_witness_81 : decode cX3_witness 81 = .ok (.isub, 1) := by decide +kernel
theorem dX3_witness_82 : decode cX3_witness 82 = .ok (.iaload, 1) := by decide +kernel
theorem dX3_witness_83 : decode cX3_witness 83 = .ok (.istore 4, 2) := by decide +kernel
theorem dX3_witness_85 : decode cX3_witness 85 = .ok (.iload_n 2, 1) := by decide +kernel
theorem dX3_witness_86 : decode cX3_witness 86 = .ok (.ifCond .eq 15, 3) := by decide +kernel
theorem dX3_witness_89 : decode cX3_witness 89 = .ok (.aload_n 0, 1) := by decide +kernel
theorem dX3_witness_90 : decode cX3_witness 90 = .ok (.getfield 32, 3) := by decide +kernel
theorem dX3_witness_93 : decode cX3_witness 93 = .ok (.bipush 16, 2) := by decide +kernel
theorem dX3_witness_95 : decode cX3_witness 95 = .ok (.iload_n 1, 1) := by decide +kernel
theorem dX3_witness_96 : decode cX3_witness 96 = .ok (.iadd, 1) := by decide +kernel
theorem dX3_witness_97 : decode cX3_witness 97 = .ok (.iaload, 1) := by decide +kernel
theorem dX3_witness_98 : decode cX3_witness 98 = .ok (.goto 12, 3) := by decide +kernel
theorem dX3_witness_101 : decode cX3_witness 101 = .ok (.aload_n 0, 1) := by decide +kernel
theorem dX3_witness_102 : decode cX3_witness 102 = .ok (.getfield 23, 3) := by decide +kernel
theorem dX3_witness_105 : decode cX3_witness 105 = .ok (.iload_n 1, 1) := by decide +kernel
theorem dX3_witness_106 : decode cX3_witness 106 = .ok (.bipush 96, 2) := by decide +kernel
theorem dX3_witness_108 : decode cX3_witness 108 = .ok (.isub, 1) := by decide +kernel
theorem dX3_witness_109 : decode cX3_witness 109 = .ok (.iaload, 1) := by decide +kernel
theorem dX3_witness_110 : decode cX3_witness 110 = .ok (.istore 5, 2) := by decide +kernel
theorem dX3_witness_112 : decode cX3_witness 112 = .ok (.iconst 0, 1) := by decide +kernel
theorem dX3_witness_113 : decode cX3_witness 113 = .ok (.istore 6, 2) := by decide +kernel
theorem dX3_witness_115 : decode cX3_witness 115 = .ok (.iload 6, 2) := by decide +kernel
theorem dX3_witness_117 : decode cX3_witness 117 = .ok (.sipush 4096, 3) := by decide +kernel
theorem dX3_witness_120 : decode cX3_witness 120 = .ok (.if_icmp .ge 31, 3) := by decide +kernel
theorem dX3_witness_123 : decode cX3_witness 123 = .ok (.aload_n 0, 1) := by decide +kernel
theorem dX3_witness_124 : decode cX3_witness 124 = .ok (.iload 4, 2) := by decide +kernel
theorem dX3_witness_126 : decode cX3_witness 126 = .ok (.iload 6, 2) := by decide +kernel
theorem dX3_witness_128 : decode cX3_witness 128 = .ok (.invokevirtual 89, 3) := by decide +kernel
theorem dX3_witness_131 : decode cX3_witness 131 = .ok (.aload_n 0, 1) := by decide +kernel
theorem dX3_witness_132 : decode cX3_witness 132 = .ok (.iload 5, 2) := by decide +kernel
theorem dX3_witness_134 : decode cX3_witness 134 = .ok (.iload 6, 2) := by decide +kernel
theorem dX3_witness_136 : decode cX3_witness 136 = .ok (.invokevirtual 89, 3) := by decide +kernel
theorem dX3_witness_139 : decode cX3_witness 139 = .ok (.if_icmp .eq 6, 3) := by decide +kernel
theorem dX3_witness_142 : decode cX3_witness 142 = .ok (.iload 6, 2) := by decide +kernel
theorem dX3_witness_144 : decode cX3_witness 144 = .ok (.ireturn, 1) := by decide +kernel
theorem dX3_witness_145 : decode cX3_witness 145 = .ok (.iinc 6 1, 3) := by decide +kernel
theorem dX3_witness_148 : decode cX3_witness 148 = .ok (.goto (-33), 3) := by decide +kernel
theorem dX3_witness_151 : decode cX3_witness 151 = .ok (.iconst (-1), 1) := by decide +kernel
theorem dX3_witness_152 : decode cX3_witness 152 = .ok (.ireturn, 1) := by decide +kernel
theorem dX3_start_0 : decode cX3_start 0 = .ok (.iconst 0, 1) := by decide +kernel
theorem dX3_start_1 : decode cX3_start 1 = .ok (.istore_n 1, 1) := by decide +kernel
theorem dX3_start_2 : decode cX3_start 2 = .ok (.iload_n 1, 1) := by decide +kernel
theorem dX3_start_3 : decode cX3_start 3 = .ok (.bipush 8, 2) := by decide +kernel
theorem dX3_start_5 : decode cX3_start 5 = .ok (.if_icmp .ge 21, 3) := by decide +kernel
theorem dX3_start_8 : decode cX3_start 8 = .ok (.aload_n 0, 1) := by decide +kernel
theorem dX3_start_9 : decode cX3_start 9 = .ok (.getfield 26, 3) := by decide +kernel
theorem dX3_start_12 : decode cX3_start 12 = .ok (.iload_n 1, 1) := by decide +kernel
theorem dX3_start_13 : decode cX3_start 13 = .ok (.aload_n 0, 1) := by decide +kernel
theorem dX3_start_14 : decode cX3_start 14 = .ok (.getfield 20, 3) := by decide +kernel
theorem dX3_start_17 : decode cX3_start 17 = .ok (.iload_n 1, 1) := by decide +kernel
theorem dX3_start_18 : decode cX3_start 18 = .ok (.iaload, 1) := by decide +kernel
theorem dX3_start_19 : decode cX3_start 19 = .ok (.iastore, 1) := by decide +kernel
theorem dX3_start_20 : decode cX3_start 20 = .ok (.iinc 1 1, 3) := by decide +kernel
theorem dX3_start_23 : decode cX3_start 23 = .ok (.goto (-21), 3) := by decide +kernel
theorem dX3_start_26 : decode cX3_start 26 = .ok (.aload_n 0, 1) := by decide +kernel
theorem dX3_start_27 : decode cX3_start 27 = .ok (.iconst 0, 1) := by decide +kernel
theorem dX3_start_28 : decode cX3_start 28 = .ok (.putfield 103, 3) := by decide +kernel
theorem dX3_start_31 : decode cX3_start 31 = .ok (.aload_n 0, 1) := by decide +kernel
theorem dX3_start_32 : decode cX3_start 32 = .ok (.iconst (-1), 1) := by decide +kernel
theorem dX3_start_33 : decode cX3_start 33 = .ok (.putfield 106, 3) := by decide +kernel
theorem dX3_start_36 : decode cX3_start 36 = .ok (.aload_n 0, 1) := by decide +kernel
theorem dX3_start_37 : decode cX3_start 37 = .ok (.getfield 38, 3) := by decide +kernel
theorem dX3_start_40 : decode cX3_start 40 = .ok (.iconst 0, 1) := by decide +kernel
theorem dX3_start_41 : decode cX3_start 41 = .ok (.iconst 0, 1) := by decide +kernel
theorem dX3_start_42 : decode cX3_start 42 = .ok (.iastore, 1) := by decide +kernel
theorem dX3_start_43 : decode cX3_start 43 = .ok (.aload_n 0, 1) := by decide +kernel
theorem dX3_start_44 : decode cX3_start 44 = .ok (.getfield 38, 3) := by decide +kernel
theorem dX3_start_47 : decode cX3_start 47 = .ok (.iconst 1, 1) := by decide +kernel
theorem dX3_start_48 : decode cX3_start 48 = .ok (.iconst 0, 1) := by decide +kernel
theorem dX3_start_49 : decode cX3_start 49 = .ok (.iastore, 1) := by decide +kernel
theorem dX3_start_50 : decode cX3_start 50 = .ok (.return_, 1) := by decide +kernel
theorem dX3_reset_0 : decode cX3_reset 0 = .ok (.aload_n 0, 1) := by decide +kernel
theorem dX3_reset_1 : decode cX3_reset 1 = .ok (.iconst 0, 1) := by decide +kernel
theorem dX3_reset_2 : decode cX3_reset 2 = .ok (.putfield 44, 3) := by decide +kernel
theorem dX3_reset_5 : decode cX3_reset 5 = .ok (.aload_n 0, 1) := by decide +kernel
theorem dX3_reset_6 : decode cX3_reset 6 = .ok (.invokevirtual 65, 3) := by decide +kernel
theorem dX3_reset_9 : decode cX3_reset 9 = .ok (.return_, 1) := by decide +kernel
theorem dX3_assignment_0 : decode cX3_assignment 0 = .ok (.iload_n 2, 1) := by decide +kernel
theorem dX3_assignment_1 : decode cX3_assignment 1 = .ok (.iconst 1, 1) := by decide +kernel
theorem dX3_assignment_2 : decode cX3_assignment 2 = .ok (.aload_n 0, 1) := by decide +kernel
theorem dX3_assignment_3 : decode cX3_assignment 3 = .ok (.getfield 51, 3) := by decide +kernel
theorem dX3_assignment_6 : decode cX3_assignment 6 = .ok (.ishl, 1) := by decide +kernel
theorem dX3_assignment_7 : decode cX3_assignment 7 = .ok (.iconst 1, 1) := by decide +kernel
theorem dX3_assignment_8 : decode cX3_assignment 8 = .ok (.isub, 1) := by decide +kernel
theorem dX3_assignment_9 : decode cX3_assignment 9 = .ok (.iand, 1) := by decide +kernel
theorem dX3_assignment_10 : decode cX3_assignment 10 = .ok (.istore_n 3, 1) := by decide +kernel
theorem dX3_assignment_11 : decode cX3_assignment 11 = .ok (.iconst 0, 1) := by decide +kernel
theorem dX3_assignment_12 : decode cX3_assignment 12 = .ok (.istore 4, 2) := by decide +kernel
theorem dX3_assignment_14 : decode cX3_assignment 14 = .ok (.iload 4, 2) := by decide +kernel
theorem dX3_assignment_16 : decode cX3_assignment 16 = .ok (.aload_n 0, 1) := by decide +kernel
theorem dX3_assignment_17 : decode cX3_assignment 17 = .ok (.getfield 54, 3) := by decide +kernel
theorem dX3_assignment_20 : decode cX3_assignment 20 = .ok (.if_icmp .ge 29, 3) := by decide +kernel
theorem dX3_assignment_23 : decode cX3_assignment 23 = .ok (.iload_n 3, 1) := by decide +kernel
theorem dX3_assignment_24 : decode cX3_assignment 24 = .ok (.aload_n 0, 1) := by decide +kernel
theorem dX3_assignment_25 : decode cX3_assignment 25 = .ok (.getfield 26, 3) := by decide +kernel
theorem dX3_assignment_28 : decode cX3_assignment 28 = .ok (.iconst 4, 1) := by decide +kernel
theorem dX3_assignment_29 : decode cX3_assignment 29 = .ok (.iload_n 1, 1) := by decide +kernel
theorem dX3_assignment_30 : decode cX3_assignment 30 = .ok (.imul, 1) := by decide +kernel
theorem dX3_assignment_31 : decode cX3_assignment 31 = .ok (.iload 4, 2) := by decide +kernel
theorem dX3_assignment_33 : decode cX3_assignment 33 = .ok (.iadd, 1) := by decide +kernel
theorem dX3_assignment_34 : decode cX3_assignment 34 = .ok (.iaload, 1) := by decide +kernel
theorem dX3_assignment_35 : decode cX3_assignment 35 = .ok (.bipush 8, 2) := by decide +kernel
theorem dX3_assignment_37 : decode cX3_assignment 37 = .ok (.iload 4, 2) := by decide +kernel
theorem dX3_assignment_39 : decode cX3_assignment 39 = .ok (.iadd, 1) := by decide +kernel
theorem dX3_assignment_40 : decode cX3_assignment 40 = .ok (.ishl, 1) := by decide +kernel
theorem dX3_assignment_41 : decode cX3_assignment 41 = .ok (.ior, 1) := by decide +kernel
theorem dX3_assignment_42 : decode cX3_assignment 42 = .ok (.istore_n 3, 1) := by decide +kernel
theorem dX3_assignment_43 : decode cX3_assignment 43 = .ok (.iinc 4 1, 3) := by decide +kernel
theorem dX3_assignment_46 : decode cX3_assignment 46 = .ok (.goto (-32), 3) := by decide +kernel
theorem dX3_assignment_49 : decode cX3_assignment 49 = .ok (.iload_n 3, 1) := by decide +kernel
theorem dX3_assignment_50 : decode cX3_assignment 50 = .ok (.ireturn, 1) := by decide +kernel
theorem dX3_step_0 : decode cX3_step 0 = .ok (.aload_n 0, 1) := by decide +kernel
theorem dX3_step_1 : decode cX3_step 1 = .ok (.iconst 0, 1) := by decide +kernel
theorem dX3_step_2 : decode cX3_step 2 = .ok (.putfield 44, 3) := by decide +kernel
theorem dX3_step_5 : decode cX3_step 5 = .ok (.iconst 0, 1) := by decide +kernel
theorem dX3_step_6 : decode cX3_step 6 = .ok (.istore_n 2, 1) := by decide +kernel
theorem dX3_step_7 : decode cX3_step 7 = .ok (.iload_n 2, 1) := by decide +kernel
theorem dX3_step_8 : decode cX3_step 8 = .ok (.iconst 2, 1) := by decide +kernel
theorem dX3_step_9 : decode cX3_step 9 = .ok (.if_icmp .ge 122, 3) := by decide +kernel
theorem dX3_step_12 : decode cX3_step 12 = .ok (.aload_n 0, 1) := by decide +kernel
theorem dX3_step_13 : decode cX3_step 13 = .ok (.iload_n 2, 1) := by decide +kernel
theorem dX3_step_14 : decode cX3_step 14 = .ok (.iload_n 1, 1) := by decide +kernel
theorem dX3_step_15 : decode cX3_step 15 = .ok (.invokevirtual 109, 3) := by decide +kernel
theorem dX3_step_18 : decode cX3_step 18 = .ok (.istore_n 3, 1) := by decide +kernel
theorem dX3_step_19 : decode cX3_step 19 = .ok (.iconst 0, 1) := by decide +kernel
theorem dX3_step_20 : decode cX3_step 20 = .ok (.istore 4, 2) := by decide +kernel
theorem dX3_step_22 : decode cX3_step 22 = .ok (.iload 4, 2) := by decide +kernel
theorem dX3_step_24 : decode cX3_step 24 = .ok (.aload_n 0, 1) := by decide +kernel
theorem dX3_step_25 : decode cX3_step 25 = .ok (.getfield 29, 3) := by decide +kernel
theorem dX3_step_28 : decode cX3_step 28 = .ok (.iload_n 2, 1) := by decide +kernel
theorem dX3_step_29 : decode cX3_step 29 = .ok (.iaload, 1) := by decide +kernel
theorem dX3_step_30 : decode cX3_step 30 = .ok (.if_icmp .ge 38, 3) := by decide +kernel
theorem dX3_step_33 : decode cX3_step 33 = .ok (.aload_n 0, 1) := by decide +kernel
theorem dX3_step_34 : decode cX3_step 34 = .ok (.getfield 35, 3) := by decide +kernel
theorem dX3_step_37 : decode cX3_step 37 = .ok (.bipush 16, 2) := by decide +kernel
theorem dX3_step_39 : decode cX3_step 39 = .ok (.iload_n 2, 1) := by decide +kernel
theorem dX3_step_40 : decode cX3_step 40 = .ok (.imul, 1) := by decide +kernel
theorem dX3_step_41 : decode cX3_step 41 = .ok (.iload 4, 2) := by decide +kernel
theorem dX3_step_43 : decode cX3_step 43 = .ok (.iadd, 1) := by decide +kernel
theorem dX3_step_44 : decode cX3_step 44 = .ok (.aload_n 0, 1) := by decide +kernel
theorem dX3_step_45 : decode cX3_step 45 = .ok (.aload_n 0, 1) := by decide +kernel
theorem dX3_step_46 : decode cX3_step 46 = .ok (.getfield 32, 3) := by decide +kernel
theorem dX3_step_49 : decode cX3_step 49 = .ok (.bipush 16, 2) := by decide +kernel
theorem dX3_step_51 : decode cX3_step 51 = .ok (.iload_n 2, 1) := by decide +kernel
theorem dX3_step_52 : decode cX3_step 52 = .ok (.imul, 1) := by decide +kernel
theorem dX3_step_53 : decode cX3_step 53 = .ok (.iload 4, 2) := by decide +kernel
theorem dX3_step_55 : decode cX3_step 55 = .ok (.iadd, 1) := by decide +kernel
theorem dX3_step_56 : decode cX3_step 56 = .ok (.iaload, 1) := by decide +kernel
theorem dX3_step_57 : decode cX3_step 57 = .ok (.iload_n 3, 1) := by decide +kernel
theorem dX3_step_58 : decode cX3_step 58 = .ok (.invokevirtual 89, 3) := by decide +kernel
theorem dX3_step_61 : decode cX3_step 61 = .ok (.iastore, 1) := by decide +kernel
theorem dX3_step_62 : decode cX3_step 62 = .ok (.iinc 4 1, 3) := by decide +kernel
theorem dX3_step_65 : decode cX3_step 65 = .ok (.goto (-43), 3) := by decide +kernel
theorem dX3_step_68 : decode cX3_step 68 = .ok (.aload_n 0, 1) := by decide +kernel
theorem dX3_step_69 : decode cX3_step 69 = .ok (.getfield 38, 3) := by decide +kernel
theorem dX3_step_72 : decode cX3_step 72 = .ok (.iload_n 2, 1) := by decide +kernel
theorem dX3_step_73 : decode cX3_step 73 = .ok (.aload_n 0, 1) := by decide +kernel
theorem dX3_step_74 : decode cX3_step 74 = .ok (.getfield 29, 3) := by decide +kernel
theorem dX3_step_77 : decode cX3_step 77 = .ok (.iload_n 2, 1) := by decide +kernel
theorem dX3_step_78 : decode cX3_step 78 = .ok (.iaload, 1) := by decide +kernel
theorem dX3_step_79 : decode cX3_step 79 = .ok (.iastore, 1) := by decide +kernel
theorem dX3_step_80 : decode cX3_step 80 = .ok (.iconst 0, 1) := by decide +kernel
theorem dX3_step_81 : decode cX3_step 81 = .ok (.istore 4, 2) := by decide +kernel
theorem dX3_step_83 : decode cX3_step 83 = .ok (.iload 4, 2) := by decide +kernel
theorem dX3_step_85 : decode cX3_step 85 = .ok (.aload_n 0, 1) := by decide +kernel
theorem dX3_step_86 : decode cX3_step 86 = .ok (.getfield 54, 3) := by decide +kernel
theorem dX3_step_89 : decode cX3_step 89 = .ok (.if_icmp .ge 36, 3) := by decide +kernel
theorem dX3_step_92 : decode cX3_step 92 = .ok (.aload_n 0, 1) := by decide +kernel
theorem dX3_step_93 : decode cX3_step 93 = .ok (.getfield 26, 3) := by decide +kernel
theorem dX3_step_96 : decode cX3_step 96 = .ok (.iconst 4, 1) := by decide +kernel
theorem dX3_step_97 : decode cX3_step 97 = .ok (.iload_n 2, 1) := by decide +kernel
theorem dX3_step_98 : decode cX3_step 98 = .ok (.imul, 1) := by decide +kernel
theorem dX3_step_99 : decode cX3_step 99 = .ok (.iload 4, 2) := by decide +kernel
theorem dX3_step_101 : decode cX3_step 101 = .ok (.iadd, 1) := by decide +kernel
theorem dX3_step_102 : decode cX3_step 102 = .ok (.aload_n 0, 1) := by decide +kernel
theorem dX3_step_103 : decode cX3_step 103 = .ok (.aload_n 0, 1) := by decide +kernel
theorem dX3_step_104 : decode cX3_step 104 = .ok (.getfield 23, 3) := by decide +kernel
theorem dX3_step_107 : decode cX3_step 107 = .ok (.iconst 4, 1) := by decide +kernel
theorem dX3_step_108 : decode cX3_step 108 = .ok (.iload_n 2, 1) := by decide +kernel
theorem dX3_step_109 : decode cX3_step 109 = .ok (.imul, 1) := by decide +kernel
theorem dX3_step_110 : decode cX3_step 110 = .ok (.iload 4, 2) := by decide +kernel
theorem dX3_step_112 : decode cX3_step 112 = .ok (.iadd, 1) := by decide +kernel
theorem dX3_step_113 : decode cX3_step 113 = .ok (.iaload, 1) := by decide +kernel
theorem dX3_step_114 : decode cX3_step 114 = .ok (.iload_n 3, 1) := by decide +kernel
theorem dX3_step_115 : decode cX3_step 115 = .ok (.invokevirtual 89, 3) := by decide +kernel
theorem dX3_step_118 : decode cX3_step 118 = .ok (.iastore, 1) := by decide +kernel
theorem dX3_step_119 : decode cX3_step 119 = .ok (.iinc 4 1, 3) := by decide +kernel
theorem dX3_step_122 : decode cX3_step 122 = .ok (.goto (-39), 3) := by decide +kernel
theorem dX3_step_125 : decode cX3_step 125 = .ok (.iinc 2 1, 3) := by decide +kernel
theorem dX3_step_128 : decode cX3_step 128 = .ok (.goto (-121), 3) := by decide +kernel
theorem dX3_step_131 : decode cX3_step 131 = .ok (.iconst 0, 1) := by decide +kernel
theorem dX3_step_132 : decode cX3_step 132 = .ok (.istore_n 2, 1) := by decide +kernel
theorem dX3_step_133 : decode cX3_step 133 = .ok (.iload_n 2, 1) := by decide +kernel
theorem dX3_step_134 : decode cX3_step 134 = .ok (.aload_n 0, 1) := by decide +kernel
theorem dX3_step_135 : decode cX3_step 135 = .ok (.invokevirtual 97, 3) := by decide +kernel
theorem dX3_step_138 : decode cX3_step 138 = .ok (.if_icmp .ge 50, 3) := by decide +kernel
theorem dX3_step_141 : decode cX3_step 141 = .ok (.aload_n 0, 1) := by decide +kernel
theorem dX3_step_142 : decode cX3_step 142 = .ok (.getfield 106, 3) := by decide +kernel
theorem dX3_step_145 : decode cX3_step 145 = .ok (.iconst (-1), 1) := by decide +kernel
theorem dX3_step_146 : decode cX3_step 146 = .ok (.if_icmp .ne 42, 3) := by decide +kernel
theorem dX3_step_149 : decode cX3_step 149 = .ok (.aload_n 0, 1) := by decide +kernel
theorem dX3_step_150 : decode cX3_step 150 = .ok (.aload_n 0, 1) := by decide +kernel
theorem dX3_step_151 : decode cX3_step 151 = .ok (.getfield 35, 3) := by decide +kernel
theorem dX3_step_154 : decode cX3_step 154 = .ok (.iload_n 2, 1) := by decide +kernel
theorem dX3_step_155 : decode cX3_step 155 = .ok (.iaload, 1) := by decide +kernel
theorem dX3_step_156 : decode cX3_step 156 = .ok (.aload_n 0, 1) := by decide +kernel
theorem dX3_step_157 : decode cX3_step 157 = .ok (.getfield 35, 3) := by decide +kernel
theorem dX3_step_160 : decode cX3_step 160 = .ok (.bipush 16, 2) := by decide +kernel
theorem dX3_step_162 : decode cX3_step 162 = .ok (.iload_n 2, 1) := by decide +kernel
theorem dX3_step_163 : decode cX3_step 163 = .ok (.iadd, 1) := by decide +kernel
theorem dX3_step_164 : decode cX3_step 164 = .ok (.iaload, 1) := by decide +kernel
theorem dX3_step_165 : decode cX3_step 165 = .ok (.if_icmp .eq 10, 3) := by decide +kernel
theorem dX3_step_168 : decode cX3_step 168 = .ok (.aload_n 0, 1) := by decide +kernel
theorem dX3_step_169 : decode cX3_step 169 = .ok (.getfield 103, 3) := by decide +kernel
theorem dX3_step_172 : decode cX3_step 172 = .ok (.goto 7, 3) := by decide +kernel
theorem dX3_step_175 : decode cX3_step 175 = .ok (.aload_n 0, 1) := by decide +kernel
theorem dX3_step_176 : decode cX3_step 176 = .ok (.getfield 106, 3) := by decide +kernel
theorem dX3_step_179 : decode cX3_step 179 = .ok (.putfield 106, 3) := by decide +kernel
theorem dX3_step_182 : decode cX3_step 182 = .ok (.iinc 2 1, 3) := by decide +kernel
theorem dX3_step_185 : decode cX3_step 185 = .ok (.goto (-52), 3) := by decide +kernel
theorem dX3_step_188 : decode cX3_step 188 = .ok (.aload_n 0, 1) := by decide +kernel
theorem dX3_step_189 : decode cX3_step 189 = .ok (.dup, 1) := by decide +kernel
theorem dX3_step_190 : decode cX3_step 190 = .ok (.getfield 103, 3) := by decide +kernel
theorem dX3_step_193 : decode cX3_step 193 = .ok (.iconst 1, 1) := by decide +kernel
theorem dX3_step_194 : decode cX3_step 194 = .ok (.iadd, 1) := by decide +kernel
theorem dX3_step_195 : decode cX3_step 195 = .ok (.putfield 103, 3) := by decide +kernel
theorem dX3_step_198 : decode cX3_step 198 = .ok (.aload_n 0, 1) := by decide +kernel
theorem dX3_step_199 : decode cX3_step 199 = .ok (.getfield 103, 3) := by decide +kernel
theorem dX3_step_202 : decode cX3_step 202 = .ok (.ireturn, 1) := by decide +kernel
theorem dX3_out_0 : decode cX3_out 0 = .ok (.aload_n 0, 1) := by decide +kernel
theorem dX3_out_1 : decode cX3_out 1 = .ok (.iload_n 1, 1) := by decide +kernel
theorem dX3_out_2 : decode cX3_out 2 = .ok (.invokestatic 61, 3) := by decide +kernel
theorem dX3_out_5 : decode cX3_out 5 = .ok (.ifCond .eq 20, 3) := by decide +kernel
theorem dX3_out_8 : decode cX3_out 8 = .ok (.iload_n 2, 1) := by decide +kernel
theorem dX3_out_9 : decode cX3_out 9 = .ok (.aload_n 0, 1) := by decide +kernel
theorem dX3_out_10 : decode cX3_out 10 = .ok (.getfield 29, 3) := by decide +kernel
theorem dX3_out_13 : decode cX3_out 13 = .ok (.iload_n 1, 1) := by decide +kernel
theorem dX3_out_14 : decode cX3_out 14 = .ok (.iaload, 1) := by decide +kernel
theorem dX3_out_15 : decode cX3_out 15 = .ok (.invokestatic 77, 3) := by decide +kernel
theorem dX3_out_18 : decode cX3_out 18 = .ok (.ifCond .eq 7, 3) := by decide +kernel
theorem dX3_out_21 : decode cX3_out 21 = .ok (.iconst 0, 1) := by decide +kernel
theorem dX3_out_22 : decode cX3_out 22 = .ok (.goto 4, 3) := by decide +kernel
theorem dX3_out_25 : decode cX3_out 25 = .ok (.iconst 1, 1) := by decide +kernel
theorem dX3_out_26 : decode cX3_out 26 = .ok (.putfield 44, 3) := by decide +kernel
theorem dX3_out_29 : decode cX3_out 29 = .ok (.aload_n 0, 1) := by decide +kernel
theorem dX3_out_30 : decode cX3_out 30 = .ok (.getfield 44, 3) := by decide +kernel
theorem dX3_out_33 : decode cX3_out 33 = .ok (.ifCond .le 7, 3) := by decide +kernel
theorem dX3_out_36 : decode cX3_out 36 = .ok (.iconst 0, 1) := by decide +kernel
theorem dX3_out_37 : decode cX3_out 37 = .ok (.goto 28, 3) := by decide +kernel
theorem dX3_out_40 : decode cX3_out 40 = .ok (.iload_n 2, 1) := by decide +kernel
theorem dX3_out_41 : decode cX3_out 41 = .ok (.aload_n 0, 1) := by decide +kernel
theorem dX3_out_42 : decode cX3_out 42 = .ok (.getfield 38, 3) := by decide +kernel
theorem dX3_out_45 : decode cX3_out 45 = .ok (.iload_n 1, 1) := by decide +kernel
theorem dX3_out_46 : decode cX3_out 46 = .ok (.iaload, 1) := by decide +kernel
theorem dX3_out_47 : decode cX3_out 47 = .ok (.if_icmp .ge 17, 3) := by decide +kernel
theorem dX3_out_50 : decode cX3_out 50 = .ok (.aload_n 0, 1) := by decide +kernel
theorem dX3_out_51 : decode cX3_out 51 = .ok (.getfield 35, 3) := by decide +kernel
theorem dX3_out_54 : decode cX3_out 54 = .ok (.bipush 16, 2) := by decide +kernel
theorem dX3_out_56 : decode cX3_out 56 = .ok (.iload_n 1, 1) := by decide +kernel
theorem dX3_out_57 : decode cX3_out 57 = .ok (.imul, 1) := by decide +kernel
theorem dX3_out_58 : decode cX3_out 58 = .ok (.iload_n 2, 1) := by decide +kernel
theorem dX3_out_59 : decode cX3_out 59 = .ok (.iadd, 1) := by decide +kernel
theorem dX3_out_60 : decode cX3_out 60 = .ok (.iaload, 1) := by decide +kernel
theorem dX3_out_61 : decode cX3_out 61 = .ok (.goto 4, 3) := by decide +kernel
theorem dX3_out_64 : decode cX3_out 64 = .ok (.iconst (-1), 1) := by decide +kernel
theorem dX3_out_65 : decode cX3_out 65 = .ok (.ireturn, 1) := by decide +kernel
theorem dX3_state_0 : decode cX3_state 0 = .ok (.aload_n 0, 1) := by decide +kernel
theorem dX3_state_1 : decode cX3_state 1 = .ok (.iload_n 1, 1) := by decide +kernel
theorem dX3_state_2 : decode cX3_state 2 = .ok (.invokestatic 61, 3) := by decide +kernel
theorem dX3_state_5 : decode cX3_state 5 = .ok (.ifCond .eq 18, 3) := by decide +kernel
theorem dX3_state_8 : decode cX3_state 8 = .ok (.iload_n 2, 1) := by decide +kernel
theorem dX3_state_9 : decode cX3_state 9 = .ok (.aload_n 0, 1) := by decide +kernel
theorem dX3_state_10 : decode cX3_state 10 = .ok (.getfield 54, 3) := by decide +kernel
theorem dX3_state_13 : decode cX3_state 13 = .ok (.invokestatic 77, 3) := by decide +kernel
theorem dX3_state_16 : decode cX3_state 16 = .ok (.ifCond .eq 7, 3) := by decide +kernel
theorem dX3_state_19 : decode cX3_state 19 = .ok (.iconst 0, 1) := by decide +kernel
theorem dX3_state_20 : decode cX3_state 20 = .ok (.goto 4, 3) := by decide +kernel
theorem dX3_state_23 : decode cX3_state 23 = .ok (.iconst 1, 1) := by decide +kernel
theorem dX3_state_24 : decode cX3_state 24 = .ok (.putfield 44, 3) := by decide +kernel
theorem dX3_state_27 : decode cX3_state 27 = .ok (.aload_n 0, 1) := by decide +kernel
theorem dX3_state_28 : decode cX3_state 28 = .ok (.getfield 44, 3) := by decide +kernel
theorem dX3_state_31 : decode cX3_state 31 = .ok (.ifCond .le 7, 3) := by decide +kernel
theorem dX3_state_34 : decode cX3_state 34 = .ok (.iconst 0, 1) := by decide +kernel
theorem dX3_state_35 : decode cX3_state 35 = .ok (.goto 13, 3) := by decide +kernel
theorem dX3_state_38 : decode cX3_state 38 = .ok (.aload_n 0, 1) := by decide +kernel
theorem dX3_state_39 : decode cX3_state 39 = .ok (.getfield 26, 3) := by decide +kernel
theorem dX3_state_42 : decode cX3_state 42 = .ok (.iconst 4, 1) := by decide +kernel
theorem dX3_state_43 : decode cX3_state 43 = .ok (.iload_n 1, 1) := by decide +kernel
theorem dX3_state_44 : decode cX3_state 44 = .ok (.imul, 1) := by decide +kernel
theorem dX3_state_45 : decode cX3_state 45 = .ok (.iload_n 2, 1) := by decide +kernel
theorem dX3_state_46 : decode cX3_state 46 = .ok (.iadd, 1) := by decide +kernel
theorem dX3_state_47 : decode cX3_state 47 = .ok (.iaload, 1) := by decide +kernel
theorem dX3_state_48 : decode cX3_state 48 = .ok (.ireturn, 1) := by decide +kernel
theorem dX3_apart_0 : decode cX3_apart 0 = .ok (.aload_n 0, 1) := by decide +kernel
theorem dX3_apart_1 : decode cX3_apart 1 = .ok (.iconst 0, 1) := by decide +kernel
theorem dX3_apart_2 : decode cX3_apart 2 = .ok (.putfield 44, 3) := by decide +kernel
theorem dX3_apart_5 : decode cX3_apart 5 = .ok (.aload_n 0, 1) := by decide +kernel
theorem dX3_apart_6 : decode cX3_apart 6 = .ok (.getfield 106, 3) := by decide +kernel
theorem dX3_apart_9 : decode cX3_apart 9 = .ok (.ireturn, 1) := by decide +kernel
theorem dX3_ands_0 : decode cX3_ands 0 = .ok (.iconst 0, 1) := by decide +kernel
theorem dX3_ands_1 : decode cX3_ands 1 = .ok (.istore_n 2, 1) := by decide +kernel
theorem dX3_ands_2 : decode cX3_ands 2 = .ok (.iconst 0, 1) := by decide +kernel
theorem dX3_ands_3 : decode cX3_ands 3 = .ok (.istore_n 3, 1) := by decide +kernel
theorem dX3_ands_4 : decode cX3_ands 4 = .ok (.iload_n 3, 1) := by decide +kernel
theorem dX3_ands_5 : decode cX3_ands 5 = .ok (.aload_n 0, 1) := by decide +kernel
theorem dX3_ands_6 : decode cX3_ands 6 = .ok (.getfield 48, 3) := by decide +kernel
theorem dX3_ands_9 : decode cX3_ands 9 = .ok (.if_icmp .ge 27, 3) := by decide +kernel
theorem dX3_ands_12 : decode cX3_ands 12 = .ok (.aload_n 0, 1) := by decide +kernel
theorem dX3_ands_13 : decode cX3_ands 13 = .ok (.getfield 7, 3) := by decide +kernel
theorem dX3_ands_16 : decode cX3_ands 16 = .ok (.iload_n 3, 1) := by decide +kernel
theorem dX3_ands_17 : decode cX3_ands 17 = .ok (.iaload, 1) := by decide +kernel
theorem dX3_ands_18 : decode cX3_ands 18 = .ok (.iload_n 1, 1) := by decide +kernel
theorem dX3_ands_19 : decode cX3_ands 19 = .ok (.if_icmp .ne 9, 3) := by decide +kernel
theorem dX3_ands_22 : decode cX3_ands 22 = .ok (.iload_n 2, 1) := by decide +kernel
theorem dX3_ands_23 : decode cX3_ands 23 = .ok (.iconst 1, 1) := by decide +kernel
theorem dX3_ands_24 : decode cX3_ands 24 = .ok (.iadd, 1) := by decide +kernel
theorem dX3_ands_25 : decode cX3_ands 25 = .ok (.goto 4, 3) := by decide +kernel
theorem dX3_ands_28 : decode cX3_ands 28 = .ok (.iload_n 2, 1) := by decide +kernel
theorem dX3_ands_29 : decode cX3_ands 29 = .ok (.istore_n 2, 1) := by decide +kernel
theorem dX3_ands_30 : decode cX3_ands 30 = .ok (.iinc 3 1, 3) := by decide +kernel
theorem dX3_ands_33 : decode cX3_ands 33 = .ok (.goto (-29), 3) := by decide +kernel
theorem dX3_ands_36 : decode cX3_ands 36 = .ok (.iload_n 2, 1) := by decide +kernel
theorem dX3_ands_37 : decode cX3_ands 37 = .ok (.ireturn, 1) := by decide +kernel
theorem dX3_count_0 : decode cX3_count 0 = .ok (.aload_n 0, 1) := by decide +kernel
theorem dX3_count_1 : decode cX3_count 1 = .ok (.iload_n 1, 1) := by decide +kernel
theorem dX3_count_2 : decode cX3_count 2 = .ok (.bipush 7, 2) := by decide +kernel
theorem dX3_count_4 : decode cX3_count 4 = .ok (.invokestatic 77, 3) := by decide +kernel
theorem dX3_count_7 : decode cX3_count 7 = .ok (.ifCond .eq 7, 3) := by decide +kernel
theorem dX3_count_10 : decode cX3_count 10 = .ok (.iconst 0, 1) := by decide +kernel
theorem dX3_count_11 : decode cX3_count 11 = .ok (.goto 4, 3) := by decide +kernel
theorem dX3_count_14 : decode cX3_count 14 = .ok (.iconst 1, 1) := by decide +kernel
theorem dX3_count_15 : decode cX3_count 15 = .ok (.putfield 44, 3) := by decide +kernel
theorem dX3_count_18 : decode cX3_count 18 = .ok (.iload_n 1, 1) := by decide +kernel
theorem dX3_count_19 : decode cX3_count 19 = .ok (.tableswitch 82 0 6 #[41, 46, 51, 56, 62, 68, 75], 41) := by decide +kernel
theorem dX3_count_60 : decode cX3_count 60 = .ok (.aload_n 0, 1) := by decide +kernel
theorem dX3_count_61 : decode cX3_count 61 = .ok (.getfield 48, 3) := by decide +kernel
theorem dX3_count_64 : decode cX3_count 64 = .ok (.ireturn, 1) := by decide +kernel
theorem dX3_count_65 : decode cX3_count 65 = .ok (.aload_n 0, 1) := by decide +kernel
theorem dX3_count_66 : decode cX3_count 66 = .ok (.getfield 51, 3) := by decide +kernel
theorem dX3_count_69 : decode cX3_count 69 = .ok (.ireturn, 1) := by decide +kernel
theorem dX3_count_70 : decode cX3_count 70 = .ok (.aload_n 0, 1) := by decide +kernel
theorem dX3_count_71 : decode cX3_count 71 = .ok (.getfield 54, 3) := by decide +kernel
theorem dX3_count_74 : decode cX3_count 74 = .ok (.ireturn, 1) := by decide +kernel
theorem dX3_count_75 : decode cX3_count 75 = .ok (.aload_n 0, 1) := by decide +kernel
theorem dX3_count_76 : decode cX3_count 76 = .ok (.iconst 0, 1) := by decide +kernel
theorem dX3_count_77 : decode cX3_count 77 = .ok (.invokevirtual 112, 3) := by decide +kernel
theorem dX3_count_80 : decode cX3_count 80 = .ok (.ireturn, 1) := by decide +kernel
theorem dX3_count_81 : decode cX3_count 81 = .ok (.aload_n 0, 1) := by decide +kernel
theorem dX3_count_82 : decode cX3_count 82 = .ok (.iconst 1, 1) := by decide +kernel
theorem dX3_count_83 : decode cX3_count 83 = .ok (.invokevirtual 112, 3) := by decide +kernel
theorem dX3_count_86 : decode cX3_count 86 = .ok (.ireturn, 1) := by decide +kernel
theorem dX3_count_87 : decode cX3_count 87 = .ok (.aload_n 0, 1) := by decide +kernel
theorem dX3_count_88 : decode cX3_count 88 = .ok (.getfield 29, 3) := by decide +kernel
theorem dX3_count_91 : decode cX3_count 91 = .ok (.iconst 0, 1) := by decide +kernel
theorem dX3_count_92 : decode cX3_count 92 = .ok (.iaload, 1) := by decide +kernel
theorem dX3_count_93 : decode cX3_count 93 = .ok (.ireturn, 1) := by decide +kernel
theorem dX3_count_94 : decode cX3_count 94 = .ok (.aload_n 0, 1) := by decide +kernel
theorem dX3_count_95 : decode cX3_count 95 = .ok (.getfield 29, 3) := by decide +kernel
theorem dX3_count_98 : decode cX3_count 98 = .ok (.iconst 1, 1) := by decide +kernel
theorem dX3_count_99 : decode cX3_count 99 = .ok (.iaload, 1) := by decide +kernel
theorem dX3_count_100 : decode cX3_count 100 = .ok (.ireturn, 1) := by decide +kernel
theorem dX3_count_101 : decode cX3_count 101 = .ok (.iconst 0, 1) := by decide +kernel
theorem dX3_count_102 : decode cX3_count 102 = .ok (.ireturn, 1) := by decide +kernel
theorem dX3_clear_0 : decode cX3_clear 0 = .ok (.aload_n 0, 1) := by decide +kernel
theorem dX3_clear_1 : decode cX3_clear 1 = .ok (.iconst 0, 1) := by decide +kernel
theorem dX3_clear_2 : decode cX3_clear 2 = .ok (.putfield 44, 3) := by decide +kernel
theorem dX3_clear_5 : decode cX3_clear 5 = .ok (.aload_n 0, 1) := by decide +kernel
theorem dX3_clear_6 : decode cX3_clear 6 = .ok (.iconst 1, 1) := by decide +kernel
theorem dX3_clear_7 : decode cX3_clear 7 = .ok (.putfield 48, 3) := by decide +kernel
theorem dX3_clear_10 : decode cX3_clear 10 = .ok (.aload_n 0, 1) := by decide +kernel
theorem dX3_clear_11 : decode cX3_clear 11 = .ok (.getfield 7, 3) := by decide +kernel
theorem dX3_clear_14 : decode cX3_clear 14 = .ok (.iconst 0, 1) := by decide +kernel
theorem dX3_clear_15 : decode cX3_clear 15 = .ok (.iconst (-1), 1) := by decide +kernel
theorem dX3_clear_16 : decode cX3_clear 16 = .ok (.iastore, 1) := by decide +kernel
theorem dX3_clear_17 : decode cX3_clear 17 = .ok (.iconst 0, 1) := by decide +kernel
theorem dX3_clear_18 : decode cX3_clear 18 = .ok (.istore_n 1, 1) := by decide +kernel
theorem dX3_clear_19 : decode cX3_clear 19 = .ok (.iload_n 1, 1) := by decide +kernel
theorem dX3_clear_20 : decode cX3_clear 20 = .ok (.bipush 64, 2) := by decide +kernel
theorem dX3_clear_22 : decode cX3_clear 22 = .ok (.if_icmp .ge 16, 3) := by decide +kernel
theorem dX3_clear_25 : decode cX3_clear 25 = .ok (.aload_n 0, 1) := by decide +kernel
theorem dX3_clear_26 : decode cX3_clear 26 = .ok (.getfield 13, 3) := by decide +kernel
theorem dX3_clear_29 : decode cX3_clear 29 = .ok (.iload_n 1, 1) := by decide +kernel
theorem dX3_clear_30 : decode cX3_clear 30 = .ok (.lconst 0, 1) := by decide +kernel
theorem dX3_clear_31 : decode cX3_clear 31 = .ok (.lastore, 1) := by decide +kernel
theorem dX3_clear_32 : decode cX3_clear 32 = .ok (.iinc 1 1, 3) := by decide +kernel
theorem dX3_clear_35 : decode cX3_clear 35 = .ok (.goto (-16), 3) := by decide +kernel
theorem dX3_clear_38 : decode cX3_clear 38 = .ok (.aload_n 0, 1) := by decide +kernel
theorem dX3_clear_39 : decode cX3_clear 39 = .ok (.iconst 0, 1) := by decide +kernel
theorem dX3_clear_40 : decode cX3_clear 40 = .ok (.putfield 51, 3) := by decide +kernel
theorem dX3_clear_43 : decode cX3_clear 43 = .ok (.aload_n 0, 1) := by decide +kernel
theorem dX3_clear_44 : decode cX3_clear 44 = .ok (.iconst 0, 1) := by decide +kernel
theorem dX3_clear_45 : decode cX3_clear 45 = .ok (.putfield 54, 3) := by decide +kernel
theorem dX3_clear_48 : decode cX3_clear 48 = .ok (.aload_n 0, 1) := by decide +kernel
theorem dX3_clear_49 : decode cX3_clear 49 = .ok (.getfield 29, 3) := by decide +kernel
theorem dX3_clear_52 : decode cX3_clear 52 = .ok (.iconst 0, 1) := by decide +kernel
theorem dX3_clear_53 : decode cX3_clear 53 = .ok (.iconst 0, 1) := by decide +kernel
theorem dX3_clear_54 : decode cX3_clear 54 = .ok (.iastore, 1) := by decide +kernel
theorem dX3_clear_55 : decode cX3_clear 55 = .ok (.aload_n 0, 1) := by decide +kernel
theorem dX3_clear_56 : decode cX3_clear 56 = .ok (.getfield 29, 3) := by decide +kernel
theorem dX3_clear_59 : decode cX3_clear 59 = .ok (.iconst 1, 1) := by decide +kernel
theorem dX3_clear_60 : decode cX3_clear 60 = .ok (.iconst 0, 1) := by decide +kernel
theorem dX3_clear_61 : decode cX3_clear 61 = .ok (.iastore, 1) := by decide +kernel
theorem dX3_clear_62 : decode cX3_clear 62 = .ok (.aload_n 0, 1) := by decide +kernel
theorem dX3_clear_63 : decode cX3_clear 63 = .ok (.invokevirtual 65, 3) := by decide +kernel
theorem dX3_clear_66 : decode cX3_clear 66 = .ok (.return_, 1) := by decide +kernel
