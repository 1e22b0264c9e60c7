theorem dX2_init_0 : decode cX2_init 0 = .ok (.aload_n 0, 1) := by decide +kernel
theorem dX2_init_1 : decode cX2_init 1 = .ok (.invokespecial 3, 3) := by decide +kernel
theorem dX2_init_4 : decode cX2_init 4 = .ok (.aload_n 0, 1) := by decide +kernel
theorem dX2_init_5 : decode cX2_init 5 = .ok (.new 9, 3) := by decide +kernel
theorem dX2_init_8 : decode cX2_init 8 = .ok (.dup, 1) := by decide +kernel
theorem dX2_init_9 : decode cX2_init 9 = .ok (.invokespecial 11, 3) := by decide +kernel
theorem dX2_init_12 : decode cX2_init 12 = .ok (.putfield 12, 3) := by decide +kernel
theorem dX2_init_15 : decode cX2_init 15 = .ok (.aload_n 0, 1) := by decide +kernel
theorem dX2_init_16 : decode cX2_init 16 = .ok (.new 16, 3) := by decide +kernel
theorem dX2_init_19 : decode cX2_init 19 = .ok (.dup, 1) := by decide +kernel
theorem dX2_init_20 : decode cX2_init 20 = .ok (.invokespecial 18, 3) := by decide +kernel
theorem dX2_init_23 : decode cX2_init 23 = .ok (.putfield 19, 3) := by decide +kernel
theorem dX2_init_26 : decode cX2_init 26 = .ok (.aload_n 0, 1) := by decide +kernel
theorem dX2_init_27 : decode cX2_init 27 = .ok (.new 16, 3) := by decide +kernel
theorem dX2_init_30 : decode cX2_init 30 = .ok (.dup, 1) := by decide +kernel
theorem dX2_init_31 : decode cX2_init 31 = .ok (.invokespecial 18, 3) := by decide +kernel
theorem dX2_init_34 : decode cX2_init 34 = .ok (.putfield 23, 3) := by decide +kernel
theorem dX2_init_37 : decode cX2_init 37 = .ok (.aload_n 0, 1) := by decide +kernel
theorem dX2_init_38 : decode cX2_init 38 = .ok (.iconst (-1), 1) := by decide +kernel
theorem dX2_init_39 : decode cX2_init 39 = .ok (.putfield 26, 3) := by decide +kernel
theorem dX2_init_42 : decode cX2_init 42 = .ok (.return_, 1) := by decide +kernel
theorem dX2_input_0 : decode cX2_input 0 = .ok (.aload_n 0, 1) := by decide +kernel
theorem dX2_input_1 : decode cX2_input 1 = .ok (.getfield 30, 3) := by decide +kernel
theorem dX2_input_4 : decode cX2_input 4 = .ok (.bipush 8, 2) := by decide +kernel
theorem dX2_input_6 : decode cX2_input 6 = .ok (.if_icmp .ne 13, 3) := by decide +kernel
theorem dX2_input_9 : decode cX2_input 9 = .ok (.new 33, 3) := by decide +kernel
theorem dX2_input_12 : decode cX2_input 12 = .ok (.dup, 1) := by decide +kernel
theorem dX2_input_13 : decode cX2_input 13 = .ok (.ldc 35, 2) := by decide +kernel
theorem dX2_input_15 : decode cX2_input 15 = .ok (.invokespecial 37, 3) := by decide +kernel
theorem dX2_input_18 : decode cX2_input 18 = .ok (.athrow, 1) := by decide +kernel
theorem dX2_input_19 : decode cX2_input 19 = .ok (.aload_n 0, 1) := by decide +kernel
theorem dX2_input_20 : decode cX2_input 20 = .ok (.invokevirtual 40, 3) := by decide +kernel
theorem dX2_input_23 : decode cX2_input 23 = .ok (.aload_n 0, 1) := by decide +kernel
theorem dX2_input_24 : decode cX2_input 24 = .ok (.getfield 12, 3) := by decide +kernel
theorem dX2_input_27 : decode cX2_input 27 = .ok (.aload_n 0, 1) := by decide +kernel
theorem dX2_input_28 : decode cX2_input 28 = .ok (.getfield 30, 3) := by decide +kernel
theorem dX2_input_31 : decode cX2_input 31 = .ok (.invokevirtual 43, 3) := by decide +kernel
theorem dX2_input_34 : decode cX2_input 34 = .ok (.istore_n 1, 1) := by decide +kernel
theorem dX2_input_35 : decode cX2_input 35 = .ok (.aload_n 0, 1) := by decide +kernel
theorem dX2_input_36 : decode cX2_input 36 = .ok (.dup, 1) := by decide +kernel
theorem dX2_input_37 : decode cX2_input 37 = .ok (.getfield 30, 3) := by decide +kernel
theorem dX2_input_40 : decode cX2_input 40 = .ok (.iconst 1, 1) := by decide +kernel
theorem dX2_input_41 : decode cX2_input 41 = .ok (.iadd, 1) := by decide +kernel
theorem dX2_input_42 : decode cX2_input 42 = .ok (.putfield 30, 3) := by decide +kernel
theorem dX2_input_45 : decode cX2_input 45 = .ok (.iload_n 1, 1) := by decide +kernel
theorem dX2_input_46 : decode cX2_input 46 = .ok (.ireturn, 1) := by decide +kernel
theorem dX2_latch_0 : decode cX2_latch 0 = .ok (.aload_n 0, 1) := by decide +kernel
theorem dX2_latch_1 : decode cX2_latch 1 = .ok (.getfield 47, 3) := by decide +kernel
theorem dX2_latch_4 : decode cX2_latch 4 = .ok (.iconst 4, 1) := by decide +kernel
theorem dX2_latch_5 : decode cX2_latch 5 = .ok (.if_icmp .ne 13, 3) := by decide +kernel
theorem dX2_latch_8 : decode cX2_latch 8 = .ok (.new 33, 3) := by decide +kernel
theorem dX2_latch_11 : decode cX2_latch 11 = .ok (.dup, 1) := by decide +kernel
theorem dX2_latch_12 : decode cX2_latch 12 = .ok (.ldc 50, 2) := by decide +kernel
theorem dX2_latch_14 : decode cX2_latch 14 = .ok (.invokespecial 37, 3) := by decide +kernel
theorem dX2_latch_17 : decode cX2_latch 17 = .ok (.athrow, 1) := by decide +kernel
theorem dX2_latch_18 : decode cX2_latch 18 = .ok (.aload_n 0, 1) := by decide +kernel
theorem dX2_latch_19 : decode cX2_latch 19 = .ok (.invokevirtual 40, 3) := by decide +kernel
theorem dX2_latch_22 : decode cX2_latch 22 = .ok (.aload_n 0, 1) := by decide +kernel
theorem dX2_latch_23 : decode cX2_latch 23 = .ok (.iload_n 1, 1) := by decide +kernel
theorem dX2_latch_24 : decode cX2_latch 24 = .ok (.invokevirtual 52, 3) := by decide +kernel
theorem dX2_latch_27 : decode cX2_latch 27 = .ok (.aload_n 0, 1) := by decide +kernel
theorem dX2_latch_28 : decode cX2_latch 28 = .ok (.iload_n 2, 1) := by decide +kernel
theorem dX2_latch_29 : decode cX2_latch 29 = .ok (.invokevirtual 52, 3) := by decide +kernel
theorem dX2_latch_32 : decode cX2_latch 32 = .ok (.aload_n 0, 1) := by decide +kernel
theorem dX2_latch_33 : decode cX2_latch 33 = .ok (.getfield 12, 3) := by decide +kernel
theorem dX2_latch_36 : decode cX2_latch 36 = .ok (.bipush 8, 2) := by decide +kernel
theorem dX2_latch_38 : decode cX2_latch 38 = .ok (.aload_n 0, 1) := by decide +kernel
theorem dX2_latch_39 : decode cX2_latch 39 = .ok (.getfield 47, 3) := by decide +kernel
theorem dX2_latch_42 : decode cX2_latch 42 = .ok (.iadd, 1) := by decide +kernel
theorem dX2_latch_43 : decode cX2_latch 43 = .ok (.invokevirtual 43, 3) := by decide +kernel
theorem dX2_latch_46 : decode cX2_latch 46 = .ok (.istore_n 3, 1) := by decide +kernel
theorem dX2_latch_47 : decode cX2_latch 47 = .ok (.aload_n 0, 1) := by decide +kernel
theorem dX2_latch_48 : decode cX2_latch 48 = .ok (.getfield 19, 3) := by decide +kernel
theorem dX2_latch_51 : decode cX2_latch 51 = .ok (.aload_n 0, 1) := by decide +kernel
theorem dX2_latch_52 : decode cX2_latch 52 = .ok (.getfield 47, 3) := by decide +kernel
theorem dX2_latch_55 : decode cX2_latch 55 = .ok (.iload_n 1, 1) := by decide +kernel
theorem dX2_latch_56 : decode cX2_latch 56 = .ok (.iload_n 3, 1) := by decide +kernel
theorem dX2_latch_57 : decode cX2_latch 57 = .ok (.invokevirtual 56, 3) := by decide +kernel
theorem dX2_latch_60 : decode cX2_latch 60 = .ok (.aload_n 0, 1) := by decide +kernel
theorem dX2_latch_61 : decode cX2_latch 61 = .ok (.getfield 23, 3) := by decide +kernel
theorem dX2_latch_64 : decode cX2_latch 64 = .ok (.aload_n 0, 1) := by decide +kernel
theorem dX2_latch_65 : decode cX2_latch 65 = .ok (.getfield 47, 3) := by decide +kernel
theorem dX2_latch_68 : decode cX2_latch 68 = .ok (.iload_n 2, 1) := by decide +kernel
theorem dX2_latch_69 : decode cX2_latch 69 = .ok (.iload_n 3, 1) := by decide +kernel
theorem dX2_latch_70 : decode cX2_latch 70 = .ok (.invokevirtual 56, 3) := by decide +kernel
theorem dX2_latch_73 : decode cX2_latch 73 = .ok (.aload_n 0, 1) := by decide +kernel
theorem dX2_latch_74 : decode cX2_latch 74 = .ok (.dup, 1) := by decide +kernel
theorem dX2_latch_75 : decode cX2_latch 75 = .ok (.getfield 47, 3) := by decide +kernel
theorem dX2_latch_78 : decode cX2_latch 78 = .ok (.iconst 1, 1) := by decide +kernel
theorem dX2_latch_79 : decode cX2_latch 79 = .ok (.iadd, 1) := by decide +kernel
theorem dX2_latch_80 : decode cX2_latch 80 = .ok (.putfield 47, 3) := by decide +kernel
theorem dX2_latch_83 : decode cX2_latch 83 = .ok (.aload_n 0, 1) := by decide +kernel
theorem dX2_latch_84 : decode cX2_latch 84 = .ok (.invokevirtual 60, 3) := by decide +kernel
theorem dX2_latch_87 : decode cX2_latch 87 = .ok (.iload_n 3, 1) := by decide +kernel
theorem dX2_latch_88 : decode cX2_latch 88 = .ok (.ireturn, 1) := by decide +kernel
theorem dX2_and_0 : decode cX2_and 0 = .ok (.aload_n 0, 1) := by decide +kernel
theorem dX2_and_1 : decode cX2_and 1 = .ok (.iload_n 1, 1) := by decide +kernel
theorem dX2_and_2 : decode cX2_and 2 = .ok (.invokevirtual 63, 3) := by decide +kernel
theorem dX2_and_5 : decode cX2_and 5 = .ok (.aload_n 0, 1) := by decide +kernel
theorem dX2_and_6 : decode cX2_and 6 = .ok (.iload_n 2, 1) := by decide +kernel
theorem dX2_and_7 : decode cX2_and 7 = .ok (.invokevirtual 66, 3) := by decide +kernel
theorem dX2_and_10 : decode cX2_and 10 = .ok (.aload_n 0, 1) := by decide +kernel
theorem dX2_and_11 : decode cX2_and 11 = .ok (.iload_n 3, 1) := by decide +kernel
theorem dX2_and_12 : decode cX2_and 12 = .ok (.invokevirtual 66, 3) := by decide +kernel
theorem dX2_and_15 : decode cX2_and 15 = .ok (.aload_n 0, 1) := by decide +kernel
theorem dX2_and_16 : decode cX2_and 16 = .ok (.invokevirtual 40, 3) := by decide +kernel
theorem dX2_and_19 : decode cX2_and 19 = .ok (.aload_n 0, 1) := by decide +kernel
theorem dX2_and_20 : decode cX2_and 20 = .ok (.iload_n 1, 1) := by decide +kernel
theorem dX2_and_21 : decode cX2_and 21 = .ok (.iload_n 2, 1) := by decide +kernel
theorem dX2_and_22 : decode cX2_and 22 = .ok (.invokevirtual 69, 3) := by decide +kernel
theorem dX2_and_25 : decode cX2_and 25 = .ok (.aload_n 0, 1) := by decide +kernel
theorem dX2_and_26 : decode cX2_and 26 = .ok (.iload_n 1, 1) := by decide +kernel
theorem dX2_and_27 : decode cX2_and 27 = .ok (.iload_n 3, 1) := by decide +kernel
theorem dX2_and_28 : decode cX2_and 28 = .ok (.invokevirtual 69, 3) := by decide +kernel
theorem dX2_and_31 : decode cX2_and 31 = .ok (.aload_n 0, 1) := by decide +kernel
theorem dX2_and_32 : decode cX2_and 32 = .ok (.getfield 12, 3) := by decide +kernel
theorem dX2_and_35 : decode cX2_and 35 = .ok (.iload_n 1, 1) := by decide +kernel
theorem dX2_and_36 : decode cX2_and 36 = .ok (.iload_n 2, 1) := by decide +kernel
theorem dX2_and_37 : decode cX2_and 37 = .ok (.iload_n 3, 1) := by decide +kernel
theorem dX2_and_38 : decode cX2_and 38 = .ok (.invokevirtual 73, 3) := by decide +kernel
theorem dX2_and_41 : decode cX2_and 41 = .ok (.ireturn, 1) := by decide +kernel
theorem dX2_output_0 : decode cX2_output 0 = .ok (.aload_n 0, 1) := by decide +kernel
theorem dX2_output_1 : decode cX2_output 1 = .ok (.iload_n 1, 1) := by decide +kernel
theorem dX2_output_2 : decode cX2_output 2 = .ok (.invokevirtual 63, 3) := by decide +kernel
theorem dX2_output_5 : decode cX2_output 5 = .ok (.aload_n 0, 1) := by decide +kernel
theorem dX2_output_6 : decode cX2_output 6 = .ok (.iload_n 2, 1) := by decide +kernel
theorem dX2_output_7 : decode cX2_output 7 = .ok (.invokevirtual 66, 3) := by decide +kernel
theorem dX2_output_10 : decode cX2_output 10 = .ok (.aload_n 0, 1) := by decide +kernel
theorem dX2_output_11 : decode cX2_output 11 = .ok (.iload_n 1, 1) := by decide +kernel
theorem dX2_output_12 : decode cX2_output 12 = .ok (.invokevirtual 77, 3) := by decide +kernel
theorem dX2_output_15 : decode cX2_output 15 = .ok (.astore_n 3, 1) := by decide +kernel
theorem dX2_output_16 : decode cX2_output 16 = .ok (.aload_n 3, 1) := by decide +kernel
theorem dX2_output_17 : decode cX2_output 17 = .ok (.getfield 81, 3) := by decide +kernel
theorem dX2_output_20 : decode cX2_output 20 = .ok (.bipush 16, 2) := by decide +kernel
theorem dX2_output_22 : decode cX2_output 22 = .ok (.if_icmp .ne 13, 3) := by decide +kernel
theorem dX2_output_25 : decode cX2_output 25 = .ok (.new 33, 3) := by decide +kernel
theorem dX2_output_28 : decode cX2_output 28 = .ok (.dup, 1) := by decide +kernel
theorem dX2_output_29 : decode cX2_output 29 = .ok (.ldc 84, 2) := by decide +kernel
theorem dX2_output_31 : decode cX2_output 31 = .ok (.invokespecial 37, 3) := by decide +kernel
theorem dX2_output_34 : decode cX2_output 34 = .ok (.athrow, 1) := by decide +kernel
theorem dX2_output_35 : decode cX2_output 35 = .ok (.aload_n 0, 1) := by decide +kernel
theorem dX2_output_36 : decode cX2_output 36 = .ok (.iload_n 1, 1) := by decide +kernel
theorem dX2_output_37 : decode cX2_output 37 = .ok (.iload_n 2, 1) := by decide +kernel
theorem dX2_output_38 : decode cX2_output 38 = .ok (.invokevirtual 69, 3) := by decide +kernel
theorem dX2_output_41 : decode cX2_output 41 = .ok (.aload_n 3, 1) := by decide +kernel
theorem dX2_output_42 : decode cX2_output 42 = .ok (.iload_n 2, 1) := by decide +kernel
theorem dX2_output_43 : decode cX2_output 43 = .ok (.invokevirtual 86, 3) := by decide +kernel
theorem dX2_output_46 : decode cX2_output 46 = .ok (.ireturn, 1) := by decide +kernel
theorem dX2_next_0 : decode cX2_next 0 = .ok (.aload_n 0, 1) := by decide +kernel
theorem dX2_next_1 : decode cX2_next 1 = .ok (.iload_n 1, 1) := by decide +kernel
theorem dX2_next_2 : decode cX2_next 2 = .ok (.invokevirtual 63, 3) := by decide +kernel
theorem dX2_next_5 : decode cX2_next 5 = .ok (.aload_n 0, 1) := by decide +kernel
theorem dX2_next_6 : decode cX2_next 6 = .ok (.iload_n 2, 1) := by decide +kernel
theorem dX2_next_7 : decode cX2_next 7 = .ok (.invokevirtual 89, 3) := by decide +kernel
theorem dX2_next_10 : decode cX2_next 10 = .ok (.aload_n 0, 1) := by decide +kernel
theorem dX2_next_11 : decode cX2_next 11 = .ok (.iload_n 3, 1) := by decide +kernel
theorem dX2_next_12 : decode cX2_next 12 = .ok (.invokevirtual 66, 3) := by decide +kernel
theorem dX2_next_15 : decode cX2_next 15 = .ok (.aload_n 0, 1) := by decide +kernel
theorem dX2_next_16 : decode cX2_next 16 = .ok (.iload_n 1, 1) := by decide +kernel
theorem dX2_next_17 : decode cX2_next 17 = .ok (.iload_n 3, 1) := by decide +kernel
theorem dX2_next_18 : decode cX2_next 18 = .ok (.invokevirtual 69, 3) := by decide +kernel
theorem dX2_next_21 : decode cX2_next 21 = .ok (.aload_n 0, 1) := by decide +kernel
theorem dX2_next_22 : decode cX2_next 22 = .ok (.iload_n 1, 1) := by decide +kernel
theorem dX2_next_23 : decode cX2_next 23 = .ok (.invokevirtual 77, 3) := by decide +kernel
theorem dX2_next_26 : decode cX2_next 26 = .ok (.astore 4, 2) := by decide +kernel
theorem dX2_next_28 : decode cX2_next 28 = .ok (.aload 4, 2) := by decide +kernel
theorem dX2_next_30 : decode cX2_next 30 = .ok (.getfield 92, 3) := by decide +kernel
theorem dX2_next_33 : decode cX2_next 33 = .ok (.iload_n 2, 1) := by decide +kernel
theorem dX2_next_34 : decode cX2_next 34 = .ok (.iaload, 1) := by decide +kernel
theorem dX2_next_35 : decode cX2_next 35 = .ok (.istore 5, 2) := by decide +kernel
theorem dX2_next_37 : decode cX2_next 37 = .ok (.aload 4, 2) := by decide +kernel
theorem dX2_next_39 : decode cX2_next 39 = .ok (.getfield 92, 3) := by decide +kernel
theorem dX2_next_42 : decode cX2_next 42 = .ok (.iload_n 2, 1) := by decide +kernel
theorem dX2_next_43 : decode cX2_next 43 = .ok (.iload_n 3, 1) := by decide +kernel
theorem dX2_next_44 : decode cX2_next 44 = .ok (.iastore, 1) := by decide +kernel
theorem dX2_next_45 : decode cX2_next 45 = .ok (.iload 5, 2) := by decide +kernel
theorem dX2_next_47 : decode cX2_next 47 = .ok (.ireturn, 1) := by decide +kernel
theorem dX2_same_0 : decode cX2_same 0 = .ok (.aload_n 0, 1) := by decide +kernel
theorem dX2_same_1 : decode cX2_same 1 = .ok (.iload_n 1, 1) := by decide +kernel
theorem dX2_same_2 : decode cX2_same 2 = .ok (.invokevirtual 66, 3) := by decide +kernel
theorem dX2_same_5 : decode cX2_same 5 = .ok (.aload_n 0, 1) := by decide +kernel
theorem dX2_same_6 : decode cX2_same 6 = .ok (.iload_n 2, 1) := by decide +kernel
theorem dX2_same_7 : decode cX2_same 7 = .ok (.invokevirtual 66, 3) := by decide +kernel
theorem dX2_same_10 : decode cX2_same 10 = .ok (.aload_n 0, 1) := by decide +kernel
theorem dX2_same_11 : decode cX2_same 11 = .ok (.getfield 12, 3) := by decide +kernel
theorem dX2_same_14 : decode cX2_same 14 = .ok (.iload_n 1, 1) := by decide +kernel
theorem dX2_same_15 : decode cX2_same 15 = .ok (.iload_n 2, 1) := by decide +kernel
theorem dX2_same_16 : decode cX2_same 16 = .ok (.invokevirtual 96, 3) := by decide +kernel
theorem dX2_same_19 : decode cX2_same 19 = .ok (.ireturn, 1) := by decide +kernel
theorem dX2_first_0 : decode cX2_first 0 = .ok (.aload_n 0, 1) := by decide +kernel
theorem dX2_first_1 : decode cX2_first 1 = .ok (.iload_n 1, 1) := by decide +kernel
theorem dX2_first_2 : decode cX2_first 2 = .ok (.invokevirtual 66, 3) := by decide +kernel
theorem dX2_first_5 : decode cX2_first 5 = .ok (.aload_n 0, 1) := by decide +kernel
theorem dX2_first_6 : decode cX2_first 6 = .ok (.getfield 12, 3) := by decide +kernel
theorem dX2_first_9 : decode cX2_first 9 = .ok (.iload_n 1, 1) := by decide +kernel
theorem dX2_first_10 : decode cX2_first 10 = .ok (.invokevirtual 100, 3) := by decide +kernel
theorem dX2_first_13 : decode cX2_first 13 = .ok (.ireturn, 1) := by decide +kernel
theorem dX2_classes_0 : decode cX2_classes 0 = .ok (.aload_n 0, 1) := by decide +kernel
theorem dX2_classes_1 : decode cX2_classes 1 = .ok (.getfield 12, 3) := by decide +kernel
theorem dX2_classes_4 : decode cX2_classes 4 = .ok (.invokevirtual 103, 3) := by decide +kernel
theorem dX2_classes_7 : decode cX2_classes 7 = .ok (.ireturn, 1) := by decide +kernel
theorem dX2_merged_0 : decode cX2_merged 0 = .ok (.aload_n 0, 1) := by decide +kernel
theorem dX2_merged_1 : decode cX2_merged 1 = .ok (.iload_n 1, 1) := by decide +kernel
theorem dX2_merged_2 : decode cX2_merged 2 = .ok (.invokevirtual 63, 3) := by decide +kernel
theorem dX2_merged_5 : decode cX2_merged 5 = .ok (.aload_n 0, 1) := by decide +kernel
theorem dX2_merged_6 : decode cX2_merged 6 = .ok (.getfield 12, 3) := by decide +kernel
theorem dX2_merged_9 : decode cX2_merged 9 = .ok (.iload_n 1, 1) := by decide +kernel
theorem dX2_merged_10 : decode cX2_merged 10 = .ok (.invokevirtual 107, 3) := by decide +kernel
theorem dX2_merged_13 : decode cX2_merged 13 = .ok (.ireturn, 1) := by decide +kernel
theorem dX2_hangs_0 : decode cX2_hangs 0 = .ok (.aload_n 0, 1) := by decide +kernel
theorem dX2_hangs_1 : decode cX2_hangs 1 = .ok (.iload_n 1, 1) := by decide +kernel
theorem dX2_hangs_2 : decode cX2_hangs 2 = .ok (.invokevirtual 66, 3) := by decide +kernel
theorem dX2_hangs_5 : decode cX2_hangs 5 = .ok (.aload_n 0, 1) := by decide +kernel
theorem dX2_hangs_6 : decode cX2_hangs 6 = .ok (.getfield 12, 3) := by decide +kernel
theorem dX2_hangs_9 : decode cX2_hangs 9 = .ok (.iload_n 1, 1) := by decide +kernel
theorem dX2_hangs_10 : decode cX2_hangs 10 = .ok (.invokevirtual 110, 3) := by decide +kernel
theorem dX2_hangs_13 : decode cX2_hangs 13 = .ok (.ireturn, 1) := by decide +kernel
theorem dX2_ones_0 : decode cX2_ones 0 = .ok (.aload_n 0, 1) := by decide +kernel
theorem dX2_ones_1 : decode cX2_ones 1 = .ok (.iload_n 1, 1) := by decide +kernel
theorem dX2_ones_2 : decode cX2_ones 2 = .ok (.invokevirtual 66, 3) := by decide +kernel
theorem dX2_ones_5 : decode cX2_ones 5 = .ok (.aload_n 0, 1) := by decide +kernel
theorem dX2_ones_6 : decode cX2_ones 6 = .ok (.getfield 12, 3) := by decide +kernel
theorem dX2_ones_9 : decode cX2_ones 9 = .ok (.iload_n 1, 1) := by decide +kernel
theorem dX2_ones_10 : decode cX2_ones 10 = .ok (.invokevirtual 113, 3) := by decide +kernel
theorem dX2_ones_13 : decode cX2_ones 13 = .ok (.bipush 12, 2) := by decide +kernel
theorem dX2_ones_15 : decode cX2_ones 15 = .ok (.aload_n 0, 1) := by decide +kernel
theorem dX2_ones_16 : decode cX2_ones 16 = .ok (.getfield 30, 3) := by decide +kernel
theorem dX2_ones_19 : decode cX2_ones 19 = .ok (.isub, 1) := by decide +kernel
theorem dX2_ones_20 : decode cX2_ones 20 = .ok (.aload_n 0, 1) := by decide +kernel
theorem dX2_ones_21 : decode cX2_ones 21 = .ok (.getfield 47, 3) := by decide +kernel
theorem dX2_ones_24 : decode cX2_ones 24 = .ok (.isub, 1) := by decide +kernel
theorem dX2_ones_25 : decode cX2_ones 25 = .ok (.ishr, 1) := by decide +kernel
theorem dX2_ones_26 : decode cX2_ones 26 = .ok (.ireturn, 1) := by decide +kernel
theorem dX2_value_0 : decode cX2_value 0 = .ok (.aload_n 0, 1) := by decide +kernel
theorem dX2_value_1 : decode cX2_value 1 = .ok (.iload_n 1, 1) := by decide +kernel
theorem dX2_value_2 : decode cX2_value 2 = .ok (.invokevirtual 66, 3) := by decide +kernel
theorem dX2_value_5 : decode cX2_value 5 = .ok (.aload_n 0, 1) := by decide +kernel
theorem dX2_value_6 : decode cX2_value 6 = .ok (.getfield 12, 3) := by decide +kernel
theorem dX2_value_9 : decode cX2_value 9 = .ok (.iload_n 1, 1) := by decide +kernel
theorem dX2_value_10 : decode cX2_value 10 = .ok (.iload_n 2, 1) := by decide +kernel
theorem dX2_value_11 : decode cX2_value 11 = .ok (.invokevirtual 116, 3) := by decide +kernel
theorem dX2_value_14 : decode cX2_value 14 = .ok (.ireturn, 1) := by decide +kernel
theorem dX2_differs_0 : decode cX2_differs 0 = .ok (.iload_n 1, 1) := by decide +kernel
theorem dX2_differs_1 : decode cX2_differs 1 = .ok (.ifCond .ge 13, 3) := by decide +kernel
theorem dX2_differs_4 : decode cX2_differs 4 = .ok (.new 120, 3) := by decide +kernel
theorem dX2_differs_7 : decode cX2_differs 7 = .ok (.dup, 1) := by decide +kernel
theorem dX2_differs_8 : decode cX2_differs 8 = .ok (.ldc 122, 2) := by decide +kernel
theorem dX2_differs_10 : decode cX2_differs 10 = .ok (.invokespecial 124, 3) := by decide +kernel
theorem dX2_differs_13 : decode cX2_differs 13 = .ok (.athrow, 1) := by decide +kernel
theorem dX2_differs_14 : decode cX2_differs 14 = .ok (.aload_n 0, 1) := by decide +kernel
theorem dX2_differs_15 : decode cX2_differs 15 = .ok (.invokevirtual 125, 3) := by decide +kernel
theorem dX2_differs_18 : decode cX2_differs 18 = .ok (.istore_n 2, 1) := by decide +kernel
theorem dX2_differs_19 : decode cX2_differs 19 = .ok (.aload_n 0, 1) := by decide +kernel
theorem dX2_differs_20 : decode cX2_differs 20 = .ok (.aload_n 0, 1) := by decide +kernel
theorem dX2_differs_21 : decode cX2_differs 21 = .ok (.getfield 19, 3) := by decide +kernel
theorem dX2_differs_24 : decode cX2_differs 24 = .ok (.getfield 128, 3) := by decide +kernel
theorem dX2_differs_27 : decode cX2_differs 27 = .ok (.aload_n 0, 1) := by decide +kernel
theorem dX2_differs_28 : decode cX2_differs 28 = .ok (.getfield 23, 3) := by decide +kernel
theorem dX2_differs_31 : decode cX2_differs 31 = .ok (.getfield 128, 3) := by decide +kernel
theorem dX2_differs_34 : decode cX2_differs 34 = .ok (.iload_n 2, 1) := by decide +kernel
theorem dX2_differs_35 : decode cX2_differs 35 = .ok (.invokevirtual 131, 3) := by decide +kernel
theorem dX2_differs_38 : decode cX2_differs 38 = .ok (.istore_n 3, 1) := by decide +kernel
theorem dX2_differs_39 : decode cX2_differs 39 = .ok (.iload_n 1, 1) := by decide +kernel
theorem dX2_differs_40 : decode cX2_differs 40 = .ok (.iload_n 3, 1) := by decide +kernel
theorem dX2_differs_41 : decode cX2_differs 41 = .ok (.if_icmp .ge 24, 3) := by decide +kernel
theorem dX2_differs_44 : decode cX2_differs 44 = .ok (.aload_n 0, 1) := by decide +kernel
theorem dX2_differs_45 : decode cX2_differs 45 = .ok (.aload_n 0, 1) := by decide +kernel
theorem dX2_differs_46 : decode cX2_differs 46 = .ok (.getfield 19, 3) := by decide +kernel
theorem dX2_differs_49 : decode cX2_differs 49 = .ok (.getfield 128, 3) := by decide +kernel
theorem dX2_differs_52 : decode cX2_differs 52 = .ok (.aload_n 0, 1) := by decide +kernel
theorem dX2_differs_53 : decode cX2_differs 53 = .ok (.getfield 23, 3) := by decide +kernel
theorem dX2_differs_56 : decode cX2_differs 56 = .ok (.getfield 128, 3) := by decide +kernel
theorem dX2_differs_59 : decode cX2_differs 59 = .ok (.iload_n 2, 1) := by decide +kernel
theorem dX2_differs_60 : decode cX2_differs 60 = .ok (.iload_n 1, 1) := by decide +kernel
theorem dX2_differs_61 : decode cX2_differs 61 = .ok (.invokevirtual 135, 3) := by decide +kernel
theorem dX2_differs_64 : decode cX2_differs 64 = .ok (.ireturn, 1) := by decide +kernel
theorem dX2_differs_65 : decode cX2_differs 65 = .ok (.iload_n 1, 1) := by decide +kernel
theorem dX2_differs_66 : decode cX2_differs 66 = .ok (.iload_n 3, 1) := by decide +kernel
theorem dX2_differs_67 : decode cX2_differs 67 = .ok (.isub, 1) := by decide +kernel
theorem dX2_differs_68 : decode cX2_differs 68 = .ok (.istore 4, 2) := by decide +kernel
theorem dX2_differs_70 : decode cX2_differs 70 = .ok (.aload_n 0, 1) := by decide +kernel
theorem dX2_differs_71 : decode cX2_differs 71 = .ok (.aload_n 0, 1) := by decide +kernel
theorem dX2_differs_72 : decode cX2_differs 72 = .ok (.getfield 19, 3) := by decide +kernel
theorem dX2_differs_75 : decode cX2_differs 75 = .ok (.getfield 92, 3) := by decide +kernel
theorem dX2_differs_78 : decode cX2_differs 78 = .ok (.aload_n 0, 1) := by decide +kernel
theorem dX2_differs_79 : decode cX2_differs 79 = .ok (.getfield 23, 3) := by decide +kernel
theorem dX2_differs_82 : decode cX2_differs 82 = .ok (.getfield 92, 3) := by decide +kernel
theorem dX2_differs_85 : decode cX2_differs 85 = .ok (.aload_n 0, 1) := by decide +kernel
theorem dX2_differs_86 : decode cX2_differs 86 = .ok (.getfield 47, 3) := by decide +kernel
theorem dX2_differs_89 : decode cX2_differs 89 = .ok (.invokevirtual 131, 3) := by decide +kernel
theorem dX2_differs_92 : decode cX2_differs 92 = .ok (.istore_n 3, 1) := by decide +kernel
theorem dX2_differs_93 : decode cX2_differs 93 = .ok (.iload 4, 2) := by decide +kernel
theorem dX2_differs_95 : decode cX2_differs 95 = .ok (.iload_n 3, 1) := by decide +kernel
theorem dX2_differs_96 : decode cX2_differs 96 = .ok (.if_icmp .ge 31, 3) := by decide +kernel
theorem dX2_differs_99 : decode cX2_differs 99 = .ok (.bipush 100, 2) := by decide +kernel
theorem dX2_differs_101 : decode cX2_differs 101 = .ok (.aload_n 0, 1) := by decide +kernel
theorem dX2_differs_102 : decode cX2_differs 102 = .ok (.aload_n 0, 1) := by decide +kernel
theorem dX2_differs_103 : decode cX2_differs 103 = .ok (.getfield 19, 3) := by decide +kernel
theorem dX2_differs_106 : decode cX2_differs 106 = .ok (.getfield 92, 3) := by decide +kernel
theorem dX2_differs_109 : decode cX2_differs 109 = .ok (.aload_n 0, 1) := by decide +kernel
theorem dX2_differs_110 : decode cX2_differs 110 = .ok (.getfield 23, 3) := by decide +kernel
theorem dX2_differs_113 : decode cX2_differs 113 = .ok (.getfield 92, 3) := by decide +kernel
theorem dX2_differs_116 : decode cX2_differs 116 = .ok (.aload_n 0, 1) := by decide +kernel
theorem dX2_differs_117 : decode cX2_differs 117 = .ok (.getfield 47, 3) := by decide +kernel
theorem dX2_differs_120 : decode cX2_differs 120 = .ok (.iload 4, 2) := by decide +kernel
theorem dX2_differs_122 : decode cX2_differs 122 = .ok (.invokevirtual 135, 3) := by decide +kernel
theorem dX2_differs_125 : decode cX2_differs 125 = .ok (.iadd, 1) := by decide +kernel
theorem dX2_differs_126 : decode cX2_differs 126 = .ok (.ireturn, 1) := by decide +kernel
theorem dX2_differs_127 : decode cX2_differs 127 = .ok (.aload_n 0, 1) := by decide +kernel
theorem dX2_differs_128 : decode cX2_differs 128 = .ok (.iload 4, 2) := by decide +kernel
theorem dX2_differs_130 : decode cX2_differs 130 = .ok (.iload_n 3, 1) := by decide +kernel
theorem dX2_differs_131 : decode cX2_differs 131 = .ok (.isub, 1) := by decide +kernel
theorem dX2_differs_132 : decode cX2_differs 132 = .ok (.invokevirtual 139, 3) := by decide +kernel
theorem dX2_differs_135 : decode cX2_differs 135 = .ok (.ireturn, 1) := by decide +kernel
theorem dX2_witness_0 : decode cX2_witness 0 = .ok (.iload_n 1, 1) := by decide +kernel
theorem dX2_witness_1 : decode cX2_witness 1 = .ok (.ifCond .lt 37, 3) := by decide +kernel
theorem dX2_witness_4 : decode cX2_witness 4 = .ok (.iload_n 1, 1) := by decide +kernel
theorem dX2_witness_5 : decode cX2_witness 5 = .ok (.aload_n 0, 1) := by decide +kernel
theorem dX2_witness_6 : decode cX2_witness 6 = .ok (.invokevirtual 125, 3) := by decide +kernel
theorem dX2_witness_9 : decode cX2_witness 9 = .ok (.if_icmp .ge 29, 3) := by decide +kernel
theorem dX2_witness_12 : decode cX2_witness 12 = .ok (.aload_n 0, 1) := by decide +kernel
theorem dX2_witness_13 : decode cX2_witness 13 = .ok (.getfield 12, 3) := by decide +kernel
theorem dX2_witness_16 : decode cX2_witness 16 = .ok (.aload_n 0, 1) := by decide +kernel
theorem dX2_witness_17 : decode cX2_witness 17 = .ok (.getfield 19, 3) := by decide +kernel
theorem dX2_witness_20 : decode cX2_witness 20 = .ok (.getfield 128, 3) := by decide +kernel
theorem dX2_witness_23 : decode cX2_witness 23 = .ok (.iload_n 1, 1) := by decide +kernel
theorem dX2_witness_24 : decode cX2_witness 24 = .ok (.iaload, 1) := by decide +kernel
theorem dX2_witness_25 : decode cX2_witness 25 = .ok (.aload_n 0, 1) := by decide +kernel
theorem dX2_witness_26 : decode cX2_witness 26 = .ok (.getfield 23, 3) := by decide +kernel
theorem dX2_witness_29 : decode cX2_witness 29 = .ok (.getfield 128, 3) := by decide +kernel
theorem dX2_witness_32 : decode cX2_witness 32 = .ok (.iload_n 1, 1) := by decide +kernel
theorem dX2_witness_33 : decode cX2_witness 33 = .ok (.iaload, 1) := by decide +kernel
theorem dX2_witness_34 : decode cX2_witness 34 = .ok (.invokevirtual 142, 3) := by decide +kernel
theorem dX2_witness_37 : decode cX2_witness 37 = .ok (.ireturn, 1) := by decide +kernel
theorem dX2_witness_38 : decode cX2_witness 38 = .ok (.iload_n 1, 1) := by decide +kernel
theorem dX2_witness_39 : decode cX2_witness 39 = .ok (.bipush 100, 2) := by decide +kernel
theorem dX2_witness_41 : decode cX2_witness 41 = .ok (.if_icmp .lt 45, 3) := by decide +kernel
theorem dX2_witness_44 : decode cX2_witness 44 = .ok (.iload_n 1, 1) := by decide +kernel
theorem dX2_witness_45 : decode cX2_witness 45 = .ok (.bipush 100, 2) := by decide +kernel
theorem dX2_witness_47 : decode cX2_witness 47 = .ok (.aload_n 0, 1) := by decide +kernel
theorem dX2_witness_48 : decode cX2_witness 48 = .ok (.getfield 47, 3) := by decide +kernel
theorem dX2_witness_51 : decode cX2_witness 51 = .ok (.iadd, 1) := by decide +kernel
theorem dX2_witness_52 : decode cX2_witness 52 = .ok (.if_icmp .ge 34, 3) := by decide +kernel
theorem dX2_witness_55 : decode cX2_witness 55 = .ok (.iload_n 1, 1) := by decide +kernel
theorem dX2_witness_56 : decode cX2_witness 56 = .ok (.bipush 100, 2) := by decide +kernel
theorem dX2_witness_58 : decode cX2_witness 58 = .ok (.isub, 1) := by decide +kernel
theorem dX2_witness_59 : decode cX2_witness 59 = .ok (.istore_n 2, 1) := by decide +kernel
theorem dX2_witness_60 : decode cX2_witness 60 = .ok (.aload_n 0, 1) := by decide +kernel
theorem dX2_witness_61 : decode cX2_witness 61 = .ok (.getfield 12, 3) := by decide +kernel
theorem dX2_witness_64 : decode cX2_witness 64 = .ok (.aload_n 0, 1) := by decide +kernel
theorem dX2_witness_65 : decode cX2_witness 65 = .ok (.getfield 19, 3) := by decide +kernel
theorem dX2_witness_68 : decode cX2_witness 68 = .ok (.getfield 92, 3) := by decide +kernel
theorem dX2_witness_71 : decode cX2_witness 71 = .ok (.iload_n 2, 1) := by decide +kernel
theorem dX2_witness_72 : decode cX2_witness 72 = .ok (.iaload, 1) := by decide +kernel
theorem dX2_witness_73 : decode cX2_witness 73 = .ok (.aload_n 0, 1) := by decide +kernel
theorem dX2_witness_74 : decode cX2_witness 74 = .ok (.getfield 23, 3) := by decide +kernel
theorem dX2_witness_77 : decode cX2_witness 77 = .ok (.getfield 92, 3) := by decide +kernel
theorem dX2_witness_80 : decode cX2_witness 80 = .ok (.iload_n 2, 1) := by decide +kernel
theorem dX2_witness_81 : decode cX2_witness 81 = .ok (.iaload, 1) := by decide +kernel
theorem dX2_witness_82 : decode cX2_witness 82 = .ok (.invokevirtual 142, 3) := by decide +kernel
theorem dX2_witness_85 : decode cX2_witness 85 = .ok (.ireturn, 1) := by decide +kernel
theorem dX2_witness_86 : decode cX2_witness 86 = .ok (.new 120, 3) := by decide +kernel
theorem dX2_witness_89 : decode cX2_witness 89 = .ok (.dup, 1) := by decide +kernel
theorem dX2_witness_90 : decode cX2_witness 90 = .ok (.ldc 145, 2) := by decide +kernel
theorem dX2_witness_92 : decode cX2_witness 92 = .ok (.invokespecial 124, 3) := by decide +kernel
theorem dX2_witness_95 : decode cX2_witness 95 = .ok (.athrow, 1) := by decide +kernel
theorem dX2_reset_0 : decode cX2_reset 0 = .ok (.aload_n 0, 1) := by decide +kernel
theorem dX2_reset_1 : decode cX2_reset 1 = .ok (.invokevirtual 60, 3) := by decide +kernel
theorem dX2_reset_4 : decode cX2_reset 4 = .ok (.return_, 1) := by decide +kernel
theorem dX2_step_0 : decode cX2_step 0 = .ok (.aload_n 0, 1) := by decide +kernel
theorem dX2_step_1 : decode cX2_step 1 = .ok (.getfield 19, 3) := by decide +kernel
theorem dX2_step_4 : decode cX2_step 4 = .ok (.aload_n 0, 1) := by decide +kernel
theorem dX2_step_5 : decode cX2_step 5 = .ok (.getfield 12, 3) := by decide +kernel
theorem dX2_step_8 : decode cX2_step 8 = .ok (.iload_n 1, 1) := by decide +kernel
theorem dX2_step_9 : decode cX2_step 9 = .ok (.aload_n 0, 1) := by decide +kernel
theorem dX2_step_10 : decode cX2_step 10 = .ok (.getfield 47, 3) := by decide +kernel
theorem dX2_step_13 : decode cX2_step 13 = .ok (.invokevirtual 147, 3) := by decide +kernel
theorem dX2_step_16 : decode cX2_step 16 = .ok (.aload_n 0, 1) := by decide +kernel
theorem dX2_step_17 : decode cX2_step 17 = .ok (.getfield 23, 3) := by decide +kernel
theorem dX2_step_20 : decode cX2_step 20 = .ok (.aload_n 0, 1) := by decide +kernel
theorem dX2_step_21 : decode cX2_step 21 = .ok (.getfield 12, 3) := by decide +kernel
theorem dX2_step_24 : decode cX2_step 24 = .ok (.iload_n 1, 1) := by decide +kernel
theorem dX2_step_25 : decode cX2_step 25 = .ok (.aload_n 0, 1) := by decide +kernel
theorem dX2_step_26 : decode cX2_step 26 = .ok (.getfield 47, 3) := by decide +kernel
theorem dX2_step_29 : decode cX2_step 29 = .ok (.invokevirtual 147, 3) := by decide +kernel
theorem dX2_step_32 : decode cX2_step 32 = .ok (.aload_n 0, 1) := by decide +kernel
theorem dX2_step_33 : decode cX2_step 33 = .ok (.getfield 26, 3) := by decide +kernel
theorem dX2_step_36 : decode cX2_step 36 = .ok (.iconst (-1), 1) := by decide +kernel
theorem dX2_step_37 : decode cX2_step 37 = .ok (.if_icmp .ne 18, 3) := by decide +kernel
theorem dX2_step_40 : decode cX2_step 40 = .ok (.aload_n 0, 1) := by decide +kernel
theorem dX2_step_41 : decode cX2_step 41 = .ok (.invokevirtual 151, 3) := by decide +kernel
theorem dX2_step_44 : decode cX2_step 44 = .ok (.ifCond .eq 11, 3) := by decide +kernel
theorem dX2_step_47 : decode cX2_step 47 = .ok (.aload_n 0, 1) := by decide +kernel
theorem dX2_step_48 : decode cX2_step 48 = .ok (.aload_n 0, 1) := by decide +kernel
theorem dX2_step_49 : decode cX2_step 49 = .ok (.getfield 155, 3) := by decide +kernel
theorem dX2_step_52 : decode cX2_step 52 = .ok (.putfield 26, 3) := by decide +kernel
theorem dX2_step_55 : decode cX2_step 55 = .ok (.aload_n 0, 1) := by decide +kernel
theorem dX2_step_56 : decode cX2_step 56 = .ok (.dup, 1) := by decide +kernel
theorem dX2_step_57 : decode cX2_step 57 = .ok (.getfield 155, 3) := by decide +kernel
theorem dX2_step_60 : decode cX2_step 60 = .ok (.iconst 1, 1) := by decide +kernel
