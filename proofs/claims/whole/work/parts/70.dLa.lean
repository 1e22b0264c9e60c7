theorem dL_input_0 : decode cL_input 0 = .ok (.aload_n 1, 1) := by decide +kernel
theorem dL_input_1 : decode cL_input 1 = .ok (.iconst 0, 1) := by decide +kernel
theorem dL_input_2 : decode cL_input 2 = .ok (.aload_n 0, 1) := by decide +kernel
theorem dL_input_3 : decode cL_input 3 = .ok (.invokevirtual 7, 3) := by decide +kernel
theorem dL_input_6 : decode cL_input 6 = .ok (.i2l, 1) := by decide +kernel
theorem dL_input_7 : decode cL_input 7 = .ok (.lastore, 1) := by decide +kernel
theorem dL_input_8 : decode cL_input 8 = .ok (.goto 6, 3) := by decide +kernel
theorem dL_input_11 : decode cL_input 11 = .ok (.astore_n 2, 1) := by decide +kernel
theorem dL_input_12 : decode cL_input 12 = .ok (.iconst 1, 1) := by decide +kernel
theorem dL_input_13 : decode cL_input 13 = .ok (.ireturn, 1) := by decide +kernel
theorem dL_input_14 : decode cL_input 14 = .ok (.iconst 0, 1) := by decide +kernel
theorem dL_input_15 : decode cL_input 15 = .ok (.ireturn, 1) := by decide +kernel
theorem dL_latch_0 : decode cL_latch 0 = .ok (.aload_n 3, 1) := by decide +kernel
theorem dL_latch_1 : decode cL_latch 1 = .ok (.iconst 0, 1) := by decide +kernel
theorem dL_latch_2 : decode cL_latch 2 = .ok (.aload_n 0, 1) := by decide +kernel
theorem dL_latch_3 : decode cL_latch 3 = .ok (.iload_n 1, 1) := by decide +kernel
theorem dL_latch_4 : decode cL_latch 4 = .ok (.iload_n 2, 1) := by decide +kernel
theorem dL_latch_5 : decode cL_latch 5 = .ok (.invokevirtual 15, 3) := by decide +kernel
theorem dL_latch_8 : decode cL_latch 8 = .ok (.i2l, 1) := by decide +kernel
theorem dL_latch_9 : decode cL_latch 9 = .ok (.lastore, 1) := by decide +kernel
theorem dL_latch_10 : decode cL_latch 10 = .ok (.goto 11, 3) := by decide +kernel
theorem dL_latch_13 : decode cL_latch 13 = .ok (.astore 4, 2) := by decide +kernel
theorem dL_latch_15 : decode cL_latch 15 = .ok (.iconst 1, 1) := by decide +kernel
theorem dL_latch_16 : decode cL_latch 16 = .ok (.ireturn, 1) := by decide +kernel
theorem dL_latch_17 : decode cL_latch 17 = .ok (.astore 4, 2) := by decide +kernel
theorem dL_latch_19 : decode cL_latch 19 = .ok (.iconst 2, 1) := by decide +kernel
theorem dL_latch_20 : decode cL_latch 20 = .ok (.ireturn, 1) := by decide +kernel
theorem dL_latch_21 : decode cL_latch 21 = .ok (.iconst 0, 1) := by decide +kernel
theorem dL_latch_22 : decode cL_latch 22 = .ok (.ireturn, 1) := by decide +kernel
theorem dL_and_0 : decode cL_and 0 = .ok (.aload 4, 2) := by decide +kernel
theorem dL_and_2 : decode cL_and 2 = .ok (.iconst 0, 1) := by decide +kernel
theorem dL_and_3 : decode cL_and 3 = .ok (.aload_n 0, 1) := by decide +kernel
theorem dL_and_4 : decode cL_and 4 = .ok (.iload_n 1, 1) := by decide +kernel
theorem dL_and_5 : decode cL_and 5 = .ok (.iload_n 2, 1) := by decide +kernel
theorem dL_and_6 : decode cL_and 6 = .ok (.iload_n 3, 1) := by decide +kernel
theorem dL_and_7 : decode cL_and 7 = .ok (.invokevirtual 21, 3) := by decide +kernel
theorem dL_and_10 : decode cL_and 10 = .ok (.i2l, 1) := by decide +kernel
theorem dL_and_11 : decode cL_and 11 = .ok (.lastore, 1) := by decide +kernel
theorem dL_and_12 : decode cL_and 12 = .ok (.goto 15, 3) := by decide +kernel
theorem dL_and_15 : decode cL_and 15 = .ok (.astore 5, 2) := by decide +kernel
theorem dL_and_17 : decode cL_and 17 = .ok (.iconst 1, 1) := by decide +kernel
theorem dL_and_18 : decode cL_and 18 = .ok (.ireturn, 1) := by decide +kernel
theorem dL_and_19 : decode cL_and 19 = .ok (.astore 5, 2) := by decide +kernel
theorem dL_and_21 : decode cL_and 21 = .ok (.iconst 2, 1) := by decide +kernel
theorem dL_and_22 : decode cL_and 22 = .ok (.ireturn, 1) := by decide +kernel
theorem dL_and_23 : decode cL_and 23 = .ok (.astore 5, 2) := by decide +kernel
theorem dL_and_25 : decode cL_and 25 = .ok (.iconst 3, 1) := by decide +kernel
theorem dL_and_26 : decode cL_and 26 = .ok (.ireturn, 1) := by decide +kernel
theorem dL_and_27 : decode cL_and 27 = .ok (.iconst 0, 1) := by decide +kernel
theorem dL_and_28 : decode cL_and 28 = .ok (.ireturn, 1) := by decide +kernel
theorem dL_output_0 : decode cL_output 0 = .ok (.aload_n 3, 1) := by decide +kernel
theorem dL_output_1 : decode cL_output 1 = .ok (.iconst 0, 1) := by decide +kernel
theorem dL_output_2 : decode cL_output 2 = .ok (.aload_n 0, 1) := by decide +kernel
theorem dL_output_3 : decode cL_output 3 = .ok (.iload_n 1, 1) := by decide +kernel
theorem dL_output_4 : decode cL_output 4 = .ok (.iload_n 2, 1) := by decide +kernel
theorem dL_output_5 : decode cL_output 5 = .ok (.invokevirtual 27, 3) := by decide +kernel
theorem dL_output_8 : decode cL_output 8 = .ok (.i2l, 1) := by decide +kernel
theorem dL_output_9 : decode cL_output 9 = .ok (.lastore, 1) := by decide +kernel
theorem dL_output_10 : decode cL_output 10 = .ok (.goto 15, 3) := by decide +kernel
theorem dL_output_13 : decode cL_output 13 = .ok (.astore 4, 2) := by decide +kernel
theorem dL_output_15 : decode cL_output 15 = .ok (.iconst 1, 1) := by decide +kernel
theorem dL_output_16 : decode cL_output 16 = .ok (.ireturn, 1) := by decide +kernel
theorem dL_output_17 : decode cL_output 17 = .ok (.astore 4, 2) := by decide +kernel
theorem dL_output_19 : decode cL_output 19 = .ok (.iconst 2, 1) := by decide +kernel
theorem dL_output_20 : decode cL_output 20 = .ok (.ireturn, 1) := by decide +kernel
theorem dL_output_21 : decode cL_output 21 = .ok (.astore 4, 2) := by decide +kernel
theorem dL_output_23 : decode cL_output 23 = .ok (.iconst 3, 1) := by decide +kernel
theorem dL_output_24 : decode cL_output 24 = .ok (.ireturn, 1) := by decide +kernel
theorem dL_output_25 : decode cL_output 25 = .ok (.iconst 0, 1) := by decide +kernel
theorem dL_output_26 : decode cL_output 26 = .ok (.ireturn, 1) := by decide +kernel
theorem dL_next_0 : decode cL_next 0 = .ok (.aload 4, 2) := by decide +kernel
theorem dL_next_2 : decode cL_next 2 = .ok (.iconst 0, 1) := by decide +kernel
theorem dL_next_3 : decode cL_next 3 = .ok (.aload_n 0, 1) := by decide +kernel
theorem dL_next_4 : decode cL_next 4 = .ok (.iload_n 1, 1) := by decide +kernel
theorem dL_next_5 : decode cL_next 5 = .ok (.iload_n 2, 1) := by decide +kernel
theorem dL_next_6 : decode cL_next 6 = .ok (.iload_n 3, 1) := by decide +kernel
theorem dL_next_7 : decode cL_next 7 = .ok (.invokevirtual 30, 3) := by decide +kernel
theorem dL_next_10 : decode cL_next 10 = .ok (.i2l, 1) := by decide +kernel
theorem dL_next_11 : decode cL_next 11 = .ok (.lastore, 1) := by decide +kernel
theorem dL_next_12 : decode cL_next 12 = .ok (.goto 11, 3) := by decide +kernel
theorem dL_next_15 : decode cL_next 15 = .ok (.astore 5, 2) := by decide +kernel
theorem dL_next_17 : decode cL_next 17 = .ok (.iconst 1, 1) := by decide +kernel
theorem dL_next_18 : decode cL_next 18 = .ok (.ireturn, 1) := by decide +kernel
theorem dL_next_19 : decode cL_next 19 = .ok (.astore 5, 2) := by decide +kernel
theorem dL_next_21 : decode cL_next 21 = .ok (.iconst 2, 1) := by decide +kernel
theorem dL_next_22 : decode cL_next 22 = .ok (.ireturn, 1) := by decide +kernel
theorem dL_next_23 : decode cL_next 23 = .ok (.iconst 0, 1) := by decide +kernel
theorem dL_next_24 : decode cL_next 24 = .ok (.ireturn, 1) := by decide +kernel
theorem dL_same_0 : decode cL_same 0 = .ok (.aload_n 3, 1) := by decide +kernel
theorem dL_same_1 : decode cL_same 1 = .ok (.iconst 0, 1) := by decide +kernel
theorem dL_same_2 : decode cL_same 2 = .ok (.aload_n 0, 1) := by decide +kernel
theorem dL_same_3 : decode cL_same 3 = .ok (.iload_n 1, 1) := by decide +kernel
theorem dL_same_4 : decode cL_same 4 = .ok (.iload_n 2, 1) := by decide +kernel
theorem dL_same_5 : decode cL_same 5 = .ok (.invokevirtual 33, 3) := by decide +kernel
theorem dL_same_8 : decode cL_same 8 = .ok (.ifCond .eq 7, 3) := by decide +kernel
theorem dL_same_11 : decode cL_same 11 = .ok (.lconst 1, 1) := by decide +kernel
theorem dL_same_12 : decode cL_same 12 = .ok (.goto 4, 3) := by decide +kernel
theorem dL_same_15 : decode cL_same 15 = .ok (.lconst 0, 1) := by decide +kernel
theorem dL_same_16 : decode cL_same 16 = .ok (.lastore, 1) := by decide +kernel
theorem dL_same_17 : decode cL_same 17 = .ok (.goto 7, 3) := by decide +kernel
theorem dL_same_20 : decode cL_same 20 = .ok (.astore 4, 2) := by decide +kernel
theorem dL_same_22 : decode cL_same 22 = .ok (.iconst 1, 1) := by decide +kernel
theorem dL_same_23 : decode cL_same 23 = .ok (.ireturn, 1) := by decide +kernel
theorem dL_same_24 : decode cL_same 24 = .ok (.iconst 0, 1) := by decide +kernel
theorem dL_same_25 : decode cL_same 25 = .ok (.ireturn, 1) := by decide +kernel
theorem dL_first_0 : decode cL_first 0 = .ok (.aload_n 2, 1) := by decide +kernel
theorem dL_first_1 : decode cL_first 1 = .ok (.iconst 0, 1) := by decide +kernel
theorem dL_first_2 : decode cL_first 2 = .ok (.aload_n 0, 1) := by decide +kernel
theorem dL_first_3 : decode cL_first 3 = .ok (.iload_n 1, 1) := by decide +kernel
theorem dL_first_4 : decode cL_first 4 = .ok (.invokevirtual 37, 3) := by decide +kernel
theorem dL_first_7 : decode cL_first 7 = .ok (.i2l, 1) := by decide +kernel
theorem dL_first_8 : decode cL_first 8 = .ok (.lastore, 1) := by decide +kernel
theorem dL_first_9 : decode cL_first 9 = .ok (.goto 6, 3) := by decide +kernel
theorem dL_first_12 : decode cL_first 12 = .ok (.astore_n 3, 1) := by decide +kernel
theorem dL_first_13 : decode cL_first 13 = .ok (.iconst 1, 1) := by decide +kernel
theorem dL_first_14 : decode cL_first 14 = .ok (.ireturn, 1) := by decide +kernel
theorem dL_first_15 : decode cL_first 15 = .ok (.iconst 0, 1) := by decide +kernel
theorem dL_first_16 : decode cL_first 16 = .ok (.ireturn, 1) := by decide +kernel
theorem dL_merged_0 : decode cL_merged 0 = .ok (.aload_n 2, 1) := by decide +kernel
theorem dL_merged_1 : decode cL_merged 1 = .ok (.iconst 0, 1) := by decide +kernel
theorem dL_merged_2 : decode cL_merged 2 = .ok (.aload_n 0, 1) := by decide +kernel
theorem dL_merged_3 : decode cL_merged 3 = .ok (.iload_n 1, 1) := by decide +kernel
theorem dL_merged_4 : decode cL_merged 4 = .ok (.invokevirtual 41, 3) := by decide +kernel
theorem dL_merged_7 : decode cL_merged 7 = .ok (.i2l, 1) := by decide +kernel
theorem dL_merged_8 : decode cL_merged 8 = .ok (.lastore, 1) := by decide +kernel
theorem dL_merged_9 : decode cL_merged 9 = .ok (.goto 6, 3) := by decide +kernel
theorem dL_merged_12 : decode cL_merged 12 = .ok (.astore_n 3, 1) := by decide +kernel
theorem dL_merged_13 : decode cL_merged 13 = .ok (.iconst 1, 1) := by decide +kernel
theorem dL_merged_14 : decode cL_merged 14 = .ok (.ireturn, 1) := by decide +kernel
theorem dL_merged_15 : decode cL_merged 15 = .ok (.iconst 0, 1) := by decide +kernel
theorem dL_merged_16 : decode cL_merged 16 = .ok (.ireturn, 1) := by decide +kernel
theorem dL_hangs_0 : decode cL_hangs 0 = .ok (.aload_n 2, 1) := by decide +kernel
theorem dL_hangs_1 : decode cL_hangs 1 = .ok (.iconst 0, 1) := by decide +kernel
theorem dL_hangs_2 : decode cL_hangs 2 = .ok (.aload_n 0, 1) := by decide +kernel
theorem dL_hangs_3 : decode cL_hangs 3 = .ok (.iload_n 1, 1) := by decide +kernel
theorem dL_hangs_4 : decode cL_hangs 4 = .ok (.invokevirtual 44, 3) := by decide +kernel
theorem dL_hangs_7 : decode cL_hangs 7 = .ok (.i2l, 1) := by decide +kernel
theorem dL_hangs_8 : decode cL_hangs 8 = .ok (.lastore, 1) := by decide +kernel
theorem dL_hangs_9 : decode cL_hangs 9 = .ok (.goto 6, 3) := by decide +kernel
theorem dL_hangs_12 : decode cL_hangs 12 = .ok (.astore_n 3, 1) := by decide +kernel
theorem dL_hangs_13 : decode cL_hangs 13 = .ok (.iconst 1, 1) := by decide +kernel
theorem dL_hangs_14 : decode cL_hangs 14 = .ok (.ireturn, 1) := by decide +kernel
theorem dL_hangs_15 : decode cL_hangs 15 = .ok (.iconst 0, 1) := by decide +kernel
theorem dL_hangs_16 : decode cL_hangs 16 = .ok (.ireturn, 1) := by decide +kernel
theorem dL_ones_0 : decode cL_ones 0 = .ok (.aload_n 2, 1) := by decide +kernel
theorem dL_ones_1 : decode cL_ones 1 = .ok (.iconst 0, 1) := by decide +kernel
theorem dL_ones_2 : decode cL_ones 2 = .ok (.aload_n 0, 1) := by decide +kernel
theorem dL_ones_3 : decode cL_ones 3 = .ok (.iload_n 1, 1) := by decide +kernel
theorem dL_ones_4 : decode cL_ones 4 = .ok (.invokevirtual 47, 3) := by decide +kernel
theorem dL_ones_7 : decode cL_ones 7 = .ok (.i2l, 1) := by decide +kernel
theorem dL_ones_8 : decode cL_ones 8 = .ok (.lastore, 1) := by decide +kernel
theorem dL_ones_9 : decode cL_ones 9 = .ok (.goto 6, 3) := by decide +kernel
theorem dL_ones_12 : decode cL_ones 12 = .ok (.astore_n 3, 1) := by decide +kernel
theorem dL_ones_13 : decode cL_ones 13 = .ok (.iconst 1, 1) := by decide +kernel
theorem dL_ones_14 : decode cL_ones 14 = .ok (.ireturn, 1) := by decide +kernel
theorem dL_ones_15 : decode cL_ones 15 = .ok (.iconst 0, 1) := by decide +kernel
theorem dL_ones_16 : decode cL_ones 16 = .ok (.ireturn, 1) := by decide +kernel
theorem dL_value_0 : decode cL_value 0 = .ok (.aload_n 3, 1) := by decide +kernel
theorem dL_value_1 : decode cL_value 1 = .ok (.iconst 0, 1) := by decide +kernel
theorem dL_value_2 : decode cL_value 2 = .ok (.aload_n 0, 1) := by decide +kernel
theorem dL_value_3 : decode cL_value 3 = .ok (.iload_n 1, 1) := by decide +kernel
theorem dL_value_4 : decode cL_value 4 = .ok (.iload_n 2, 1) := by decide +kernel
theorem dL_value_5 : decode cL_value 5 = .ok (.invokevirtual 50, 3) := by decide +kernel
theorem dL_value_8 : decode cL_value 8 = .ok (.i2l, 1) := by decide +kernel
theorem dL_value_9 : decode cL_value 9 = .ok (.lastore, 1) := by decide +kernel
theorem dL_value_10 : decode cL_value 10 = .ok (.goto 7, 3) := by decide +kernel
theorem dL_value_13 : decode cL_value 13 = .ok (.astore 4, 2) := by decide +kernel
theorem dL_value_15 : decode cL_value 15 = .ok (.iconst 1, 1) := by decide +kernel
theorem dL_value_16 : decode cL_value 16 = .ok (.ireturn, 1) := by decide +kernel
theorem dL_value_17 : decode cL_value 17 = .ok (.iconst 0, 1) := by decide +kernel
theorem dL_value_18 : decode cL_value 18 = .ok (.ireturn, 1) := by decide +kernel
theorem dL_differs_0 : decode cL_differs 0 = .ok (.aload_n 2, 1) := by decide +kernel
theorem dL_differs_1 : decode cL_differs 1 = .ok (.iconst 0, 1) := by decide +kernel
theorem dL_differs_2 : decode cL_differs 2 = .ok (.aload_n 0, 1) := by decide +kernel
theorem dL_differs_3 : decode cL_differs 3 = .ok (.iload_n 1, 1) := by decide +kernel
theorem dL_differs_4 : decode cL_differs 4 = .ok (.invokevirtual 53, 3) := by decide +kernel
theorem dL_differs_7 : decode cL_differs 7 = .ok (.i2l, 1) := by decide +kernel
theorem dL_differs_8 : decode cL_differs 8 = .ok (.lastore, 1) := by decide +kernel
theorem dL_differs_9 : decode cL_differs 9 = .ok (.goto 6, 3) := by decide +kernel
theorem dL_differs_12 : decode cL_differs 12 = .ok (.astore_n 3, 1) := by decide +kernel
theorem dL_differs_13 : decode cL_differs 13 = .ok (.iconst 1, 1) := by decide +kernel
theorem dL_differs_14 : decode cL_differs 14 = .ok (.ireturn, 1) := by decide +kernel
theorem dL_differs_15 : decode cL_differs 15 = .ok (.iconst 0, 1) := by decide +kernel
theorem dL_differs_16 : decode cL_differs 16 = .ok (.ireturn, 1) := by decide +kernel
theorem dL_witness_0 : decode cL_witness 0 = .ok (.aload_n 2, 1) := by decide +kernel
theorem dL_witness_1 : decode cL_witness 1 = .ok (.iconst 0, 1) := by decide +kernel
theorem dL_witness_2 : decode cL_witness 2 = .ok (.aload_n 0, 1) := by decide +kernel
theorem dL_witness_3 : decode cL_witness 3 = .ok (.iload_n 1, 1) := by decide +kernel
theorem dL_witness_4 : decode cL_witness 4 = .ok (.invokevirtual 56, 3) := by decide +kernel
theorem dL_witness_7 : decode cL_witness 7 = .ok (.i2l, 1) := by decide +kernel
theorem dL_witness_8 : decode cL_witness 8 = .ok (.lastore, 1) := by decide +kernel
theorem dL_witness_9 : decode cL_witness 9 = .ok (.goto 6, 3) := by decide +kernel
theorem dL_witness_12 : decode cL_witness 12 = .ok (.astore_n 3, 1) := by decide +kernel
theorem dL_witness_13 : decode cL_witness 13 = .ok (.iconst 1, 1) := by decide +kernel
theorem dL_witness_14 : decode cL_witness 14 = .ok (.ireturn, 1) := by decide +kernel
theorem dL_witness_15 : decode cL_witness 15 = .ok (.iconst 0, 1) := by decide +kernel
theorem dL_witness_16 : decode cL_witness 16 = .ok (.ireturn, 1) := by decide +kernel
theorem dL_out_0 : decode cL_out 0 = .ok (.aload_n 3, 1) := by decide +kernel
theorem dL_out_1 : decode cL_out 1 = .ok (.iconst 0, 1) := by decide +kernel
theorem dL_out_2 : decode cL_out 2 = .ok (.aload_n 0, 1) := by decide +kernel
theorem dL_out_3 : decode cL_out 3 = .ok (.iload_n 1, 1) := by decide +kernel
theorem dL_out_4 : decode cL_out 4 = .ok (.iload_n 2, 1) := by decide +kernel
theorem dL_out_5 : decode cL_out 5 = .ok (.invokevirtual 59, 3) := by decide +kernel
theorem dL_out_8 : decode cL_out 8 = .ok (.i2l, 1) := by decide +kernel
theorem dL_out_9 : decode cL_out 9 = .ok (.lastore, 1) := by decide +kernel
theorem dL_out_10 : decode cL_out 10 = .ok (.goto 7, 3) := by decide +kernel
theorem dL_out_13 : decode cL_out 13 = .ok (.astore 4, 2) := by decide +kernel
theorem dL_out_15 : decode cL_out 15 = .ok (.iconst 1, 1) := by decide +kernel
theorem dL_out_16 : decode cL_out 16 = .ok (.ireturn, 1) := by decide +kernel
theorem dL_out_17 : decode cL_out 17 = .ok (.iconst 0, 1) := by decide +kernel
theorem dL_out_18 : decode cL_out 18 = .ok (.ireturn, 1) := by decide +kernel
theorem dL_state_0 : decode cL_state 0 = .ok (.aload_n 3, 1) := by decide +kernel
theorem dL_state_1 : decode cL_state 1 = .ok (.iconst 0, 1) := by decide +kernel
theorem dL_state_2 : decode cL_state 2 = .ok (.aload_n 0, 1) := by decide +kernel
theorem dL_state_3 : decode cL_state 3 = .ok (.iload_n 1, 1) := by decide +kernel
theorem dL_state_4 : decode cL_state 4 = .ok (.iload_n 2, 1) := by decide +kernel
theorem dL_state_5 : decode cL_state 5 = .ok (.invokevirtual 62, 3) := by decide +kernel
theorem dL_state_8 : decode cL_state 8 = .ok (.i2l, 1) := by decide +kernel
theorem dL_state_9 : decode cL_state 9 = .ok (.lastore, 1) := by decide +kernel
theorem dL_state_10 : decode cL_state 10 = .ok (.goto 7, 3) := by decide +kernel
theorem dL_state_13 : decode cL_state 13 = .ok (.astore 4, 2) := by decide +kernel
theorem dL_state_15 : decode cL_state 15 = .ok (.iconst 1, 1) := by decide +kernel
theorem dL_state_16 : decode cL_state 16 = .ok (.ireturn, 1) := by decide +kernel
theorem dL_state_17 : decode cL_state 17 = .ok (.iconst 0, 1) := by decide +kernel
theorem dL_state_18 : decode cL_state 18 = .ok (.ireturn, 1) := by decide +kernel
theorem dL_count_0 : decode cL_count 0 = .ok (.aload_n 2, 1) := by decide +kernel
theorem dL_count_1 : decode cL_count 1 = .ok (.iconst 0, 1) := by decide +kernel
theorem dL_count_2 : decode cL_count 2 = .ok (.aload_n 0, 1) := by decide +kernel
theorem dL_count_3 : decode cL_count 3 = .ok (.iload_n 1, 1) := by decide +kernel
theorem dL_count_4 : decode cL_count 4 = .ok (.invokevirtual 65, 3) := by decide +kernel
theorem dL_count_7 : decode cL_count 7 = .ok (.i2l, 1) := by decide +kernel
theorem dL_count_8 : decode cL_count 8 = .ok (.lastore, 1) := by decide +kernel
theorem dL_count_9 : decode cL_count 9 = .ok (.goto 6, 3) := by decide +kernel
theorem dL_count_12 : decode cL_count 12 = .ok (.astore_n 3, 1) := by decide +kernel
theorem dL_count_13 : decode cL_count 13 = .ok (.iconst 1, 1) := by decide +kernel
theorem dL_count_14 : decode cL_count 14 = .ok (.ireturn, 1) := by decide +kernel
theorem dL_count_15 : decode cL_count 15 = .ok (.iconst 0, 1) := by decide +kernel
theorem dL_count_16 : decode cL_count 16 = .ok (.ireturn, 1) := by decide +kernel
theorem dL_law_0 : decode cL_law 0 = .ok (.new 8, 3) := by decide +kernel
theorem dL_law_3 : decode cL_law 3 = .ok (.dup, 1) := by decide +kernel
theorem dL_law_4 : decode cL_law 4 = .ok (.invokespecial 68, 3) := by decide +kernel
theorem dL_law_7 : decode cL_law 7 = .ok (.astore_n 1, 1) := by decide +kernel
theorem dL_law_8 : decode cL_law 8 = .ok (.new 69, 3) := by decide +kernel
theorem dL_law_11 : decode cL_law 11 = .ok (.dup, 1) := by decide +kernel
theorem dL_law_12 : decode cL_law 12 = .ok (.invokespecial 71, 3) := by decide +kernel
theorem dL_law_15 : decode cL_law 15 = .ok (.astore_n 2, 1) := by decide +kernel
theorem dL_law_16 : decode cL_law 16 = .ok (.iconst 1, 1) := by decide +kernel
theorem dL_law_17 : decode cL_law 17 = .ok (.newarray .long, 2) := by decide +kernel
theorem dL_law_19 : decode cL_law 19 = .ok (.astore_n 3, 1) := by decide +kernel
theorem dL_law_20 : decode cL_law 20 = .ok (.iconst 0, 1) := by decide +kernel
