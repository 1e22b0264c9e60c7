theorem dX2_step_61 : decode cX2_step 61 = .ok (.iadd, 1) := by decide +kernel
theorem dX2_step_62 : decode cX2_step 62 = .ok (.putfield 155, 3) := by decide +kernel
theorem dX2_step_65 : decode cX2_step 65 = .ok (.aload_n 0, 1) := by decide +kernel
theorem dX2_step_66 : decode cX2_step 66 = .ok (.getfield 155, 3) := by decide +kernel
theorem dX2_step_69 : decode cX2_step 69 = .ok (.ireturn, 1) := by decide +kernel
theorem dX2_out_0 : decode cX2_out 0 = .ok (.aload_n 0, 1) := by decide +kernel
theorem dX2_out_1 : decode cX2_out 1 = .ok (.iload_n 1, 1) := by decide +kernel
theorem dX2_out_2 : decode cX2_out 2 = .ok (.invokevirtual 63, 3) := by decide +kernel
theorem dX2_out_5 : decode cX2_out 5 = .ok (.aload_n 0, 1) := by decide +kernel
theorem dX2_out_6 : decode cX2_out 6 = .ok (.iload_n 1, 1) := by decide +kernel
theorem dX2_out_7 : decode cX2_out 7 = .ok (.invokevirtual 77, 3) := by decide +kernel
theorem dX2_out_10 : decode cX2_out 10 = .ok (.astore_n 3, 1) := by decide +kernel
theorem dX2_out_11 : decode cX2_out 11 = .ok (.iload_n 2, 1) := by decide +kernel
theorem dX2_out_12 : decode cX2_out 12 = .ok (.ifCond .lt 11, 3) := by decide +kernel
theorem dX2_out_15 : decode cX2_out 15 = .ok (.iload_n 2, 1) := by decide +kernel
theorem dX2_out_16 : decode cX2_out 16 = .ok (.aload_n 3, 1) := by decide +kernel
theorem dX2_out_17 : decode cX2_out 17 = .ok (.getfield 81, 3) := by decide +kernel
theorem dX2_out_20 : decode cX2_out 20 = .ok (.if_icmp .lt 13, 3) := by decide +kernel
theorem dX2_out_23 : decode cX2_out 23 = .ok (.new 120, 3) := by decide +kernel
theorem dX2_out_26 : decode cX2_out 26 = .ok (.dup, 1) := by decide +kernel
theorem dX2_out_27 : decode cX2_out 27 = .ok (.ldc 158, 2) := by decide +kernel
theorem dX2_out_29 : decode cX2_out 29 = .ok (.invokespecial 124, 3) := by decide +kernel
theorem dX2_out_32 : decode cX2_out 32 = .ok (.athrow, 1) := by decide +kernel
theorem dX2_out_33 : decode cX2_out 33 = .ok (.iload_n 2, 1) := by decide +kernel
theorem dX2_out_34 : decode cX2_out 34 = .ok (.aload_n 3, 1) := by decide +kernel
theorem dX2_out_35 : decode cX2_out 35 = .ok (.getfield 160, 3) := by decide +kernel
theorem dX2_out_38 : decode cX2_out 38 = .ok (.if_icmp .ge 12, 3) := by decide +kernel
theorem dX2_out_41 : decode cX2_out 41 = .ok (.aload_n 3, 1) := by decide +kernel
theorem dX2_out_42 : decode cX2_out 42 = .ok (.getfield 163, 3) := by decide +kernel
theorem dX2_out_45 : decode cX2_out 45 = .ok (.iload_n 2, 1) := by decide +kernel
theorem dX2_out_46 : decode cX2_out 46 = .ok (.iaload, 1) := by decide +kernel
theorem dX2_out_47 : decode cX2_out 47 = .ok (.goto 4, 3) := by decide +kernel
theorem dX2_out_50 : decode cX2_out 50 = .ok (.iconst (-1), 1) := by decide +kernel
theorem dX2_out_51 : decode cX2_out 51 = .ok (.ireturn, 1) := by decide +kernel
theorem dX2_state_0 : decode cX2_state 0 = .ok (.aload_n 0, 1) := by decide +kernel
theorem dX2_state_1 : decode cX2_state 1 = .ok (.iload_n 1, 1) := by decide +kernel
theorem dX2_state_2 : decode cX2_state 2 = .ok (.invokevirtual 63, 3) := by decide +kernel
theorem dX2_state_5 : decode cX2_state 5 = .ok (.aload_n 0, 1) := by decide +kernel
theorem dX2_state_6 : decode cX2_state 6 = .ok (.iload_n 2, 1) := by decide +kernel
theorem dX2_state_7 : decode cX2_state 7 = .ok (.invokevirtual 89, 3) := by decide +kernel
theorem dX2_state_10 : decode cX2_state 10 = .ok (.aload_n 0, 1) := by decide +kernel
theorem dX2_state_11 : decode cX2_state 11 = .ok (.iload_n 1, 1) := by decide +kernel
theorem dX2_state_12 : decode cX2_state 12 = .ok (.invokevirtual 77, 3) := by decide +kernel
theorem dX2_state_15 : decode cX2_state 15 = .ok (.getfield 166, 3) := by decide +kernel
theorem dX2_state_18 : decode cX2_state 18 = .ok (.iload_n 2, 1) := by decide +kernel
theorem dX2_state_19 : decode cX2_state 19 = .ok (.ishr, 1) := by decide +kernel
theorem dX2_state_20 : decode cX2_state 20 = .ok (.iconst 1, 1) := by decide +kernel
theorem dX2_state_21 : decode cX2_state 21 = .ok (.iand, 1) := by decide +kernel
theorem dX2_state_22 : decode cX2_state 22 = .ok (.ireturn, 1) := by decide +kernel
theorem dX2_apart_0 : decode cX2_apart 0 = .ok (.aload_n 0, 1) := by decide +kernel
theorem dX2_apart_1 : decode cX2_apart 1 = .ok (.getfield 26, 3) := by decide +kernel
theorem dX2_apart_4 : decode cX2_apart 4 = .ok (.ireturn, 1) := by decide +kernel
theorem dX2_count_0 : decode cX2_count 0 = .ok (.iload_n 1, 1) := by decide +kernel
theorem dX2_count_1 : decode cX2_count 1 = .ok (.tableswitch 88 0 6 #[43, 51, 56, 61, 61, 72, 80], 43) := by decide +kernel
theorem dX2_count_44 : decode cX2_count 44 = .ok (.aload_n 0, 1) := by decide +kernel
theorem dX2_count_45 : decode cX2_count 45 = .ok (.getfield 12, 3) := by decide +kernel
theorem dX2_count_48 : decode cX2_count 48 = .ok (.getfield 169, 3) := by decide +kernel
theorem dX2_count_51 : decode cX2_count 51 = .ok (.ireturn, 1) := by decide +kernel
theorem dX2_count_52 : decode cX2_count 52 = .ok (.aload_n 0, 1) := by decide +kernel
theorem dX2_count_53 : decode cX2_count 53 = .ok (.getfield 30, 3) := by decide +kernel
theorem dX2_count_56 : decode cX2_count 56 = .ok (.ireturn, 1) := by decide +kernel
theorem dX2_count_57 : decode cX2_count 57 = .ok (.aload_n 0, 1) := by decide +kernel
theorem dX2_count_58 : decode cX2_count 58 = .ok (.getfield 47, 3) := by decide +kernel
theorem dX2_count_61 : decode cX2_count 61 = .ok (.ireturn, 1) := by decide +kernel
theorem dX2_count_62 : decode cX2_count 62 = .ok (.aload_n 0, 1) := by decide +kernel
theorem dX2_count_63 : decode cX2_count 63 = .ok (.getfield 12, 3) := by decide +kernel
theorem dX2_count_66 : decode cX2_count 66 = .ok (.iload_n 1, 1) := by decide +kernel
theorem dX2_count_67 : decode cX2_count 67 = .ok (.iconst 3, 1) := by decide +kernel
theorem dX2_count_68 : decode cX2_count 68 = .ok (.isub, 1) := by decide +kernel
theorem dX2_count_69 : decode cX2_count 69 = .ok (.invokevirtual 172, 3) := by decide +kernel
theorem dX2_count_72 : decode cX2_count 72 = .ok (.ireturn, 1) := by decide +kernel
theorem dX2_count_73 : decode cX2_count 73 = .ok (.aload_n 0, 1) := by decide +kernel
theorem dX2_count_74 : decode cX2_count 74 = .ok (.getfield 19, 3) := by decide +kernel
theorem dX2_count_77 : decode cX2_count 77 = .ok (.getfield 81, 3) := by decide +kernel
theorem dX2_count_80 : decode cX2_count 80 = .ok (.ireturn, 1) := by decide +kernel
theorem dX2_count_81 : decode cX2_count 81 = .ok (.aload_n 0, 1) := by decide +kernel
theorem dX2_count_82 : decode cX2_count 82 = .ok (.getfield 23, 3) := by decide +kernel
theorem dX2_count_85 : decode cX2_count 85 = .ok (.getfield 81, 3) := by decide +kernel
theorem dX2_count_88 : decode cX2_count 88 = .ok (.ireturn, 1) := by decide +kernel
theorem dX2_count_89 : decode cX2_count 89 = .ok (.new 120, 3) := by decide +kernel
theorem dX2_count_92 : decode cX2_count 92 = .ok (.dup, 1) := by decide +kernel
theorem dX2_count_93 : decode cX2_count 93 = .ok (.ldc 175, 2) := by decide +kernel
theorem dX2_count_95 : decode cX2_count 95 = .ok (.invokespecial 124, 3) := by decide +kernel
theorem dX2_count_98 : decode cX2_count 98 = .ok (.athrow, 1) := by decide +kernel
theorem dX2_clear_0 : decode cX2_clear 0 = .ok (.aload_n 0, 1) := by decide +kernel
theorem dX2_clear_1 : decode cX2_clear 1 = .ok (.getfield 12, 3) := by decide +kernel
theorem dX2_clear_4 : decode cX2_clear 4 = .ok (.invokevirtual 177, 3) := by decide +kernel
theorem dX2_clear_7 : decode cX2_clear 7 = .ok (.aload_n 0, 1) := by decide +kernel
theorem dX2_clear_8 : decode cX2_clear 8 = .ok (.getfield 19, 3) := by decide +kernel
theorem dX2_clear_11 : decode cX2_clear 11 = .ok (.invokevirtual 180, 3) := by decide +kernel
theorem dX2_clear_14 : decode cX2_clear 14 = .ok (.aload_n 0, 1) := by decide +kernel
theorem dX2_clear_15 : decode cX2_clear 15 = .ok (.getfield 23, 3) := by decide +kernel
theorem dX2_clear_18 : decode cX2_clear 18 = .ok (.invokevirtual 180, 3) := by decide +kernel
theorem dX2_clear_21 : decode cX2_clear 21 = .ok (.aload_n 0, 1) := by decide +kernel
theorem dX2_clear_22 : decode cX2_clear 22 = .ok (.iconst 0, 1) := by decide +kernel
theorem dX2_clear_23 : decode cX2_clear 23 = .ok (.putfield 30, 3) := by decide +kernel
theorem dX2_clear_26 : decode cX2_clear 26 = .ok (.aload_n 0, 1) := by decide +kernel
theorem dX2_clear_27 : decode cX2_clear 27 = .ok (.iconst 0, 1) := by decide +kernel
theorem dX2_clear_28 : decode cX2_clear 28 = .ok (.putfield 47, 3) := by decide +kernel
theorem dX2_clear_31 : decode cX2_clear 31 = .ok (.aload_n 0, 1) := by decide +kernel
theorem dX2_clear_32 : decode cX2_clear 32 = .ok (.invokevirtual 60, 3) := by decide +kernel
theorem dX2_clear_35 : decode cX2_clear 35 = .ok (.return_, 1) := by decide +kernel
theorem dX2_needSide_0 : decode cX2_needSide 0 = .ok (.iload_n 1, 1) := by decide +kernel
theorem dX2_needSide_1 : decode cX2_needSide 1 = .ok (.ifCond .eq 18, 3) := by decide +kernel
theorem dX2_needSide_4 : decode cX2_needSide 4 = .ok (.iload_n 1, 1) := by decide +kernel
theorem dX2_needSide_5 : decode cX2_needSide 5 = .ok (.iconst 1, 1) := by decide +kernel
theorem dX2_needSide_6 : decode cX2_needSide 6 = .ok (.if_icmp .eq 13, 3) := by decide +kernel
theorem dX2_needSide_9 : decode cX2_needSide 9 = .ok (.new 120, 3) := by decide +kernel
theorem dX2_needSide_12 : decode cX2_needSide 12 = .ok (.dup, 1) := by decide +kernel
theorem dX2_needSide_13 : decode cX2_needSide 13 = .ok (.ldc 181, 2) := by decide +kernel
theorem dX2_needSide_15 : decode cX2_needSide 15 = .ok (.invokespecial 124, 3) := by decide +kernel
theorem dX2_needSide_18 : decode cX2_needSide 18 = .ok (.athrow, 1) := by decide +kernel
theorem dX2_needSide_19 : decode cX2_needSide 19 = .ok (.return_, 1) := by decide +kernel
theorem dX2_needLiteral_0 : decode cX2_needLiteral 0 = .ok (.iload_n 1, 1) := by decide +kernel
theorem dX2_needLiteral_1 : decode cX2_needLiteral 1 = .ok (.ifCond .lt 16, 3) := by decide +kernel
theorem dX2_needLiteral_4 : decode cX2_needLiteral 4 = .ok (.iload_n 1, 1) := by decide +kernel
theorem dX2_needLiteral_5 : decode cX2_needLiteral 5 = .ok (.iconst 2, 1) := by decide +kernel
theorem dX2_needLiteral_6 : decode cX2_needLiteral 6 = .ok (.aload_n 0, 1) := by decide +kernel
theorem dX2_needLiteral_7 : decode cX2_needLiteral 7 = .ok (.getfield 12, 3) := by decide +kernel
theorem dX2_needLiteral_10 : decode cX2_needLiteral 10 = .ok (.getfield 169, 3) := by decide +kernel
theorem dX2_needLiteral_13 : decode cX2_needLiteral 13 = .ok (.imul, 1) := by decide +kernel
theorem dX2_needLiteral_14 : decode cX2_needLiteral 14 = .ok (.if_icmp .lt 13, 3) := by decide +kernel
theorem dX2_needLiteral_17 : decode cX2_needLiteral 17 = .ok (.new 120, 3) := by decide +kernel
theorem dX2_needLiteral_20 : decode cX2_needLiteral 20 = .ok (.dup, 1) := by decide +kernel
theorem dX2_needLiteral_21 : decode cX2_needLiteral 21 = .ok (.ldc 183, 2) := by decide +kernel
theorem dX2_needLiteral_23 : decode cX2_needLiteral 23 = .ok (.invokespecial 124, 3) := by decide +kernel
theorem dX2_needLiteral_26 : decode cX2_needLiteral 26 = .ok (.athrow, 1) := by decide +kernel
theorem dX2_needLiteral_27 : decode cX2_needLiteral 27 = .ok (.return_, 1) := by decide +kernel
theorem dX2_needLatch_0 : decode cX2_needLatch 0 = .ok (.iload_n 1, 1) := by decide +kernel
theorem dX2_needLatch_1 : decode cX2_needLatch 1 = .ok (.ifCond .lt 11, 3) := by decide +kernel
theorem dX2_needLatch_4 : decode cX2_needLatch 4 = .ok (.iload_n 1, 1) := by decide +kernel
theorem dX2_needLatch_5 : decode cX2_needLatch 5 = .ok (.aload_n 0, 1) := by decide +kernel
theorem dX2_needLatch_6 : decode cX2_needLatch 6 = .ok (.getfield 47, 3) := by decide +kernel
theorem dX2_needLatch_9 : decode cX2_needLatch 9 = .ok (.if_icmp .lt 13, 3) := by decide +kernel
theorem dX2_needLatch_12 : decode cX2_needLatch 12 = .ok (.new 120, 3) := by decide +kernel
theorem dX2_needLatch_15 : decode cX2_needLatch 15 = .ok (.dup, 1) := by decide +kernel
theorem dX2_needLatch_16 : decode cX2_needLatch 16 = .ok (.ldc 185, 2) := by decide +kernel
theorem dX2_needLatch_18 : decode cX2_needLatch 18 = .ok (.invokespecial 124, 3) := by decide +kernel
theorem dX2_needLatch_21 : decode cX2_needLatch 21 = .ok (.athrow, 1) := by decide +kernel
theorem dX2_needLatch_22 : decode cX2_needLatch 22 = .ok (.return_, 1) := by decide +kernel
theorem dX2_needStart_0 : decode cX2_needStart 0 = .ok (.iload_n 1, 1) := by decide +kernel
theorem dX2_needStart_1 : decode cX2_needStart 1 = .ok (.ifCond .eq 18, 3) := by decide +kernel
theorem dX2_needStart_4 : decode cX2_needStart 4 = .ok (.iload_n 1, 1) := by decide +kernel
theorem dX2_needStart_5 : decode cX2_needStart 5 = .ok (.iconst 1, 1) := by decide +kernel
theorem dX2_needStart_6 : decode cX2_needStart 6 = .ok (.if_icmp .eq 13, 3) := by decide +kernel
theorem dX2_needStart_9 : decode cX2_needStart 9 = .ok (.new 187, 3) := by decide +kernel
theorem dX2_needStart_12 : decode cX2_needStart 12 = .ok (.dup, 1) := by decide +kernel
theorem dX2_needStart_13 : decode cX2_needStart 13 = .ok (.ldc 189, 2) := by decide +kernel
theorem dX2_needStart_15 : decode cX2_needStart 15 = .ok (.invokespecial 191, 3) := by decide +kernel
theorem dX2_needStart_18 : decode cX2_needStart 18 = .ok (.athrow, 1) := by decide +kernel
theorem dX2_needStart_19 : decode cX2_needStart 19 = .ok (.return_, 1) := by decide +kernel
theorem dX2_needRoomForNode_0 : decode cX2_needRoomForNode 0 = .ok (.aload_n 0, 1) := by decide +kernel
theorem dX2_needRoomForNode_1 : decode cX2_needRoomForNode 1 = .ok (.getfield 12, 3) := by decide +kernel
theorem dX2_needRoomForNode_4 : decode cX2_needRoomForNode 4 = .ok (.getfield 169, 3) := by decide +kernel
theorem dX2_needRoomForNode_7 : decode cX2_needRoomForNode 7 = .ok (.sipush 400, 3) := by decide +kernel
theorem dX2_needRoomForNode_10 : decode cX2_needRoomForNode 10 = .ok (.if_icmp .ne 13, 3) := by decide +kernel
theorem dX2_needRoomForNode_13 : decode cX2_needRoomForNode 13 = .ok (.new 33, 3) := by decide +kernel
theorem dX2_needRoomForNode_16 : decode cX2_needRoomForNode 16 = .ok (.dup, 1) := by decide +kernel
theorem dX2_needRoomForNode_17 : decode cX2_needRoomForNode 17 = .ok (.ldc 192, 2) := by decide +kernel
theorem dX2_needRoomForNode_19 : decode cX2_needRoomForNode 19 = .ok (.invokespecial 37, 3) := by decide +kernel
theorem dX2_needRoomForNode_22 : decode cX2_needRoomForNode 22 = .ok (.athrow, 1) := by decide +kernel
theorem dX2_needRoomForNode_23 : decode cX2_needRoomForNode 23 = .ok (.return_, 1) := by decide +kernel
theorem dX2_needOwn_0 : decode cX2_needOwn 0 = .ok (.aload_n 0, 1) := by decide +kernel
theorem dX2_needOwn_1 : decode cX2_needOwn 1 = .ok (.getfield 12, 3) := by decide +kernel
theorem dX2_needOwn_4 : decode cX2_needOwn 4 = .ok (.iload_n 1, 1) := by decide +kernel
theorem dX2_needOwn_5 : decode cX2_needOwn 5 = .ok (.iload_n 2, 1) := by decide +kernel
theorem dX2_needOwn_6 : decode cX2_needOwn 6 = .ok (.invokevirtual 194, 3) := by decide +kernel
theorem dX2_needOwn_9 : decode cX2_needOwn 9 = .ok (.ifCond .eq 13, 3) := by decide +kernel
theorem dX2_needOwn_12 : decode cX2_needOwn 12 = .ok (.new 187, 3) := by decide +kernel
theorem dX2_needOwn_15 : decode cX2_needOwn 15 = .ok (.dup, 1) := by decide +kernel
theorem dX2_needOwn_16 : decode cX2_needOwn 16 = .ok (.ldc 197, 2) := by decide +kernel
theorem dX2_needOwn_18 : decode cX2_needOwn 18 = .ok (.invokespecial 191, 3) := by decide +kernel
theorem dX2_needOwn_21 : decode cX2_needOwn 21 = .ok (.athrow, 1) := by decide +kernel
theorem dX2_needOwn_22 : decode cX2_needOwn 22 = .ok (.return_, 1) := by decide +kernel
theorem dX2_designOf_0 : decode cX2_designOf 0 = .ok (.iload_n 1, 1) := by decide +kernel
theorem dX2_designOf_1 : decode cX2_designOf 1 = .ok (.ifCond .ne 10, 3) := by decide +kernel
theorem dX2_designOf_4 : decode cX2_designOf 4 = .ok (.aload_n 0, 1) := by decide +kernel
theorem dX2_designOf_5 : decode cX2_designOf 5 = .ok (.getfield 19, 3) := by decide +kernel
theorem dX2_designOf_8 : decode cX2_designOf 8 = .ok (.goto 7, 3) := by decide +kernel
theorem dX2_designOf_11 : decode cX2_designOf 11 = .ok (.aload_n 0, 1) := by decide +kernel
theorem dX2_designOf_12 : decode cX2_designOf 12 = .ok (.getfield 23, 3) := by decide +kernel
theorem dX2_designOf_15 : decode cX2_designOf 15 = .ok (.areturn, 1) := by decide +kernel
theorem dX2_backToStarts_0 : decode cX2_backToStarts 0 = .ok (.aload_n 0, 1) := by decide +kernel
theorem dX2_backToStarts_1 : decode cX2_backToStarts 1 = .ok (.getfield 19, 3) := by decide +kernel
theorem dX2_backToStarts_4 : decode cX2_backToStarts 4 = .ok (.invokevirtual 199, 3) := by decide +kernel
theorem dX2_backToStarts_7 : decode cX2_backToStarts 7 = .ok (.aload_n 0, 1) := by decide +kernel
theorem dX2_backToStarts_8 : decode cX2_backToStarts 8 = .ok (.getfield 23, 3) := by decide +kernel
theorem dX2_backToStarts_11 : decode cX2_backToStarts 11 = .ok (.invokevirtual 199, 3) := by decide +kernel
theorem dX2_backToStarts_14 : decode cX2_backToStarts 14 = .ok (.aload_n 0, 1) := by decide +kernel
theorem dX2_backToStarts_15 : decode cX2_backToStarts 15 = .ok (.iconst 0, 1) := by decide +kernel
theorem dX2_backToStarts_16 : decode cX2_backToStarts 16 = .ok (.putfield 155, 3) := by decide +kernel
theorem dX2_backToStarts_19 : decode cX2_backToStarts 19 = .ok (.aload_n 0, 1) := by decide +kernel
theorem dX2_backToStarts_20 : decode cX2_backToStarts 20 = .ok (.iconst (-1), 1) := by decide +kernel
theorem dX2_backToStarts_21 : decode cX2_backToStarts 21 = .ok (.putfield 26, 3) := by decide +kernel
theorem dX2_backToStarts_24 : decode cX2_backToStarts 24 = .ok (.return_, 1) := by decide +kernel
theorem dX2_sharedOutputs_0 : decode cX2_sharedOutputs 0 = .ok (.aload_n 0, 1) := by decide +kernel
theorem dX2_sharedOutputs_1 : decode cX2_sharedOutputs 1 = .ok (.getfield 19, 3) := by decide +kernel
theorem dX2_sharedOutputs_4 : decode cX2_sharedOutputs 4 = .ok (.getfield 81, 3) := by decide +kernel
theorem dX2_sharedOutputs_7 : decode cX2_sharedOutputs 7 = .ok (.aload_n 0, 1) := by decide +kernel
theorem dX2_sharedOutputs_8 : decode cX2_sharedOutputs 8 = .ok (.getfield 23, 3) := by decide +kernel
theorem dX2_sharedOutputs_11 : decode cX2_sharedOutputs 11 = .ok (.getfield 81, 3) := by decide +kernel
theorem dX2_sharedOutputs_14 : decode cX2_sharedOutputs 14 = .ok (.invokestatic 200, 3) := by decide +kernel
theorem dX2_sharedOutputs_17 : decode cX2_sharedOutputs 17 = .ok (.ireturn, 1) := by decide +kernel
theorem dX2_countDifferent_0 : decode cX2_countDifferent 0 = .ok (.iconst 0, 1) := by decide +kernel
theorem dX2_countDifferent_1 : decode cX2_countDifferent 1 = .ok (.istore 4, 2) := by decide +kernel
theorem dX2_countDifferent_3 : decode cX2_countDifferent 3 = .ok (.iconst 0, 1) := by decide +kernel
theorem dX2_countDifferent_4 : decode cX2_countDifferent 4 = .ok (.istore 5, 2) := by decide +kernel
theorem dX2_countDifferent_6 : decode cX2_countDifferent 6 = .ok (.iload 5, 2) := by decide +kernel
theorem dX2_countDifferent_8 : decode cX2_countDifferent 8 = .ok (.iload_n 3, 1) := by decide +kernel
theorem dX2_countDifferent_9 : decode cX2_countDifferent 9 = .ok (.if_icmp .ge 30, 3) := by decide +kernel
theorem dX2_countDifferent_12 : decode cX2_countDifferent 12 = .ok (.aload_n 0, 1) := by decide +kernel
theorem dX2_countDifferent_13 : decode cX2_countDifferent 13 = .ok (.getfield 12, 3) := by decide +kernel
theorem dX2_countDifferent_16 : decode cX2_countDifferent 16 = .ok (.aload_n 1, 1) := by decide +kernel
theorem dX2_countDifferent_17 : decode cX2_countDifferent 17 = .ok (.iload 5, 2) := by decide +kernel
theorem dX2_countDifferent_19 : decode cX2_countDifferent 19 = .ok (.iaload, 1) := by decide +kernel
theorem dX2_countDifferent_20 : decode cX2_countDifferent 20 = .ok (.aload_n 2, 1) := by decide +kernel
theorem dX2_countDifferent_21 : decode cX2_countDifferent 21 = .ok (.iload 5, 2) := by decide +kernel
theorem dX2_countDifferent_23 : decode cX2_countDifferent 23 = .ok (.iaload, 1) := by decide +kernel
theorem dX2_countDifferent_24 : decode cX2_countDifferent 24 = .ok (.invokevirtual 96, 3) := by decide +kernel
theorem dX2_countDifferent_27 : decode cX2_countDifferent 27 = .ok (.ifCond .ne 6, 3) := by decide +kernel
theorem dX2_countDifferent_30 : decode cX2_countDifferent 30 = .ok (.iinc 4 1, 3) := by decide +kernel
theorem dX2_countDifferent_33 : decode cX2_countDifferent 33 = .ok (.iinc 5 1, 3) := by decide +kernel
theorem dX2_countDifferent_36 : decode cX2_countDifferent 36 = .ok (.goto (-30), 3) := by decide +kernel
theorem dX2_countDifferent_39 : decode cX2_countDifferent 39 = .ok (.iload 4, 2) := by decide +kernel
theorem dX2_countDifferent_41 : decode cX2_countDifferent 41 = .ok (.ireturn, 1) := by decide +kernel
theorem dX2_placeOfDifferent_0 : decode cX2_placeOfDifferent 0 = .ok (.iload 4, 2) := by decide +kernel
theorem dX2_placeOfDifferent_2 : decode cX2_placeOfDifferent 2 = .ok (.istore 5, 2) := by decide +kernel
theorem dX2_placeOfDifferent_4 : decode cX2_placeOfDifferent 4 = .ok (.iconst 0, 1) := by decide +kernel
theorem dX2_placeOfDifferent_5 : decode cX2_placeOfDifferent 5 = .ok (.istore 6, 2) := by decide +kernel
theorem dX2_placeOfDifferent_7 : decode cX2_placeOfDifferent 7 = .ok (.iload 6, 2) := by decide +kernel
theorem dX2_placeOfDifferent_9 : decode cX2_placeOfDifferent 9 = .ok (.iload_n 3, 1) := by decide +kernel
theorem dX2_placeOfDifferent_10 : decode cX2_placeOfDifferent 10 = .ok (.if_icmp .ge 38, 3) := by decide +kernel
theorem dX2_placeOfDifferent_13 : decode cX2_placeOfDifferent 13 = .ok (.aload_n 0, 1) := by decide +kernel
theorem dX2_placeOfDifferent_14 : decode cX2_placeOfDifferent 14 = .ok (.getfield 12, 3) := by decide +kernel
theorem dX2_placeOfDifferent_17 : decode cX2_placeOfDifferent 17 = .ok (.aload_n 1, 1) := by decide +kernel
theorem dX2_placeOfDifferent_18 : decode cX2_placeOfDifferent 18 = .ok (.iload 6, 2) := by decide +kernel
theorem dX2_placeOfDifferent_20 : decode cX2_placeOfDifferent 20 = .ok (.iaload, 1) := by decide +kernel
theorem dX2_placeOfDifferent_21 : decode cX2_placeOfDifferent 21 = .ok (.aload_n 2, 1) := by decide +kernel
theorem dX2_placeOfDifferent_22 : decode cX2_placeOfDifferent 22 = .ok (.iload 6, 2) := by decide +kernel
theorem dX2_placeOfDifferent_24 : decode cX2_placeOfDifferent 24 = .ok (.iaload, 1) := by decide +kernel
theorem dX2_placeOfDifferent_25 : decode cX2_placeOfDifferent 25 = .ok (.invokevirtual 96, 3) := by decide +kernel
theorem dX2_placeOfDifferent_28 : decode cX2_placeOfDifferent 28 = .ok (.ifCond .ne 14, 3) := by decide +kernel
theorem dX2_placeOfDifferent_31 : decode cX2_placeOfDifferent 31 = .ok (.iload 5, 2) := by decide +kernel
theorem dX2_placeOfDifferent_33 : decode cX2_placeOfDifferent 33 = .ok (.ifCond .ne 6, 3) := by decide +kernel
theorem dX2_placeOfDifferent_36 : decode cX2_placeOfDifferent 36 = .ok (.iload 6, 2) := by decide +kernel
theorem dX2_placeOfDifferent_38 : decode cX2_placeOfDifferent 38 = .ok (.ireturn, 1) := by decide +kernel
theorem dX2_placeOfDifferent_39 : decode cX2_placeOfDifferent 39 = .ok (.iinc 5 (-1), 3) := by decide +kernel
theorem dX2_placeOfDifferent_42 : decode cX2_placeOfDifferent 42 = .ok (.iinc 6 1, 3) := by decide +kernel
theorem dX2_placeOfDifferent_45 : decode cX2_placeOfDifferent 45 = .ok (.goto (-38), 3) := by decide +kernel
theorem dX2_placeOfDifferent_48 : decode cX2_placeOfDifferent 48 = .ok (.iconst (-1), 1) := by decide +kernel
theorem dX2_placeOfDifferent_49 : decode cX2_placeOfDifferent 49 = .ok (.ireturn, 1) := by decide +kernel
theorem dX2_differentStartOrSize_0 : decode cX2_differentStartOrSize 0 = .ok (.iload_n 1, 1) := by decide +kernel
theorem dX2_differentStartOrSize_1 : decode cX2_differentStartOrSize 1 = .ok (.istore_n 2, 1) := by decide +kernel
theorem dX2_differentStartOrSize_2 : decode cX2_differentStartOrSize 2 = .ok (.aload_n 0, 1) := by decide +kernel
theorem dX2_differentStartOrSize_3 : decode cX2_differentStartOrSize 3 = .ok (.getfield 19, 3) := by decide +kernel
theorem dX2_differentStartOrSize_6 : decode cX2_differentStartOrSize 6 = .ok (.getfield 205, 3) := by decide +kernel
theorem dX2_differentStartOrSize_9 : decode cX2_differentStartOrSize 9 = .ok (.aload_n 0, 1) := by decide +kernel
theorem dX2_differentStartOrSize_10 : decode cX2_differentStartOrSize 10 = .ok (.getfield 23, 3) := by decide +kernel
theorem dX2_differentStartOrSize_13 : decode cX2_differentStartOrSize 13 = .ok (.getfield 205, 3) := by decide +kernel
theorem dX2_differentStartOrSize_16 : decode cX2_differentStartOrSize 16 = .ok (.ixor, 1) := by decide +kernel
theorem dX2_differentStartOrSize_17 : decode cX2_differentStartOrSize 17 = .ok (.istore_n 3, 1) := by decide +kernel
theorem dX2_differentStartOrSize_18 : decode cX2_differentStartOrSize 18 = .ok (.iconst 0, 1) := by decide +kernel
theorem dX2_differentStartOrSize_19 : decode cX2_differentStartOrSize 19 = .ok (.istore 4, 2) := by decide +kernel
theorem dX2_differentStartOrSize_21 : decode cX2_differentStartOrSize 21 = .ok (.iload 4, 2) := by decide +kernel
theorem dX2_differentStartOrSize_23 : decode cX2_differentStartOrSize 23 = .ok (.aload_n 0, 1) := by decide +kernel
theorem dX2_differentStartOrSize_24 : decode cX2_differentStartOrSize 24 = .ok (.getfield 47, 3) := by decide +kernel
theorem dX2_differentStartOrSize_27 : decode cX2_differentStartOrSize 27 = .ok (.if_icmp .ge 33, 3) := by decide +kernel
theorem dX2_differentStartOrSize_30 : decode cX2_differentStartOrSize 30 = .ok (.iload_n 3, 1) := by decide +kernel
theorem dX2_differentStartOrSize_31 : decode cX2_differentStartOrSize 31 = .ok (.iload 4, 2) := by decide +kernel
theorem dX2_differentStartOrSize_33 : decode cX2_differentStartOrSize 33 = .ok (.ishr, 1) := by decide +kernel
theorem dX2_differentStartOrSize_34 : decode cX2_differentStartOrSize 34 = .ok (.iconst 1, 1) := by decide +kernel
theorem dX2_differentStartOrSize_35 : decode cX2_differentStartOrSize 35 = .ok (.iand, 1) := by decide +kernel
theorem dX2_differentStartOrSize_36 : decode cX2_differentStartOrSize 36 = .ok (.iconst 1, 1) := by decide +kernel
theorem dX2_differentStartOrSize_37 : decode cX2_differentStartOrSize 37 = .ok (.if_icmp .ne 17, 3) := by decide +kernel
theorem dX2_differentStartOrSize_40 : decode cX2_differentStartOrSize 40 = .ok (.iload_n 2, 1) := by decide +kernel
theorem dX2_differentStartOrSize_41 : decode cX2_differentStartOrSize 41 = .ok (.ifCond .ne 10, 3) := by decide +kernel
theorem dX2_differentStartOrSize_44 : decode cX2_differentStartOrSize 44 = .ok (.sipush 200, 3) := by decide +kernel
theorem dX2_differentStartOrSize_47 : decode cX2_differentStartOrSize 47 = .ok (.iload 4, 2) := by decide +kernel
theorem dX2_differentStartOrSize_49 : decode cX2_differentStartOrSize 49 = .ok (.iadd, 1) := by decide +kernel
theorem dX2_differentStartOrSize_50 : decode cX2_differentStartOrSize 50 = .ok (.ireturn, 1) := by decide +kernel
theorem dX2_differentStartOrSize_51 : decode cX2_differentStartOrSize 51 = .ok (.iinc 2 (-1), 3) := by decide +kernel
theorem dX2_differentStartOrSize_54 : decode cX2_differentStartOrSize 54 = .ok (.iinc 4 1, 3) := by decide +kernel
theorem dX2_differentStartOrSize_57 : decode cX2_differentStartOrSize 57 = .ok (.goto (-36), 3) := by decide +kernel
theorem dX2_differentStartOrSize_60 : decode cX2_differentStartOrSize 60 = .ok (.iload_n 2, 1) := by decide +kernel
theorem dX2_differentStartOrSize_61 : decode cX2_differentStartOrSize 61 = .ok (.ifCond .ne 26, 3) := by decide +kernel
theorem dX2_differentStartOrSize_64 : decode cX2_differentStartOrSize 64 = .ok (.aload_n 0, 1) := by decide +kernel
theorem dX2_differentStartOrSize_65 : decode cX2_differentStartOrSize 65 = .ok (.getfield 19, 3) := by decide +kernel
theorem dX2_differentStartOrSize_68 : decode cX2_differentStartOrSize 68 = .ok (.getfield 81, 3) := by decide +kernel
theorem dX2_differentStartOrSize_71 : decode cX2_differentStartOrSize 71 = .ok (.aload_n 0, 1) := by decide +kernel
theorem dX2_differentStartOrSize_72 : decode cX2_differentStartOrSize 72 = .ok (.getfield 23, 3) := by decide +kernel
theorem dX2_differentStartOrSize_75 : decode cX2_differentStartOrSize 75 = .ok (.getfield 81, 3) := by decide +kernel
theorem dX2_differentStartOrSize_78 : decode cX2_differentStartOrSize 78 = .ok (.if_icmp .eq 9, 3) := by decide +kernel
theorem dX2_differentStartOrSize_81 : decode cX2_differentStartOrSize 81 = .ok (.sipush 300, 3) := by decide +kernel
theorem dX2_differentStartOrSize_84 : decode cX2_differentStartOrSize 84 = .ok (.goto 4, 3) := by decide +kernel
theorem dX2_differentStartOrSize_87 : decode cX2_differentStartOrSize 87 = .ok (.iconst (-1), 1) := by decide +kernel
theorem dX2_differentStartOrSize_88 : decode cX2_differentStartOrSize 88 = .ok (.ireturn, 1) := by decide +kernel
theorem dX2_showApart_0 : decode cX2_showApart 0 = .ok (.aload_n 0, 1) := by decide +kernel
theorem dX2_showApart_1 : decode cX2_showApart 1 = .ok (.getfield 19, 3) := by decide +kernel
theorem dX2_showApart_4 : decode cX2_showApart 4 = .ok (.getfield 160, 3) := by decide +kernel
theorem dX2_showApart_7 : decode cX2_showApart 7 = .ok (.aload_n 0, 1) := by decide +kernel
theorem dX2_showApart_8 : decode cX2_showApart 8 = .ok (.getfield 23, 3) := by decide +kernel
theorem dX2_showApart_11 : decode cX2_showApart 11 = .ok (.getfield 160, 3) := by decide +kernel
theorem dX2_showApart_14 : decode cX2_showApart 14 = .ok (.invokestatic 200, 3) := by decide +kernel
theorem dX2_showApart_17 : decode cX2_showApart 17 = .ok (.istore_n 1, 1) := by decide +kernel
theorem dX2_showApart_18 : decode cX2_showApart 18 = .ok (.iconst 0, 1) := by decide +kernel
theorem dX2_showApart_19 : decode cX2_showApart 19 = .ok (.istore_n 2, 1) := by decide +kernel
theorem dX2_showApart_20 : decode cX2_showApart 20 = .ok (.iload_n 2, 1) := by decide +kernel
theorem dX2_showApart_21 : decode cX2_showApart 21 = .ok (.iload_n 1, 1) := by decide +kernel
theorem dX2_showApart_22 : decode cX2_showApart 22 = .ok (.if_icmp .ge 32, 3) := by decide +kernel
theorem dX2_showApart_25 : decode cX2_showApart 25 = .ok (.aload_n 0, 1) := by decide +kernel
theorem dX2_showApart_26 : decode cX2_showApart 26 = .ok (.getfield 19, 3) := by decide +kernel
theorem dX2_showApart_29 : decode cX2_showApart 29 = .ok (.getfield 163, 3) := by decide +kernel
theorem dX2_showApart_32 : decode cX2_showApart 32 = .ok (.iload_n 2, 1) := by decide +kernel
theorem dX2_showApart_33 : decode cX2_showApart 33 = .ok (.iaload, 1) := by decide +kernel
theorem dX2_showApart_34 : decode cX2_showApart 34 = .ok (.aload_n 0, 1) := by decide +kernel
theorem dX2_showApart_35 : decode cX2_showApart 35 = .ok (.getfield 23, 3) := by decide +kernel
theorem dX2_showApart_38 : decode cX2_showApart 38 = .ok (.getfield 163, 3) := by decide +kernel
theorem dX2_showApart_41 : decode cX2_showApart 41 = .ok (.iload_n 2, 1) := by decide +kernel
theorem dX2_showApart_42 : decode cX2_showApart 42 = .ok (.iaload, 1) := by decide +kernel
theorem dX2_showApart_43 : decode cX2_showApart 43 = .ok (.if_icmp .eq 5, 3) := by decide +kernel
theorem dX2_showApart_46 : decode cX2_showApart 46 = .ok (.iconst 1, 1) := by decide +kernel
theorem dX2_showApart_47 : decode cX2_showApart 47 = .ok (.ireturn, 1) := by decide +kernel
theorem dX2_showApart_48 : decode cX2_showApart 48 = .ok (.iinc 2 1, 3) := by decide +kernel
theorem dX2_showApart_51 : decode cX2_showApart 51 = .ok (.goto (-31), 3) := by decide +kernel
theorem dX2_showApart_54 : decode cX2_showApart 54 = .ok (.iconst 0, 1) := by decide +kernel
theorem dX2_showApart_55 : decode cX2_showApart 55 = .ok (.ireturn, 1) := by decide +kernel
