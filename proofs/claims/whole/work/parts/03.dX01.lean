theorem dX0_init_0 : decode cX0_init 0 = .ok (.aload_n 0, 1) := by decide +kernel
theorem dX0_init_1 : decode cX0_init 1 = .ok (.invokespecial 3, 3) := by decide +kernel
theorem dX0_init_4 : decode cX0_init 4 = .ok (.aload_n 0, 1) := by decide +kernel
theorem dX0_init_5 : decode cX0_init 5 = .ok (.bipush 16, 2) := by decide +kernel
theorem dX0_init_7 : decode cX0_init 7 = .ok (.newarray .int, 2) := by decide +kernel
theorem dX0_init_9 : decode cX0_init 9 = .ok (.putfield 9, 3) := by decide +kernel
theorem dX0_init_12 : decode cX0_init 12 = .ok (.aload_n 0, 1) := by decide +kernel
theorem dX0_init_13 : decode cX0_init 13 = .ok (.iconst 4, 1) := by decide +kernel
theorem dX0_init_14 : decode cX0_init 14 = .ok (.newarray .int, 2) := by decide +kernel
theorem dX0_init_16 : decode cX0_init 16 = .ok (.putfield 15, 3) := by decide +kernel
theorem dX0_init_19 : decode cX0_init 19 = .ok (.aload_n 0, 1) := by decide +kernel
theorem dX0_init_20 : decode cX0_init 20 = .ok (.bipush 16, 2) := by decide +kernel
theorem dX0_init_22 : decode cX0_init 22 = .ok (.newarray .int, 2) := by decide +kernel
theorem dX0_init_24 : decode cX0_init 24 = .ok (.putfield 18, 3) := by decide +kernel
theorem dX0_init_27 : decode cX0_init 27 = .ok (.return_, 1) := by decide +kernel
theorem dX0_forget_0 : decode cX0_forget 0 = .ok (.aload_n 0, 1) := by decide +kernel
theorem dX0_forget_1 : decode cX0_forget 1 = .ok (.iconst 0, 1) := by decide +kernel
theorem dX0_forget_2 : decode cX0_forget 2 = .ok (.putfield 21, 3) := by decide +kernel
theorem dX0_forget_5 : decode cX0_forget 5 = .ok (.aload_n 0, 1) := by decide +kernel
theorem dX0_forget_6 : decode cX0_forget 6 = .ok (.iconst 0, 1) := by decide +kernel
theorem dX0_forget_7 : decode cX0_forget 7 = .ok (.putfield 25, 3) := by decide +kernel
theorem dX0_forget_10 : decode cX0_forget 10 = .ok (.return_, 1) := by decide +kernel
theorem dX0_addLatch_0 : decode cX0_addLatch 0 = .ok (.aload_n 0, 1) := by decide +kernel
theorem dX0_addLatch_1 : decode cX0_addLatch 1 = .ok (.dup, 1) := by decide +kernel
theorem dX0_addLatch_2 : decode cX0_addLatch 2 = .ok (.getfield 25, 3) := by decide +kernel
theorem dX0_addLatch_5 : decode cX0_addLatch 5 = .ok (.iload_n 2, 1) := by decide +kernel
theorem dX0_addLatch_6 : decode cX0_addLatch 6 = .ok (.iload_n 1, 1) := by decide +kernel
theorem dX0_addLatch_7 : decode cX0_addLatch 7 = .ok (.ishl, 1) := by decide +kernel
theorem dX0_addLatch_8 : decode cX0_addLatch 8 = .ok (.ior, 1) := by decide +kernel
theorem dX0_addLatch_9 : decode cX0_addLatch 9 = .ok (.putfield 25, 3) := by decide +kernel
theorem dX0_addLatch_12 : decode cX0_addLatch 12 = .ok (.aload_n 0, 1) := by decide +kernel
theorem dX0_addLatch_13 : decode cX0_addLatch 13 = .ok (.getfield 15, 3) := by decide +kernel
theorem dX0_addLatch_16 : decode cX0_addLatch 16 = .ok (.iload_n 1, 1) := by decide +kernel
theorem dX0_addLatch_17 : decode cX0_addLatch 17 = .ok (.iload_n 3, 1) := by decide +kernel
theorem dX0_addLatch_18 : decode cX0_addLatch 18 = .ok (.iastore, 1) := by decide +kernel
theorem dX0_addLatch_19 : decode cX0_addLatch 19 = .ok (.return_, 1) := by decide +kernel
theorem dX0_addOutput_0 : decode cX0_addOutput 0 = .ok (.aload_n 0, 1) := by decide +kernel
theorem dX0_addOutput_1 : decode cX0_addOutput 1 = .ok (.getfield 9, 3) := by decide +kernel
theorem dX0_addOutput_4 : decode cX0_addOutput 4 = .ok (.aload_n 0, 1) := by decide +kernel
theorem dX0_addOutput_5 : decode cX0_addOutput 5 = .ok (.getfield 21, 3) := by decide +kernel
theorem dX0_addOutput_8 : decode cX0_addOutput 8 = .ok (.iload_n 1, 1) := by decide +kernel
theorem dX0_addOutput_9 : decode cX0_addOutput 9 = .ok (.iastore, 1) := by decide +kernel
theorem dX0_addOutput_10 : decode cX0_addOutput 10 = .ok (.aload_n 0, 1) := by decide +kernel
theorem dX0_addOutput_11 : decode cX0_addOutput 11 = .ok (.dup, 1) := by decide +kernel
theorem dX0_addOutput_12 : decode cX0_addOutput 12 = .ok (.getfield 21, 3) := by decide +kernel
theorem dX0_addOutput_15 : decode cX0_addOutput 15 = .ok (.iconst 1, 1) := by decide +kernel
theorem dX0_addOutput_16 : decode cX0_addOutput 16 = .ok (.iadd, 1) := by decide +kernel
theorem dX0_addOutput_17 : decode cX0_addOutput 17 = .ok (.putfield 21, 3) := by decide +kernel
theorem dX0_addOutput_20 : decode cX0_addOutput 20 = .ok (.aload_n 0, 1) := by decide +kernel
theorem dX0_addOutput_21 : decode cX0_addOutput 21 = .ok (.getfield 21, 3) := by decide +kernel
theorem dX0_addOutput_24 : decode cX0_addOutput 24 = .ok (.iconst 1, 1) := by decide +kernel
theorem dX0_addOutput_25 : decode cX0_addOutput 25 = .ok (.isub, 1) := by decide +kernel
theorem dX0_addOutput_26 : decode cX0_addOutput 26 = .ok (.ireturn, 1) := by decide +kernel
theorem dX0_backToStarts_0 : decode cX0_backToStarts 0 = .ok (.aload_n 0, 1) := by decide +kernel
theorem dX0_backToStarts_1 : decode cX0_backToStarts 1 = .ok (.aload_n 0, 1) := by decide +kernel
theorem dX0_backToStarts_2 : decode cX0_backToStarts 2 = .ok (.getfield 25, 3) := by decide +kernel
theorem dX0_backToStarts_5 : decode cX0_backToStarts 5 = .ok (.putfield 28, 3) := by decide +kernel
theorem dX0_backToStarts_8 : decode cX0_backToStarts 8 = .ok (.aload_n 0, 1) := by decide +kernel
theorem dX0_backToStarts_9 : decode cX0_backToStarts 9 = .ok (.iconst 0, 1) := by decide +kernel
theorem dX0_backToStarts_10 : decode cX0_backToStarts 10 = .ok (.putfield 31, 3) := by decide +kernel
theorem dX0_backToStarts_13 : decode cX0_backToStarts 13 = .ok (.return_, 1) := by decide +kernel
theorem dX0_runStep_0 : decode cX0_runStep 0 = .ok (.iload_n 2, 1) := by decide +kernel
theorem dX0_runStep_1 : decode cX0_runStep 1 = .ok (.sipush 255, 3) := by decide +kernel
theorem dX0_runStep_4 : decode cX0_runStep 4 = .ok (.iand, 1) := by decide +kernel
theorem dX0_runStep_5 : decode cX0_runStep 5 = .ok (.aload_n 0, 1) := by decide +kernel
theorem dX0_runStep_6 : decode cX0_runStep 6 = .ok (.getfield 28, 3) := by decide +kernel
theorem dX0_runStep_9 : decode cX0_runStep 9 = .ok (.bipush 8, 2) := by decide +kernel
theorem dX0_runStep_11 : decode cX0_runStep 11 = .ok (.ishl, 1) := by decide +kernel
theorem dX0_runStep_12 : decode cX0_runStep 12 = .ok (.ior, 1) := by decide +kernel
theorem dX0_runStep_13 : decode cX0_runStep 13 = .ok (.istore 4, 2) := by decide +kernel
theorem dX0_runStep_15 : decode cX0_runStep 15 = .ok (.iconst 0, 1) := by decide +kernel
theorem dX0_runStep_16 : decode cX0_runStep 16 = .ok (.istore 5, 2) := by decide +kernel
theorem dX0_runStep_18 : decode cX0_runStep 18 = .ok (.iload 5, 2) := by decide +kernel
theorem dX0_runStep_20 : decode cX0_runStep 20 = .ok (.aload_n 0, 1) := by decide +kernel
theorem dX0_runStep_21 : decode cX0_runStep 21 = .ok (.getfield 21, 3) := by decide +kernel
theorem dX0_runStep_24 : decode cX0_runStep 24 = .ok (.if_icmp .ge 29, 3) := by decide +kernel
theorem dX0_runStep_27 : decode cX0_runStep 27 = .ok (.aload_n 0, 1) := by decide +kernel
theorem dX0_runStep_28 : decode cX0_runStep 28 = .ok (.getfield 18, 3) := by decide +kernel
theorem dX0_runStep_31 : decode cX0_runStep 31 = .ok (.iload 5, 2) := by decide +kernel
theorem dX0_runStep_33 : decode cX0_runStep 33 = .ok (.aload_n 1, 1) := by decide +kernel
theorem dX0_runStep_34 : decode cX0_runStep 34 = .ok (.aload_n 0, 1) := by decide +kernel
theorem dX0_runStep_35 : decode cX0_runStep 35 = .ok (.getfield 9, 3) := by decide +kernel
theorem dX0_runStep_38 : decode cX0_runStep 38 = .ok (.iload 5, 2) := by decide +kernel
theorem dX0_runStep_40 : decode cX0_runStep 40 = .ok (.iaload, 1) := by decide +kernel
theorem dX0_runStep_41 : decode cX0_runStep 41 = .ok (.iload 4, 2) := by decide +kernel
theorem dX0_runStep_43 : decode cX0_runStep 43 = .ok (.invokevirtual 34, 3) := by decide +kernel
theorem dX0_runStep_46 : decode cX0_runStep 46 = .ok (.iastore, 1) := by decide +kernel
theorem dX0_runStep_47 : decode cX0_runStep 47 = .ok (.iinc 5 1, 3) := by decide +kernel
theorem dX0_runStep_50 : decode cX0_runStep 50 = .ok (.goto (-32), 3) := by decide +kernel
theorem dX0_runStep_53 : decode cX0_runStep 53 = .ok (.aload_n 0, 1) := by decide +kernel
theorem dX0_runStep_54 : decode cX0_runStep 54 = .ok (.aload_n 0, 1) := by decide +kernel
theorem dX0_runStep_55 : decode cX0_runStep 55 = .ok (.getfield 21, 3) := by decide +kernel
theorem dX0_runStep_58 : decode cX0_runStep 58 = .ok (.putfield 31, 3) := by decide +kernel
theorem dX0_runStep_61 : decode cX0_runStep 61 = .ok (.iconst 0, 1) := by decide +kernel
theorem dX0_runStep_62 : decode cX0_runStep 62 = .ok (.istore 5, 2) := by decide +kernel
theorem dX0_runStep_64 : decode cX0_runStep 64 = .ok (.iconst 0, 1) := by decide +kernel
theorem dX0_runStep_65 : decode cX0_runStep 65 = .ok (.istore 6, 2) := by decide +kernel
theorem dX0_runStep_67 : decode cX0_runStep 67 = .ok (.iload 6, 2) := by decide +kernel
theorem dX0_runStep_69 : decode cX0_runStep 69 = .ok (.iload_n 3, 1) := by decide +kernel
theorem dX0_runStep_70 : decode cX0_runStep 70 = .ok (.if_icmp .ge 30, 3) := by decide +kernel
theorem dX0_runStep_73 : decode cX0_runStep 73 = .ok (.iload 5, 2) := by decide +kernel
theorem dX0_runStep_75 : decode cX0_runStep 75 = .ok (.aload_n 1, 1) := by decide +kernel
theorem dX0_runStep_76 : decode cX0_runStep 76 = .ok (.aload_n 0, 1) := by decide +kernel
theorem dX0_runStep_77 : decode cX0_runStep 77 = .ok (.getfield 15, 3) := by decide +kernel
theorem dX0_runStep_80 : decode cX0_runStep 80 = .ok (.iload 6, 2) := by decide +kernel
theorem dX0_runStep_82 : decode cX0_runStep 82 = .ok (.iaload, 1) := by decide +kernel
theorem dX0_runStep_83 : decode cX0_runStep 83 = .ok (.iload 4, 2) := by decide +kernel
theorem dX0_runStep_85 : decode cX0_runStep 85 = .ok (.invokevirtual 34, 3) := by decide +kernel
theorem dX0_runStep_88 : decode cX0_runStep 88 = .ok (.iload 6, 2) := by decide +kernel
theorem dX0_runStep_90 : decode cX0_runStep 90 = .ok (.ishl, 1) := by decide +kernel
theorem dX0_runStep_91 : decode cX0_runStep 91 = .ok (.ior, 1) := by decide +kernel
theorem dX0_runStep_92 : decode cX0_runStep 92 = .ok (.istore 5, 2) := by decide +kernel
theorem dX0_runStep_94 : decode cX0_runStep 94 = .ok (.iinc 6 1, 3) := by decide +kernel
theorem dX0_runStep_97 : decode cX0_runStep 97 = .ok (.goto (-30), 3) := by decide +kernel
theorem dX0_runStep_100 : decode cX0_runStep 100 = .ok (.aload_n 0, 1) := by decide +kernel
theorem dX0_runStep_101 : decode cX0_runStep 101 = .ok (.iload 5, 2) := by decide +kernel
theorem dX0_runStep_103 : decode cX0_runStep 103 = .ok (.putfield 28, 3) := by decide +kernel
theorem dX0_runStep_106 : decode cX0_runStep 106 = .ok (.return_, 1) := by decide +kernel
theorem dX1_init_0 : decode cX1_init 0 = .ok (.aload_n 0, 1) := by decide +kernel
theorem dX1_init_1 : decode cX1_init 1 = .ok (.invokespecial 5, 3) := by decide +kernel
theorem dX1_init_4 : decode cX1_init 4 = .ok (.aload_n 0, 1) := by decide +kernel
theorem dX1_init_5 : decode cX1_init 5 = .ok (.iconst 1, 1) := by decide +kernel
theorem dX1_init_6 : decode cX1_init 6 = .ok (.putfield 11, 3) := by decide +kernel
theorem dX1_init_9 : decode cX1_init 9 = .ok (.aload_n 0, 1) := by decide +kernel
theorem dX1_init_10 : decode cX1_init 10 = .ok (.sipush 400, 3) := by decide +kernel
theorem dX1_init_13 : decode cX1_init 13 = .ok (.newarray .int, 2) := by decide +kernel
theorem dX1_init_15 : decode cX1_init 15 = .ok (.putfield 15, 3) := by decide +kernel
theorem dX1_init_18 : decode cX1_init 18 = .ok (.aload_n 0, 1) := by decide +kernel
theorem dX1_init_19 : decode cX1_init 19 = .ok (.getfield 15, 3) := by decide +kernel
theorem dX1_init_22 : decode cX1_init 22 = .ok (.iconst 0, 1) := by decide +kernel
theorem dX1_init_23 : decode cX1_init 23 = .ok (.iconst (-1), 1) := by decide +kernel
theorem dX1_init_24 : decode cX1_init 24 = .ok (.iastore, 1) := by decide +kernel
theorem dX1_init_25 : decode cX1_init 25 = .ok (.aload_n 0, 1) := by decide +kernel
theorem dX1_init_26 : decode cX1_init 26 = .ok (.sipush 400, 3) := by decide +kernel
theorem dX1_init_29 : decode cX1_init 29 = .ok (.newarray .int, 2) := by decide +kernel
theorem dX1_init_31 : decode cX1_init 31 = .ok (.putfield 19, 3) := by decide +kernel
theorem dX1_init_34 : decode cX1_init 34 = .ok (.aload_n 0, 1) := by decide +kernel
theorem dX1_init_35 : decode cX1_init 35 = .ok (.sipush 2048, 3) := by decide +kernel
theorem dX1_init_38 : decode cX1_init 38 = .ok (.newarray .long, 2) := by decide +kernel
theorem dX1_init_40 : decode cX1_init 40 = .ok (.putfield 22, 3) := by decide +kernel
theorem dX1_init_43 : decode cX1_init 43 = .ok (.return_, 1) := by decide +kernel
theorem dX1_forget_0 : decode cX1_forget 0 = .ok (.aload_n 0, 1) := by decide +kernel
theorem dX1_forget_1 : decode cX1_forget 1 = .ok (.iconst 1, 1) := by decide +kernel
theorem dX1_forget_2 : decode cX1_forget 2 = .ok (.putfield 11, 3) := by decide +kernel
theorem dX1_forget_5 : decode cX1_forget 5 = .ok (.return_, 1) := by decide +kernel
theorem dX1_addVariable_0 : decode cX1_addVariable 0 = .ok (.aload_n 0, 1) := by decide +kernel
theorem dX1_addVariable_1 : decode cX1_addVariable 1 = .ok (.invokevirtual 26, 3) := by decide +kernel
theorem dX1_addVariable_4 : decode cX1_addVariable 4 = .ok (.aload_n 0, 1) := by decide +kernel
theorem dX1_addVariable_5 : decode cX1_addVariable 5 = .ok (.getfield 11, 3) := by decide +kernel
theorem dX1_addVariable_8 : decode cX1_addVariable 8 = .ok (.bipush 64, 2) := by decide +kernel
theorem dX1_addVariable_10 : decode cX1_addVariable 10 = .ok (.imul, 1) := by decide +kernel
theorem dX1_addVariable_11 : decode cX1_addVariable 11 = .ok (.istore_n 2, 1) := by decide +kernel
theorem dX1_addVariable_12 : decode cX1_addVariable 12 = .ok (.iconst 0, 1) := by decide +kernel
theorem dX1_addVariable_13 : decode cX1_addVariable 13 = .ok (.istore_n 3, 1) := by decide +kernel
theorem dX1_addVariable_14 : decode cX1_addVariable 14 = .ok (.iload_n 3, 1) := by decide +kernel
theorem dX1_addVariable_15 : decode cX1_addVariable 15 = .ok (.bipush 64, 2) := by decide +kernel
theorem dX1_addVariable_17 : decode cX1_addVariable 17 = .ok (.if_icmp .ge 22, 3) := by decide +kernel
theorem dX1_addVariable_20 : decode cX1_addVariable 20 = .ok (.aload_n 0, 1) := by decide +kernel
theorem dX1_addVariable_21 : decode cX1_addVariable 21 = .ok (.getfield 22, 3) := by decide +kernel
theorem dX1_addVariable_24 : decode cX1_addVariable 24 = .ok (.iload_n 2, 1) := by decide +kernel
theorem dX1_addVariable_25 : decode cX1_addVariable 25 = .ok (.iload_n 3, 1) := by decide +kernel
theorem dX1_addVariable_26 : decode cX1_addVariable 26 = .ok (.iadd, 1) := by decide +kernel
theorem dX1_addVariable_27 : decode cX1_addVariable 27 = .ok (.iload_n 1, 1) := by decide +kernel
theorem dX1_addVariable_28 : decode cX1_addVariable 28 = .ok (.iload_n 3, 1) := by decide +kernel
theorem dX1_addVariable_29 : decode cX1_addVariable 29 = .ok (.invokestatic 29, 3) := by decide +kernel
theorem dX1_addVariable_32 : decode cX1_addVariable 32 = .ok (.lastore, 1) := by decide +kernel
theorem dX1_addVariable_33 : decode cX1_addVariable 33 = .ok (.iinc 3 1, 3) := by decide +kernel
theorem dX1_addVariable_36 : decode cX1_addVariable 36 = .ok (.goto (-22), 3) := by decide +kernel
theorem dX1_addVariable_39 : decode cX1_addVariable 39 = .ok (.aload_n 0, 1) := by decide +kernel
theorem dX1_addVariable_40 : decode cX1_addVariable 40 = .ok (.iconst (-1), 1) := by decide +kernel
theorem dX1_addVariable_41 : decode cX1_addVariable 41 = .ok (.invokevirtual 33, 3) := by decide +kernel
theorem dX1_addVariable_44 : decode cX1_addVariable 44 = .ok (.ireturn, 1) := by decide +kernel
theorem dX1_addAnd_0 : decode cX1_addAnd 0 = .ok (.aload_n 0, 1) := by decide +kernel
theorem dX1_addAnd_1 : decode cX1_addAnd 1 = .ok (.invokevirtual 26, 3) := by decide +kernel
theorem dX1_addAnd_4 : decode cX1_addAnd 4 = .ok (.aload_n 0, 1) := by decide +kernel
theorem dX1_addAnd_5 : decode cX1_addAnd 5 = .ok (.getfield 11, 3) := by decide +kernel
theorem dX1_addAnd_8 : decode cX1_addAnd 8 = .ok (.bipush 64, 2) := by decide +kernel
theorem dX1_addAnd_10 : decode cX1_addAnd 10 = .ok (.imul, 1) := by decide +kernel
theorem dX1_addAnd_11 : decode cX1_addAnd 11 = .ok (.istore 4, 2) := by decide +kernel
theorem dX1_addAnd_13 : decode cX1_addAnd 13 = .ok (.iconst 0, 1) := by decide +kernel
theorem dX1_addAnd_14 : decode cX1_addAnd 14 = .ok (.istore 5, 2) := by decide +kernel
theorem dX1_addAnd_16 : decode cX1_addAnd 16 = .ok (.iload 5, 2) := by decide +kernel
theorem dX1_addAnd_18 : decode cX1_addAnd 18 = .ok (.bipush 64, 2) := by decide +kernel
theorem dX1_addAnd_20 : decode cX1_addAnd 20 = .ok (.if_icmp .ge 34, 3) := by decide +kernel
theorem dX1_addAnd_23 : decode cX1_addAnd 23 = .ok (.aload_n 0, 1) := by decide +kernel
theorem dX1_addAnd_24 : decode cX1_addAnd 24 = .ok (.getfield 22, 3) := by decide +kernel
theorem dX1_addAnd_27 : decode cX1_addAnd 27 = .ok (.iload 4, 2) := by decide +kernel
theorem dX1_addAnd_29 : decode cX1_addAnd 29 = .ok (.iload 5, 2) := by decide +kernel
theorem dX1_addAnd_31 : decode cX1_addAnd 31 = .ok (.iadd, 1) := by decide +kernel
theorem dX1_addAnd_32 : decode cX1_addAnd 32 = .ok (.aload_n 0, 1) := by decide +kernel
theorem dX1_addAnd_33 : decode cX1_addAnd 33 = .ok (.iload_n 2, 1) := by decide +kernel
theorem dX1_addAnd_34 : decode cX1_addAnd 34 = .ok (.iload 5, 2) := by decide +kernel
theorem dX1_addAnd_36 : decode cX1_addAnd 36 = .ok (.invokevirtual 37, 3) := by decide +kernel
theorem dX1_addAnd_39 : decode cX1_addAnd 39 = .ok (.aload_n 0, 1) := by decide +kernel
theorem dX1_addAnd_40 : decode cX1_addAnd 40 = .ok (.iload_n 3, 1) := by decide +kernel
theorem dX1_addAnd_41 : decode cX1_addAnd 41 = .ok (.iload 5, 2) := by decide +kernel
theorem dX1_addAnd_43 : decode cX1_addAnd 43 = .ok (.invokevirtual 37, 3) := by decide +kernel
theorem dX1_addAnd_46 : decode cX1_addAnd 46 = .ok (.land, 1) := by decide +kernel
theorem dX1_addAnd_47 : decode cX1_addAnd 47 = .ok (.lastore, 1) := by decide +kernel
theorem dX1_addAnd_48 : decode cX1_addAnd 48 = .ok (.iinc 5 1, 3) := by decide +kernel
theorem dX1_addAnd_51 : decode cX1_addAnd 51 = .ok (.goto (-35), 3) := by decide +kernel
theorem dX1_addAnd_54 : decode cX1_addAnd 54 = .ok (.aload_n 0, 1) := by decide +kernel
theorem dX1_addAnd_55 : decode cX1_addAnd 55 = .ok (.iload_n 1, 1) := by decide +kernel
theorem dX1_addAnd_56 : decode cX1_addAnd 56 = .ok (.invokevirtual 33, 3) := by decide +kernel
theorem dX1_addAnd_59 : decode cX1_addAnd 59 = .ok (.ireturn, 1) := by decide +kernel
theorem dX1_isOfOtherSide_0 : decode cX1_isOfOtherSide 0 = .ok (.aload_n 0, 1) := by decide +kernel
theorem dX1_isOfOtherSide_1 : decode cX1_isOfOtherSide 1 = .ok (.getfield 15, 3) := by decide +kernel
theorem dX1_isOfOtherSide_4 : decode cX1_isOfOtherSide 4 = .ok (.iload_n 2, 1) := by decide +kernel
theorem dX1_isOfOtherSide_5 : decode cX1_isOfOtherSide 5 = .ok (.iconst 1, 1) := by decide +kernel
theorem dX1_isOfOtherSide_6 : decode cX1_isOfOtherSide 6 = .ok (.ishr, 1) := by decide +kernel
theorem dX1_isOfOtherSide_7 : decode cX1_isOfOtherSide 7 = .ok (.iaload, 1) := by decide +kernel
theorem dX1_isOfOtherSide_8 : decode cX1_isOfOtherSide 8 = .ok (.istore_n 3, 1) := by decide +kernel
theorem dX1_isOfOtherSide_9 : decode cX1_isOfOtherSide 9 = .ok (.iload_n 3, 1) := by decide +kernel
theorem dX1_isOfOtherSide_10 : decode cX1_isOfOtherSide 10 = .ok (.iconst (-1), 1) := by decide +kernel
theorem dX1_isOfOtherSide_11 : decode cX1_isOfOtherSide 11 = .ok (.if_icmp .eq 12, 3) := by decide +kernel
theorem dX1_isOfOtherSide_14 : decode cX1_isOfOtherSide 14 = .ok (.iload_n 3, 1) := by decide +kernel
theorem dX1_isOfOtherSide_15 : decode cX1_isOfOtherSide 15 = .ok (.iload_n 1, 1) := by decide +kernel
theorem dX1_isOfOtherSide_16 : decode cX1_isOfOtherSide 16 = .ok (.if_icmp .eq 7, 3) := by decide +kernel
theorem dX1_isOfOtherSide_19 : decode cX1_isOfOtherSide 19 = .ok (.iconst 1, 1) := by decide +kernel
theorem dX1_isOfOtherSide_20 : decode cX1_isOfOtherSide 20 = .ok (.goto 4, 3) := by decide +kernel
theorem dX1_isOfOtherSide_23 : decode cX1_isOfOtherSide 23 = .ok (.iconst 0, 1) := by decide +kernel
theorem dX1_isOfOtherSide_24 : decode cX1_isOfOtherSide 24 = .ok (.ireturn, 1) := by decide +kernel
theorem dX1_firstOf_0 : decode cX1_firstOf 0 = .ok (.aload_n 0, 1) := by decide +kernel
theorem dX1_firstOf_1 : decode cX1_firstOf 1 = .ok (.getfield 19, 3) := by decide +kernel
theorem dX1_firstOf_4 : decode cX1_firstOf 4 = .ok (.iload_n 1, 1) := by decide +kernel
theorem dX1_firstOf_5 : decode cX1_firstOf 5 = .ok (.iconst 1, 1) := by decide +kernel
theorem dX1_firstOf_6 : decode cX1_firstOf 6 = .ok (.ishr, 1) := by decide +kernel
theorem dX1_firstOf_7 : decode cX1_firstOf 7 = .ok (.iaload, 1) := by decide +kernel
theorem dX1_firstOf_8 : decode cX1_firstOf 8 = .ok (.iload_n 1, 1) := by decide +kernel
theorem dX1_firstOf_9 : decode cX1_firstOf 9 = .ok (.iconst 1, 1) := by decide +kernel
theorem dX1_firstOf_10 : decode cX1_firstOf 10 = .ok (.iand, 1) := by decide +kernel
theorem dX1_firstOf_11 : decode cX1_firstOf 11 = .ok (.ixor, 1) := by decide +kernel
theorem dX1_firstOf_12 : decode cX1_firstOf 12 = .ok (.ireturn, 1) := by decide +kernel
theorem dX1_areSame_0 : decode cX1_areSame 0 = .ok (.aload_n 0, 1) := by decide +kernel
theorem dX1_areSame_1 : decode cX1_areSame 1 = .ok (.iload_n 1, 1) := by decide +kernel
theorem dX1_areSame_2 : decode cX1_areSame 2 = .ok (.invokevirtual 40, 3) := by decide +kernel
theorem dX1_areSame_5 : decode cX1_areSame 5 = .ok (.aload_n 0, 1) := by decide +kernel
theorem dX1_areSame_6 : decode cX1_areSame 6 = .ok (.iload_n 2, 1) := by decide +kernel
theorem dX1_areSame_7 : decode cX1_areSame 7 = .ok (.invokevirtual 40, 3) := by decide +kernel
theorem dX1_areSame_10 : decode cX1_areSame 10 = .ok (.if_icmp .ne 7, 3) := by decide +kernel
theorem dX1_areSame_13 : decode cX1_areSame 13 = .ok (.iconst 1, 1) := by decide +kernel
theorem dX1_areSame_14 : decode cX1_areSame 14 = .ok (.goto 4, 3) := by decide +kernel
theorem dX1_areSame_17 : decode cX1_areSame 17 = .ok (.iconst 0, 1) := by decide +kernel
theorem dX1_areSame_18 : decode cX1_areSame 18 = .ok (.ireturn, 1) := by decide +kernel
theorem dX1_countClasses_0 : decode cX1_countClasses 0 = .ok (.iconst 0, 1) := by decide +kernel
theorem dX1_countClasses_1 : decode cX1_countClasses 1 = .ok (.istore_n 1, 1) := by decide +kernel
theorem dX1_countClasses_2 : decode cX1_countClasses 2 = .ok (.iconst 0, 1) := by decide +kernel
theorem dX1_countClasses_3 : decode cX1_countClasses 3 = .ok (.istore_n 2, 1) := by decide +kernel
theorem dX1_countClasses_4 : decode cX1_countClasses 4 = .ok (.iload_n 2, 1) := by decide +kernel
theorem dX1_countClasses_5 : decode cX1_countClasses 5 = .ok (.aload_n 0, 1) := by decide +kernel
theorem dX1_countClasses_6 : decode cX1_countClasses 6 = .ok (.getfield 11, 3) := by decide +kernel
theorem dX1_countClasses_9 : decode cX1_countClasses 9 = .ok (.if_icmp .ge 20, 3) := by decide +kernel
theorem dX1_countClasses_12 : decode cX1_countClasses 12 = .ok (.aload_n 0, 1) := by decide +kernel
theorem dX1_countClasses_13 : decode cX1_countClasses 13 = .ok (.iload_n 2, 1) := by decide +kernel
theorem dX1_countClasses_14 : decode cX1_countClasses 14 = .ok (.invokevirtual 43, 3) := by decide +kernel
theorem dX1_countClasses_17 : decode cX1_countClasses 17 = .ok (.ifCond .eq 6, 3) := by decide +kernel
theorem dX1_countClasses_20 : decode cX1_countClasses 20 = .ok (.iinc 1 1, 3) := by decide +kernel
theorem dX1_countClasses_23 : decode cX1_countClasses 23 = .ok (.iinc 2 1, 3) := by decide +kernel
theorem dX1_countClasses_26 : decode cX1_countClasses 26 = .ok (.goto (-22), 3) := by decide +kernel
theorem dX1_countClasses_29 : decode cX1_countClasses 29 = .ok (.iload_n 1, 1) := by decide +kernel
theorem dX1_countClasses_30 : decode cX1_countClasses 30 = .ok (.ireturn, 1) := by decide +kernel
theorem dX1_countMerged_0 : decode cX1_countMerged 0 = .ok (.iconst 0, 1) := by decide +kernel
theorem dX1_countMerged_1 : decode cX1_countMerged 1 = .ok (.istore_n 2, 1) := by decide +kernel
theorem dX1_countMerged_2 : decode cX1_countMerged 2 = .ok (.iconst 0, 1) := by decide +kernel
theorem dX1_countMerged_3 : decode cX1_countMerged 3 = .ok (.istore_n 3, 1) := by decide +kernel
theorem dX1_countMerged_4 : decode cX1_countMerged 4 = .ok (.iload_n 3, 1) := by decide +kernel
theorem dX1_countMerged_5 : decode cX1_countMerged 5 = .ok (.aload_n 0, 1) := by decide +kernel
theorem dX1_countMerged_6 : decode cX1_countMerged 6 = .ok (.getfield 11, 3) := by decide +kernel
theorem dX1_countMerged_9 : decode cX1_countMerged 9 = .ok (.if_icmp .ge 30, 3) := by decide +kernel
theorem dX1_countMerged_12 : decode cX1_countMerged 12 = .ok (.aload_n 0, 1) := by decide +kernel
theorem dX1_countMerged_13 : decode cX1_countMerged 13 = .ok (.getfield 15, 3) := by decide +kernel
theorem dX1_countMerged_16 : decode cX1_countMerged 16 = .ok (.iload_n 3, 1) := by decide +kernel
theorem dX1_countMerged_17 : decode cX1_countMerged 17 = .ok (.iaload, 1) := by decide +kernel
theorem dX1_countMerged_18 : decode cX1_countMerged 18 = .ok (.iload_n 1, 1) := by decide +kernel
theorem dX1_countMerged_19 : decode cX1_countMerged 19 = .ok (.if_icmp .ne 14, 3) := by decide +kernel
theorem dX1_countMerged_22 : decode cX1_countMerged 22 = .ok (.aload_n 0, 1) := by decide +kernel
theorem dX1_countMerged_23 : decode cX1_countMerged 23 = .ok (.iload_n 3, 1) := by decide +kernel
theorem dX1_countMerged_24 : decode cX1_countMerged 24 = .ok (.invokevirtual 43, 3) := by decide +kernel
theorem dX1_countMerged_27 : decode cX1_countMerged 27 = .ok (.ifCond .ne 6, 3) := by decide +kernel
theorem dX1_countMerged_30 : decode cX1_countMerged 30 = .ok (.iinc 2 1, 3) := by decide +kernel
theorem dX1_countMerged_33 : decode cX1_countMerged 33 = .ok (.iinc 3 1, 3) := by decide +kernel
theorem dX1_countMerged_36 : decode cX1_countMerged 36 = .ok (.goto (-32), 3) := by decide +kernel
theorem dX1_countMerged_39 : decode cX1_countMerged 39 = .ok (.iload_n 2, 1) := by decide +kernel
theorem dX1_countMerged_40 : decode cX1_countMerged 40 = .ok (.ireturn, 1) := by decide +kernel
theorem dX1_countAnds_0 : decode cX1_countAnds 0 = .ok (.iconst 0, 1) := by decide +kernel
theorem dX1_countAnds_1 : decode cX1_countAnds 1 = .ok (.istore_n 2, 1) := by decide +kernel
theorem dX1_countAnds_2 : decode cX1_countAnds 2 = .ok (.iconst 0, 1) := by decide +kernel
theorem dX1_countAnds_3 : decode cX1_countAnds 3 = .ok (.istore_n 3, 1) := by decide +kernel
theorem dX1_countAnds_4 : decode cX1_countAnds 4 = .ok (.iload_n 3, 1) := by decide +kernel
theorem dX1_countAnds_5 : decode cX1_countAnds 5 = .ok (.aload_n 0, 1) := by decide +kernel
theorem dX1_countAnds_6 : decode cX1_countAnds 6 = .ok (.getfield 11, 3) := by decide +kernel
theorem dX1_countAnds_9 : decode cX1_countAnds 9 = .ok (.if_icmp .ge 22, 3) := by decide +kernel
theorem dX1_countAnds_12 : decode cX1_countAnds 12 = .ok (.aload_n 0, 1) := by decide +kernel
theorem dX1_countAnds_13 : decode cX1_countAnds 13 = .ok (.getfield 15, 3) := by decide +kernel
theorem dX1_countAnds_16 : decode cX1_countAnds 16 = .ok (.iload_n 3, 1) := by decide +kernel
theorem dX1_countAnds_17 : decode cX1_countAnds 17 = .ok (.iaload, 1) := by decide +kernel
theorem dX1_countAnds_18 : decode cX1_countAnds 18 = .ok (.iload_n 1, 1) := by decide +kernel
theorem dX1_countAnds_19 : decode cX1_countAnds 19 = .ok (.if_icmp .ne 6, 3) := by decide +kernel
theorem dX1_countAnds_22 : decode cX1_countAnds 22 = .ok (.iinc 2 1, 3) := by decide +kernel
theorem dX1_countAnds_25 : decode cX1_countAnds 25 = .ok (.iinc 3 1, 3) := by decide +kernel
theorem dX1_countAnds_28 : decode cX1_countAnds 28 = .ok (.goto (-24), 3) := by decide +kernel
theorem dX1_countAnds_31 : decode cX1_countAnds 31 = .ok (.iload_n 2, 1) := by decide +kernel
theorem dX1_countAnds_32 : decode cX1_countAnds 32 = .ok (.ireturn, 1) := by decide +kernel
theorem dX1_countOnes_0 : decode cX1_countOnes 0 = .ok (.iconst 0, 1) := by decide +kernel
theorem dX1_countOnes_1 : decode cX1_countOnes 1 = .ok (.istore_n 2, 1) := by decide +kernel
theorem dX1_countOnes_2 : decode cX1_countOnes 2 = .ok (.iconst 0, 1) := by decide +kernel
theorem dX1_countOnes_3 : decode cX1_countOnes 3 = .ok (.istore_n 3, 1) := by decide +kernel
theorem dX1_countOnes_4 : decode cX1_countOnes 4 = .ok (.iload_n 3, 1) := by decide +kernel
theorem dX1_countOnes_5 : decode cX1_countOnes 5 = .ok (.bipush 64, 2) := by decide +kernel
theorem dX1_countOnes_7 : decode cX1_countOnes 7 = .ok (.if_icmp .ge 21, 3) := by decide +kernel
theorem dX1_countOnes_10 : decode cX1_countOnes 10 = .ok (.iload_n 2, 1) := by decide +kernel
theorem dX1_countOnes_11 : decode cX1_countOnes 11 = .ok (.aload_n 0, 1) := by decide +kernel
theorem dX1_countOnes_12 : decode cX1_countOnes 12 = .ok (.iload_n 1, 1) := by decide +kernel
theorem dX1_countOnes_13 : decode cX1_countOnes 13 = .ok (.iload_n 3, 1) := by decide +kernel
theorem dX1_countOnes_14 : decode cX1_countOnes 14 = .ok (.invokevirtual 37, 3) := by decide +kernel
theorem dX1_countOnes_17 : decode cX1_countOnes 17 = .ok (.invokestatic 47, 3) := by decide +kernel
theorem dX1_countOnes_20 : decode cX1_countOnes 20 = .ok (.iadd, 1) := by decide +kernel
theorem dX1_countOnes_21 : decode cX1_countOnes 21 = .ok (.istore_n 2, 1) := by decide +kernel
theorem dX1_countOnes_22 : decode cX1_countOnes 22 = .ok (.iinc 3 1, 3) := by decide +kernel
theorem dX1_countOnes_25 : decode cX1_countOnes 25 = .ok (.goto (-21), 3) := by decide +kernel
theorem dX1_countOnes_28 : decode cX1_countOnes 28 = .ok (.iload_n 2, 1) := by decide +kernel
theorem dX1_countOnes_29 : decode cX1_countOnes 29 = .ok (.ireturn, 1) := by decide +kernel
theorem dX1_valueIn_0 : decode cX1_valueIn 0 = .ok (.iload_n 2, 1) := by decide +kernel
theorem dX1_valueIn_1 : decode cX1_valueIn 1 = .ok (.sipush 4095, 3) := by decide +kernel
theorem dX1_valueIn_4 : decode cX1_valueIn 4 = .ok (.iand, 1) := by decide +kernel
theorem dX1_valueIn_5 : decode cX1_valueIn 5 = .ok (.istore_n 3, 1) := by decide +kernel
theorem dX1_valueIn_6 : decode cX1_valueIn 6 = .ok (.aload_n 0, 1) := by decide +kernel
theorem dX1_valueIn_7 : decode cX1_valueIn 7 = .ok (.iload_n 1, 1) := by decide +kernel
theorem dX1_valueIn_8 : decode cX1_valueIn 8 = .ok (.iload_n 3, 1) := by decide +kernel
theorem dX1_valueIn_9 : decode cX1_valueIn 9 = .ok (.bipush 64, 2) := by decide +kernel
theorem dX1_valueIn_11 : decode cX1_valueIn 11 = .ok (.idiv, 1) := by decide +kernel
theorem dX1_valueIn_12 : decode cX1_valueIn 12 = .ok (.invokevirtual 37, 3) := by decide +kernel
theorem dX1_valueIn_15 : decode cX1_valueIn 15 = .ok (.iload_n 3, 1) := by decide +kernel
theorem dX1_valueIn_16 : decode cX1_valueIn 16 = .ok (.bipush 64, 2) := by decide +kernel
theorem dX1_valueIn_18 : decode cX1_valueIn 18 = .ok (.irem, 1) := by decide +kernel
theorem dX1_valueIn_19 : decode cX1_valueIn 19 = .ok (.lushr, 1) := by decide +kernel
theorem dX1_valueIn_20 : decode cX1_valueIn 20 = .ok (.l2i, 1) := by decide +kernel
theorem dX1_valueIn_21 : decode cX1_valueIn 21 = .ok (.iconst 1, 1) := by decide +kernel
theorem dX1_valueIn_22 : decode cX1_valueIn 22 = .ok (.iand, 1) := by decide +kernel
theorem dX1_valueIn_23 : decode cX1_valueIn 23 = .ok (.ireturn, 1) := by decide +kernel
theorem dX1_supportOf_0 : decode cX1_supportOf 0 = .ok (.iconst 0, 1) := by decide +kernel
theorem dX1_supportOf_1 : decode cX1_supportOf 1 = .ok (.istore_n 2, 1) := by decide +kernel
theorem dX1_supportOf_2 : decode cX1_supportOf 2 = .ok (.iconst 0, 1) := by decide +kernel
theorem dX1_supportOf_3 : decode cX1_supportOf 3 = .ok (.istore_n 3, 1) := by decide +kernel
theorem dX1_supportOf_4 : decode cX1_supportOf 4 = .ok (.iload_n 3, 1) := by decide +kernel
theorem dX1_supportOf_5 : decode cX1_supportOf 5 = .ok (.bipush 12, 2) := by decide +kernel
theorem dX1_supportOf_7 : decode cX1_supportOf 7 = .ok (.if_icmp .ge 24, 3) := by decide +kernel
theorem dX1_supportOf_10 : decode cX1_supportOf 10 = .ok (.aload_n 0, 1) := by decide +kernel
theorem dX1_supportOf_11 : decode cX1_supportOf 11 = .ok (.iload_n 1, 1) := by decide +kernel
theorem dX1_supportOf_12 : decode cX1_supportOf 12 = .ok (.iload_n 3, 1) := by decide +kernel
theorem dX1_supportOf_13 : decode cX1_supportOf 13 = .ok (.invokevirtual 53, 3) := by decide +kernel
theorem dX1_supportOf_16 : decode cX1_supportOf 16 = .ok (.ifCond .eq 9, 3) := by decide +kernel
theorem dX1_supportOf_19 : decode cX1_supportOf 19 = .ok (.iload_n 2, 1) := by decide +kernel
theorem dX1_supportOf_20 : decode cX1_supportOf 20 = .ok (.iconst 1, 1) := by decide +kernel
theorem dX1_supportOf_21 : decode cX1_supportOf 21 = .ok (.iload_n 3, 1) := by decide +kernel
theorem dX1_supportOf_22 : decode cX1_supportOf 22 = .ok (.ishl, 1) := by decide +kernel
theorem dX1_supportOf_23 : decode cX1_supportOf 23 = .ok (.ior, 1) := by decide +kernel
theorem dX1_supportOf_24 : decode cX1_supportOf 24 = .ok (.istore_n 2, 1) := by decide +kernel
theorem dX1_supportOf_25 : decode cX1_supportOf 25 = .ok (.iinc 3 1, 3) := by decide +kernel
theorem dX1_supportOf_28 : decode cX1_supportOf 28 = .ok (.goto (-24), 3) := by decide +kernel
theorem dX1_supportOf_31 : decode cX1_supportOf 31 = .ok (.iload_n 2, 1) := by decide +kernel
theorem dX1_supportOf_32 : decode cX1_supportOf 32 = .ok (.ireturn, 1) := by decide +kernel
theorem dX1_leastDifference_0 : decode cX1_leastDifference 0 = .ok (.iconst 0, 1) := by decide +kernel
theorem dX1_leastDifference_1 : decode cX1_leastDifference 1 = .ok (.istore_n 3, 1) := by decide +kernel
theorem dX1_leastDifference_2 : decode cX1_leastDifference 2 = .ok (.iload_n 3, 1) := by decide +kernel
theorem dX1_leastDifference_3 : decode cX1_leastDifference 3 = .ok (.bipush 64, 2) := by decide +kernel
theorem dX1_leastDifference_5 : decode cX1_leastDifference 5 = .ok (.if_icmp .ge 42, 3) := by decide +kernel
theorem dX1_leastDifference_8 : decode cX1_leastDifference 8 = .ok (.aload_n 0, 1) := by decide +kernel
theorem dX1_leastDifference_9 : decode cX1_leastDifference 9 = .ok (.iload_n 1, 1) := by decide +kernel
theorem dX1_leastDifference_10 : decode cX1_leastDifference 10 = .ok (.iload_n 3, 1) := by decide +kernel
theorem dX1_leastDifference_11 : decode cX1_leastDifference 11 = .ok (.invokevirtual 37, 3) := by decide +kernel
theorem dX1_leastDifference_14 : decode cX1_leastDifference 14 = .ok (.aload_n 0, 1) := by decide +kernel
theorem dX1_leastDifference_15 : decode cX1_leastDifference 15 = .ok (.iload_n 2, 1) := by decide +kernel
theorem dX1_leastDifference_16 : decode cX1_leastDifference 16 = .ok (.iload_n 3, 1) := by decide +kernel
theorem dX1_leastDifference_17 : decode cX1_leastDifference 17 = .ok (.invokevirtual 37, 3) := by decide +kernel
theorem dX1_leastDifference_20 : decode cX1_leastDifference 20 = .ok (.lxor, 1) := by decide +kernel
theorem dX1_leastDifference_21 : decode cX1_leastDifference 21 = .ok (.lstore 4, 2) := by decide +kernel
theorem dX1_leastDifference_23 : decode cX1_leastDifference 23 = .ok (.lload 4, 2) := by decide +kernel
theorem dX1_leastDifference_25 : decode cX1_leastDifference 25 = .ok (.lconst 0, 1) := by decide +kernel
theorem dX1_leastDifference_26 : decode cX1_leastDifference 26 = .ok (.lcmp, 1) := by decide +kernel
theorem dX1_leastDifference_27 : decode cX1_leastDifference 27 = .ok (.ifCond .eq 14, 3) := by decide +kernel
theorem dX1_leastDifference_30 : decode cX1_leastDifference 30 = .ok (.iload_n 3, 1) := by decide +kernel
theorem dX1_leastDifference_31 : decode cX1_leastDifference 31 = .ok (.bipush 64, 2) := by decide +kernel
theorem dX1_leastDifference_33 : decode cX1_leastDifference 33 = .ok (.imul, 1) := by decide +kernel
theorem dX1_leastDifference_34 : decode cX1_leastDifference 34 = .ok (.lload 4, 2) := by decide +kernel
theorem dX1_leastDifference_36 : decode cX1_leastDifference 36 = .ok (.invokestatic 57, 3) := by decide +kernel
theorem dX1_leastDifference_39 : decode cX1_leastDifference 39 = .ok (.iadd, 1) := by decide +kernel
theorem dX1_leastDifference_40 : decode cX1_leastDifference 40 = .ok (.ireturn, 1) := by decide +kernel
theorem dX1_leastDifference_41 : decode cX1_leastDifference 41 = .ok (.iinc 3 1, 3) := by decide +kernel
theorem dX1_leastDifference_44 : decode cX1_leastDifference 44 = .ok (.goto (-42), 3) := by decide +kernel
theorem dX1_leastDifference_47 : decode cX1_leastDifference 47 = .ok (.iconst (-1), 1) := by decide +kernel
theorem dX1_leastDifference_48 : decode cX1_leastDifference 48 = .ok (.ireturn, 1) := by decide +kernel
theorem dX1_growRows_0 : decode cX1_growRows 0 = .ok (.aload_n 0, 1) := by decide +kernel
theorem dX1_growRows_1 : decode cX1_growRows 1 = .ok (.getfield 11, 3) := by decide +kernel
theorem dX1_growRows_4 : decode cX1_growRows 4 = .ok (.iconst 1, 1) := by decide +kernel
theorem dX1_growRows_5 : decode cX1_growRows 5 = .ok (.iadd, 1) := by decide +kernel
theorem dX1_growRows_6 : decode cX1_growRows 6 = .ok (.bipush 64, 2) := by decide +kernel
theorem dX1_growRows_8 : decode cX1_growRows 8 = .ok (.imul, 1) := by decide +kernel
theorem dX1_growRows_9 : decode cX1_growRows 9 = .ok (.aload_n 0, 1) := by decide +kernel
theorem dX1_growRows_10 : decode cX1_growRows 10 = .ok (.getfield 22, 3) := by decide +kernel
theorem dX1_growRows_13 : decode cX1_growRows 13 = .ok (.arraylength, 1) := by decide +kernel
theorem dX1_growRows_14 : decode cX1_growRows 14 = .ok (.if_icmp .le 27, 3) := by decide +kernel
theorem dX1_growRows_17 : decode cX1_growRows 17 = .ok (.aload_n 0, 1) := by decide +kernel
theorem dX1_growRows_18 : decode cX1_growRows 18 = .ok (.aload_n 0, 1) := by decide +kernel
theorem dX1_growRows_19 : decode cX1_growRows 19 = .ok (.getfield 22, 3) := by decide +kernel
theorem dX1_growRows_22 : decode cX1_growRows 22 = .ok (.iconst 2, 1) := by decide +kernel
theorem dX1_growRows_23 : decode cX1_growRows 23 = .ok (.aload_n 0, 1) := by decide +kernel
theorem dX1_growRows_24 : decode cX1_growRows 24 = .ok (.getfield 22, 3) := by decide +kernel
theorem dX1_growRows_27 : decode cX1_growRows 27 = .ok (.arraylength, 1) := by decide +kernel
theorem dX1_growRows_28 : decode cX1_growRows 28 = .ok (.imul, 1) := by decide +kernel
theorem dX1_growRows_29 : decode cX1_growRows 29 = .ok (.sipush 25600, 3) := by decide +kernel
theorem dX1_growRows_32 : decode cX1_growRows 32 = .ok (.invokestatic 60, 3) := by decide +kernel
theorem dX1_growRows_35 : decode cX1_growRows 35 = .ok (.invokestatic 66, 3) := by decide +kernel
theorem dX1_growRows_38 : decode cX1_growRows 38 = .ok (.putfield 22, 3) := by decide +kernel
theorem dX1_growRows_41 : decode cX1_growRows 41 = .ok (.return_, 1) := by decide +kernel
theorem dX1_settle_0 : decode cX1_settle 0 = .ok (.aload_n 0, 1) := by decide +kernel
theorem dX1_settle_1 : decode cX1_settle 1 = .ok (.getfield 11, 3) := by decide +kernel
theorem dX1_settle_4 : decode cX1_settle 4 = .ok (.istore_n 2, 1) := by decide +kernel
theorem dX1_settle_5 : decode cX1_settle 5 = .ok (.aload_n 0, 1) := by decide +kernel
theorem dX1_settle_6 : decode cX1_settle 6 = .ok (.getfield 15, 3) := by decide +kernel
theorem dX1_settle_9 : decode cX1_settle 9 = .ok (.iload_n 2, 1) := by decide +kernel
theorem dX1_settle_10 : decode cX1_settle 10 = .ok (.iload_n 1, 1) := by decide +kernel
theorem dX1_settle_11 : decode cX1_settle 11 = .ok (.iastore, 1) := by decide +kernel
theorem dX1_settle_12 : decode cX1_settle 12 = .ok (.aload_n 0, 1) := by decide +kernel
theorem dX1_settle_13 : decode cX1_settle 13 = .ok (.getfield 19, 3) := by decide +kernel
theorem dX1_settle_16 : decode cX1_settle 16 = .ok (.iload_n 2, 1) := by decide +kernel
theorem dX1_settle_17 : decode cX1_settle 17 = .ok (.aload_n 0, 1) := by decide +kernel
theorem dX1_settle_18 : decode cX1_settle 18 = .ok (.iload_n 2, 1) := by decide +kernel
theorem dX1_settle_19 : decode cX1_settle 19 = .ok (.invokevirtual 72, 3) := by decide +kernel
theorem dX1_settle_22 : decode cX1_settle 22 = .ok (.iastore, 1) := by decide +kernel
theorem dX1_settle_23 : decode cX1_settle 23 = .ok (.aload_n 0, 1) := by decide +kernel
theorem dX1_settle_24 : decode cX1_settle 24 = .ok (.dup, 1) := by decide +kernel
theorem dX1_settle_25 : decode cX1_settle 25 = .ok (.getfield 11, 3) := by decide +kernel
theorem dX1_settle_28 : decode cX1_settle 28 = .ok (.iconst 1, 1) := by decide +kernel
theorem dX1_settle_29 : decode cX1_settle 29 = .ok (.iadd, 1) := by decide +kernel
theorem dX1_settle_30 : decode cX1_settle 30 = .ok (.putfield 11, 3) := by decide +kernel
theorem dX1_settle_33 : decode cX1_settle 33 = .ok (.iconst 2, 1) := by decide +kernel
theorem dX1_settle_34 : decode cX1_settle 34 = .ok (.iload_n 2, 1) := by decide +kernel
theorem dX1_settle_35 : decode cX1_settle 35 = .ok (.imul, 1) := by decide +kernel
theorem dX1_settle_36 : decode cX1_settle 36 = .ok (.ireturn, 1) := by decide +kernel
theorem dX1_findFirst_0 : decode cX1_findFirst 0 = .ok (.iconst 2, 1) := by decide +kernel
theorem dX1_findFirst_1 : decode cX1_findFirst 1 = .ok (.iload_n 1, 1) := by decide +kernel
theorem dX1_findFirst_2 : decode cX1_findFirst 2 = .ok (.imul, 1) := by decide +kernel
theorem dX1_findFirst_3 : decode cX1_findFirst 3 = .ok (.istore_n 2, 1) := by decide +kernel
theorem dX1_findFirst_4 : decode cX1_findFirst 4 = .ok (.aload_n 0, 1) := by decide +kernel
theorem dX1_findFirst_5 : decode cX1_findFirst 5 = .ok (.iload_n 2, 1) := by decide +kernel
theorem dX1_findFirst_6 : decode cX1_findFirst 6 = .ok (.iconst 0, 1) := by decide +kernel
theorem dX1_findFirst_7 : decode cX1_findFirst 7 = .ok (.invokevirtual 75, 3) := by decide +kernel
theorem dX1_findFirst_10 : decode cX1_findFirst 10 = .ok (.istore_n 3, 1) := by decide +kernel
theorem dX1_findFirst_11 : decode cX1_findFirst 11 = .ok (.iconst 0, 1) := by decide +kernel
theorem dX1_findFirst_12 : decode cX1_findFirst 12 = .ok (.istore 4, 2) := by decide +kernel
theorem dX1_findFirst_14 : decode cX1_findFirst 14 = .ok (.iload 4, 2) := by decide +kernel
theorem dX1_findFirst_16 : decode cX1_findFirst 16 = .ok (.iload_n 1, 1) := by decide +kernel
theorem dX1_findFirst_17 : decode cX1_findFirst 17 = .ok (.if_icmp .ge 41, 3) := by decide +kernel
theorem dX1_findFirst_20 : decode cX1_findFirst 20 = .ok (.iconst 2, 1) := by decide +kernel
theorem dX1_findFirst_21 : decode cX1_findFirst 21 = .ok (.iload 4, 2) := by decide +kernel
theorem dX1_findFirst_23 : decode cX1_findFirst 23 = .ok (.imul, 1) := by decide +kernel
theorem dX1_findFirst_24 : decode cX1_findFirst 24 = .ok (.aload_n 0, 1) := by decide +kernel
theorem dX1_findFirst_25 : decode cX1_findFirst 25 = .ok (.iconst 2, 1) := by decide +kernel
theorem dX1_findFirst_26 : decode cX1_findFirst 26 = .ok (.iload 4, 2) := by decide +kernel
theorem dX1_findFirst_28 : decode cX1_findFirst 28 = .ok (.imul, 1) := by decide +kernel
theorem dX1_findFirst_29 : decode cX1_findFirst 29 = .ok (.iconst 0, 1) := by decide +kernel
theorem dX1_findFirst_30 : decode cX1_findFirst 30 = .ok (.invokevirtual 75, 3) := by decide +kernel
theorem dX1_findFirst_33 : decode cX1_findFirst 33 = .ok (.iload_n 3, 1) := by decide +kernel
theorem dX1_findFirst_34 : decode cX1_findFirst 34 = .ok (.ixor, 1) := by decide +kernel
theorem dX1_findFirst_35 : decode cX1_findFirst 35 = .ok (.iadd, 1) := by decide +kernel
theorem dX1_findFirst_36 : decode cX1_findFirst 36 = .ok (.istore 5, 2) := by decide +kernel
theorem dX1_findFirst_38 : decode cX1_findFirst 38 = .ok (.aload_n 0, 1) := by decide +kernel
theorem dX1_findFirst_39 : decode cX1_findFirst 39 = .ok (.iload 5, 2) := by decide +kernel
theorem dX1_findFirst_41 : decode cX1_findFirst 41 = .ok (.iload_n 2, 1) := by decide +kernel
theorem dX1_findFirst_42 : decode cX1_findFirst 42 = .ok (.invokevirtual 78, 3) := by decide +kernel
theorem dX1_findFirst_45 : decode cX1_findFirst 45 = .ok (.iconst (-1), 1) := by decide +kernel
theorem dX1_findFirst_46 : decode cX1_findFirst 46 = .ok (.if_icmp .ne 6, 3) := by decide +kernel
theorem dX1_findFirst_49 : decode cX1_findFirst 49 = .ok (.iload 5, 2) := by decide +kernel
theorem dX1_findFirst_51 : decode cX1_findFirst 51 = .ok (.ireturn, 1) := by decide +kernel
theorem dX1_findFirst_52 : decode cX1_findFirst 52 = .ok (.iinc 4 1, 3) := by decide +kernel
theorem dX1_findFirst_55 : decode cX1_findFirst 55 = .ok (.goto (-41), 3) := by decide +kernel
theorem dX1_findFirst_58 : decode cX1_findFirst 58 = .ok (.iload_n 2, 1) := by decide +kernel
theorem dX1_findFirst_59 : decode cX1_findFirst 59 = .ok (.ireturn, 1) := by decide +kernel
theorem dX1_isLeast_0 : decode cX1_isLeast 0 = .ok (.aload_n 0, 1) := by decide +kernel
theorem dX1_isLeast_1 : decode cX1_isLeast 1 = .ok (.getfield 19, 3) := by decide +kernel
theorem dX1_isLeast_4 : decode cX1_isLeast 4 = .ok (.iload_n 1, 1) := by decide +kernel
theorem dX1_isLeast_5 : decode cX1_isLeast 5 = .ok (.iaload, 1) := by decide +kernel
theorem dX1_isLeast_6 : decode cX1_isLeast 6 = .ok (.iconst 2, 1) := by decide +kernel
theorem dX1_isLeast_7 : decode cX1_isLeast 7 = .ok (.iload_n 1, 1) := by decide +kernel
theorem dX1_isLeast_8 : decode cX1_isLeast 8 = .ok (.imul, 1) := by decide +kernel
theorem dX1_isLeast_9 : decode cX1_isLeast 9 = .ok (.if_icmp .ne 7, 3) := by decide +kernel
theorem dX1_isLeast_12 : decode cX1_isLeast 12 = .ok (.iconst 1, 1) := by decide +kernel
theorem dX1_isLeast_13 : decode cX1_isLeast 13 = .ok (.goto 4, 3) := by decide +kernel
theorem dX1_isLeast_16 : decode cX1_isLeast 16 = .ok (.iconst 0, 1) := by decide +kernel
theorem dX1_isLeast_17 : decode cX1_isLeast 17 = .ok (.ireturn, 1) := by decide +kernel
theorem dX1_hangsOn_0 : decode cX1_hangsOn 0 = .ok (.iconst 0, 1) := by decide +kernel
theorem dX1_hangsOn_1 : decode cX1_hangsOn 1 = .ok (.istore_n 3, 1) := by decide +kernel
theorem dX1_hangsOn_2 : decode cX1_hangsOn 2 = .ok (.iload_n 3, 1) := by decide +kernel
theorem dX1_hangsOn_3 : decode cX1_hangsOn 3 = .ok (.bipush 64, 2) := by decide +kernel
theorem dX1_hangsOn_5 : decode cX1_hangsOn 5 = .ok (.if_icmp .ge 21, 3) := by decide +kernel
theorem dX1_hangsOn_8 : decode cX1_hangsOn 8 = .ok (.aload_n 0, 1) := by decide +kernel
theorem dX1_hangsOn_9 : decode cX1_hangsOn 9 = .ok (.iload_n 1, 1) := by decide +kernel
theorem dX1_hangsOn_10 : decode cX1_hangsOn 10 = .ok (.iload_n 2, 1) := by decide +kernel
theorem dX1_hangsOn_11 : decode cX1_hangsOn 11 = .ok (.iload_n 3, 1) := by decide +kernel
theorem dX1_hangsOn_12 : decode cX1_hangsOn 12 = .ok (.invokevirtual 81, 3) := by decide +kernel
theorem dX1_hangsOn_15 : decode cX1_hangsOn 15 = .ok (.ifCond .eq 5, 3) := by decide +kernel
theorem dX1_hangsOn_18 : decode cX1_hangsOn 18 = .ok (.iconst 1, 1) := by decide +kernel
theorem dX1_hangsOn_19 : decode cX1_hangsOn 19 = .ok (.ireturn, 1) := by decide +kernel
theorem dX1_hangsOn_20 : decode cX1_hangsOn 20 = .ok (.iinc 3 1, 3) := by decide +kernel
theorem dX1_hangsOn_23 : decode cX1_hangsOn 23 = .ok (.goto (-21), 3) := by decide +kernel
theorem dX1_hangsOn_26 : decode cX1_hangsOn 26 = .ok (.iconst 0, 1) := by decide +kernel
theorem dX1_hangsOn_27 : decode cX1_hangsOn 27 = .ok (.ireturn, 1) := by decide +kernel
theorem dX1_wordHangsOn_0 : decode cX1_wordHangsOn 0 = .ok (.aload_n 0, 1) := by decide +kernel
theorem dX1_wordHangsOn_1 : decode cX1_wordHangsOn 1 = .ok (.iload_n 1, 1) := by decide +kernel
theorem dX1_wordHangsOn_2 : decode cX1_wordHangsOn 2 = .ok (.iload_n 3, 1) := by decide +kernel
theorem dX1_wordHangsOn_3 : decode cX1_wordHangsOn 3 = .ok (.invokevirtual 37, 3) := by decide +kernel
theorem dX1_wordHangsOn_6 : decode cX1_wordHangsOn 6 = .ok (.lstore 4, 2) := by decide +kernel
theorem dX1_wordHangsOn_8 : decode cX1_wordHangsOn 8 = .ok (.iload_n 2, 1) := by decide +kernel
theorem dX1_wordHangsOn_9 : decode cX1_wordHangsOn 9 = .ok (.bipush 6, 2) := by decide +kernel
theorem dX1_wordHangsOn_11 : decode cX1_wordHangsOn 11 = .ok (.if_icmp .lt 28, 3) := by decide +kernel
theorem dX1_wordHangsOn_14 : decode cX1_wordHangsOn 14 = .ok (.lload 4, 2) := by decide +kernel
theorem dX1_wordHangsOn_16 : decode cX1_wordHangsOn 16 = .ok (.aload_n 0, 1) := by decide +kernel
theorem dX1_wordHangsOn_17 : decode cX1_wordHangsOn 17 = .ok (.iload_n 1, 1) := by decide +kernel
theorem dX1_wordHangsOn_18 : decode cX1_wordHangsOn 18 = .ok (.iload_n 3, 1) := by decide +kernel
theorem dX1_wordHangsOn_19 : decode cX1_wordHangsOn 19 = .ok (.iconst 1, 1) := by decide +kernel
theorem dX1_wordHangsOn_20 : decode cX1_wordHangsOn 20 = .ok (.iload_n 2, 1) := by decide +kernel
theorem dX1_wordHangsOn_21 : decode cX1_wordHangsOn 21 = .ok (.bipush 6, 2) := by decide +kernel
theorem dX1_wordHangsOn_23 : decode cX1_wordHangsOn 23 = .ok (.isub, 1) := by decide +kernel
theorem dX1_wordHangsOn_24 : decode cX1_wordHangsOn 24 = .ok (.ishl, 1) := by decide +kernel
theorem dX1_wordHangsOn_25 : decode cX1_wordHangsOn 25 = .ok (.ixor, 1) := by decide +kernel
theorem dX1_wordHangsOn_26 : decode cX1_wordHangsOn 26 = .ok (.invokevirtual 37, 3) := by decide +kernel
theorem dX1_wordHangsOn_29 : decode cX1_wordHangsOn 29 = .ok (.lcmp, 1) := by decide +kernel
theorem dX1_wordHangsOn_30 : decode cX1_wordHangsOn 30 = .ok (.ifCond .eq 7, 3) := by decide +kernel
theorem dX1_wordHangsOn_33 : decode cX1_wordHangsOn 33 = .ok (.iconst 1, 1) := by decide +kernel
theorem dX1_wordHangsOn_34 : decode cX1_wordHangsOn 34 = .ok (.goto 4, 3) := by decide +kernel
theorem dX1_wordHangsOn_37 : decode cX1_wordHangsOn 37 = .ok (.iconst 0, 1) := by decide +kernel
theorem dX1_wordHangsOn_38 : decode cX1_wordHangsOn 38 = .ok (.ireturn, 1) := by decide +kernel
theorem dX1_wordHangsOn_39 : decode cX1_wordHangsOn 39 = .ok (.lload 4, 2) := by decide +kernel
theorem dX1_wordHangsOn_41 : decode cX1_wordHangsOn 41 = .ok (.iconst 1, 1) := by decide +kernel
theorem dX1_wordHangsOn_42 : decode cX1_wordHangsOn 42 = .ok (.iload_n 2, 1) := by decide +kernel
theorem dX1_wordHangsOn_43 : decode cX1_wordHangsOn 43 = .ok (.ishl, 1) := by decide +kernel
theorem dX1_wordHangsOn_44 : decode cX1_wordHangsOn 44 = .ok (.lushr, 1) := by decide +kernel
theorem dX1_wordHangsOn_45 : decode cX1_wordHangsOn 45 = .ok (.lstore 6, 2) := by decide +kernel
theorem dX1_wordHangsOn_47 : decode cX1_wordHangsOn 47 = .ok (.lload 4, 2) := by decide +kernel
theorem dX1_wordHangsOn_49 : decode cX1_wordHangsOn 49 = .ok (.lload 6, 2) := by decide +kernel
theorem dX1_wordHangsOn_51 : decode cX1_wordHangsOn 51 = .ok (.lxor, 1) := by decide +kernel
theorem dX1_wordHangsOn_52 : decode cX1_wordHangsOn 52 = .ok (.getstatic 85, 3) := by decide +kernel
theorem dX1_wordHangsOn_55 : decode cX1_wordHangsOn 55 = .ok (.iload_n 2, 1) := by decide +kernel
theorem dX1_wordHangsOn_56 : decode cX1_wordHangsOn 56 = .ok (.laload, 1) := by decide +kernel
theorem dX1_wordHangsOn_57 : decode cX1_wordHangsOn 57 = .ok (.ldc2_w 88, 3) := by decide +kernel
theorem dX1_wordHangsOn_60 : decode cX1_wordHangsOn 60 = .ok (.lxor, 1) := by decide +kernel
theorem dX1_wordHangsOn_61 : decode cX1_wordHangsOn 61 = .ok (.land, 1) := by decide +kernel
theorem dX1_wordHangsOn_62 : decode cX1_wordHangsOn 62 = .ok (.lconst 0, 1) := by decide +kernel
theorem dX1_wordHangsOn_63 : decode cX1_wordHangsOn 63 = .ok (.lcmp, 1) := by decide +kernel
theorem dX1_wordHangsOn_64 : decode cX1_wordHangsOn 64 = .ok (.ifCond .eq 7, 3) := by decide +kernel
theorem dX1_wordHangsOn_67 : decode cX1_wordHangsOn 67 = .ok (.iconst 1, 1) := by decide +kernel
theorem dX1_wordHangsOn_68 : decode cX1_wordHangsOn 68 = .ok (.goto 4, 3) := by decide +kernel
theorem dX1_wordHangsOn_71 : decode cX1_wordHangsOn 71 = .ok (.iconst 0, 1) := by decide +kernel
theorem dX1_wordHangsOn_72 : decode cX1_wordHangsOn 72 = .ok (.ireturn, 1) := by decide +kernel
theorem dX1_wordOf_0 : decode cX1_wordOf 0 = .ok (.aload_n 0, 1) := by decide +kernel
theorem dX1_wordOf_1 : decode cX1_wordOf 1 = .ok (.getfield 22, 3) := by decide +kernel
theorem dX1_wordOf_4 : decode cX1_wordOf 4 = .ok (.iload_n 1, 1) := by decide +kernel
theorem dX1_wordOf_5 : decode cX1_wordOf 5 = .ok (.iconst 1, 1) := by decide +kernel
theorem dX1_wordOf_6 : decode cX1_wordOf 6 = .ok (.ishr, 1) := by decide +kernel
theorem dX1_wordOf_7 : decode cX1_wordOf 7 = .ok (.bipush 64, 2) := by decide +kernel
theorem dX1_wordOf_9 : decode cX1_wordOf 9 = .ok (.imul, 1) := by decide +kernel
theorem dX1_wordOf_10 : decode cX1_wordOf 10 = .ok (.iload_n 2, 1) := by decide +kernel
theorem dX1_wordOf_11 : decode cX1_wordOf 11 = .ok (.iadd, 1) := by decide +kernel
theorem dX1_wordOf_12 : decode cX1_wordOf 12 = .ok (.laload, 1) := by decide +kernel
theorem dX1_wordOf_13 : decode cX1_wordOf 13 = .ok (.lstore_n 3, 1) := by decide +kernel
theorem dX1_wordOf_14 : decode cX1_wordOf 14 = .ok (.iload_n 1, 1) := by decide +kernel
theorem dX1_wordOf_15 : decode cX1_wordOf 15 = .ok (.iconst 1, 1) := by decide +kernel
theorem dX1_wordOf_16 : decode cX1_wordOf 16 = .ok (.iand, 1) := by decide +kernel
theorem dX1_wordOf_17 : decode cX1_wordOf 17 = .ok (.iconst 1, 1) := by decide +kernel
theorem dX1_wordOf_18 : decode cX1_wordOf 18 = .ok (.if_icmp .ne 11, 3) := by decide +kernel
theorem dX1_wordOf_21 : decode cX1_wordOf 21 = .ok (.lload_n 3, 1) := by decide +kernel
theorem dX1_wordOf_22 : decode cX1_wordOf 22 = .ok (.ldc2_w 88, 3) := by decide +kernel
theorem dX1_wordOf_25 : decode cX1_wordOf 25 = .ok (.lxor, 1) := by decide +kernel
theorem dX1_wordOf_26 : decode cX1_wordOf 26 = .ok (.goto 4, 3) := by decide +kernel
theorem dX1_wordOf_29 : decode cX1_wordOf 29 = .ok (.lload_n 3, 1) := by decide +kernel
theorem dX1_wordOf_30 : decode cX1_wordOf 30 = .ok (.lreturn, 1) := by decide +kernel
theorem dX1_variableWord_0 : decode cX1_variableWord 0 = .ok (.iload_n 0, 1) := by decide +kernel
theorem dX1_variableWord_1 : decode cX1_variableWord 1 = .ok (.bipush 6, 2) := by decide +kernel
theorem dX1_variableWord_3 : decode cX1_variableWord 3 = .ok (.if_icmp .ge 9, 3) := by decide +kernel
theorem dX1_variableWord_6 : decode cX1_variableWord 6 = .ok (.getstatic 85, 3) := by decide +kernel
theorem dX1_variableWord_9 : decode cX1_variableWord 9 = .ok (.iload_n 0, 1) := by decide +kernel
theorem dX1_variableWord_10 : decode cX1_variableWord 10 = .ok (.laload, 1) := by decide +kernel
theorem dX1_variableWord_11 : decode cX1_variableWord 11 = .ok (.lreturn, 1) := by decide +kernel
theorem dX1_variableWord_12 : decode cX1_variableWord 12 = .ok (.iload_n 1, 1) := by decide +kernel
theorem dX1_variableWord_13 : decode cX1_variableWord 13 = .ok (.iload_n 0, 1) := by decide +kernel
theorem dX1_variableWord_14 : decode cX1_variableWord 14 = .ok (.bipush 6, 2) := by decide +kernel
theorem dX1_variableWord_16 : decode cX1_variableWord 16 = .ok (.isub, 1) := by decide +kernel
theorem dX1_variableWord_17 : decode cX1_variableWord 17 = .ok (.ishr, 1) := by decide +kernel
theorem dX1_variableWord_18 : decode cX1_variableWord 18 = .ok (.iconst 1, 1) := by decide +kernel
theorem dX1_variableWord_19 : decode cX1_variableWord 19 = .ok (.iand, 1) := by decide +kernel
theorem dX1_variableWord_20 : decode cX1_variableWord 20 = .ok (.iconst 1, 1) := by decide +kernel
theorem dX1_variableWord_21 : decode cX1_variableWord 21 = .ok (.if_icmp .ne 9, 3) := by decide +kernel
theorem dX1_variableWord_24 : decode cX1_variableWord 24 = .ok (.ldc2_w 88, 3) := by decide +kernel
theorem dX1_variableWord_27 : decode cX1_variableWord 27 = .ok (.goto 4, 3) := by decide +kernel
theorem dX1_variableWord_30 : decode cX1_variableWord 30 = .ok (.lconst 0, 1) := by decide +kernel
theorem dX1_variableWord_31 : decode cX1_variableWord 31 = .ok (.lreturn, 1) := by decide +kernel
theorem dJ6_numberOfTrailingZeros_0f7a4_0 : decode cJ6_numberOfTrailingZeros_0f7a4 0 = .ok (.iload_n 0, 1) := by decide +kernel
theorem dJ6_numberOfTrailingZeros_0f7a4_1 : decode cJ6_numberOfTrailingZeros_0f7a4 1 = .ok (.iconst (-1), 1) := by decide +kernel
theorem dJ6_numberOfTrailingZeros_0f7a4_2 : decode cJ6_numberOfTrailingZeros_0f7a4 2 = .ok (.ixor, 1) := by decide +kernel
theorem dJ6_numberOfTrailingZeros_0f7a4_3 : decode cJ6_numberOfTrailingZeros_0f7a4 3 = .ok (.iload_n 0, 1) := by decide +kernel
theorem dJ6_numberOfTrailingZeros_0f7a4_4 : decode cJ6_numberOfTrailingZeros_0f7a4 4 = .ok (.iconst 1, 1) := by decide +kernel
theorem dJ6_numberOfTrailingZeros_0f7a4_5 : decode cJ6_numberOfTrailingZeros_0f7a4 5 = .ok (.isub, 1) := by decide +kernel
theorem dJ6_numberOfTrailingZeros_0f7a4_6 : decode cJ6_numberOfTrailingZeros_0f7a4 6 = .ok (.iand, 1) := by decide +kernel
theorem dJ6_numberOfTrailingZeros_0f7a4_7 : decode cJ6_numberOfTrailingZeros_0f7a4 7 = .ok (.istore_n 0, 1) := by decide +kernel
theorem dJ6_numberOfTrailingZeros_0f7a4_8 : decode cJ6_numberOfTrailingZeros_0f7a4 8 = .ok (.iload_n 0, 1) := by decide +kernel
theorem dJ6_numberOfTrailingZeros_0f7a4_9 : decode cJ6_numberOfTrailingZeros_0f7a4 9 = .ok (.ifCond .gt 8, 3) := by decide +kernel
theorem dJ6_numberOfTrailingZeros_0f7a4_12 : decode cJ6_numberOfTrailingZeros_0f7a4 12 = .ok (.iload_n 0, 1) := by decide +kernel
theorem dJ6_numberOfTrailingZeros_0f7a4_13 : decode cJ6_numberOfTrailingZeros_0f7a4 13 = .ok (.bipush 32, 2) := by decide +kernel
theorem dJ6_numberOfTrailingZeros_0f7a4_15 : decode cJ6_numberOfTrailingZeros_0f7a4 15 = .ok (.iand, 1) := by decide +kernel
theorem dJ6_numberOfTrailingZeros_0f7a4_16 : decode cJ6_numberOfTrailingZeros_0f7a4 16 = .ok (.ireturn, 1) := by decide +kernel
theorem dJ6_numberOfTrailingZeros_0f7a4_17 : decode cJ6_numberOfTrailingZeros_0f7a4 17 = .ok (.iconst 1, 1) := by decide +kernel
theorem dJ6_numberOfTrailingZeros_0f7a4_18 : decode cJ6_numberOfTrailingZeros_0f7a4 18 = .ok (.istore_n 1, 1) := by decide +kernel
theorem dJ6_numberOfTrailingZeros_0f7a4_19 : decode cJ6_numberOfTrailingZeros_0f7a4 19 = .ok (.iload_n 0, 1) := by decide +kernel
theorem dJ6_numberOfTrailingZeros_0f7a4_20 : decode cJ6_numberOfTrailingZeros_0f7a4 20 = .ok (.ldc_w 264, 3) := by decide +kernel
theorem dJ6_numberOfTrailingZeros_0f7a4_23 : decode cJ6_numberOfTrailingZeros_0f7a4 23 = .ok (.if_icmp .le 11, 3) := by decide +kernel
theorem dJ6_numberOfTrailingZeros_0f7a4_26 : decode cJ6_numberOfTrailingZeros_0f7a4 26 = .ok (.iinc 1 16, 3) := by decide +kernel
theorem dJ6_numberOfTrailingZeros_0f7a4_29 : decode cJ6_numberOfTrailingZeros_0f7a4 29 = .ok (.iload_n 0, 1) := by decide +kernel
theorem dJ6_numberOfTrailingZeros_0f7a4_30 : decode cJ6_numberOfTrailingZeros_0f7a4 30 = .ok (.bipush 16, 2) := by decide +kernel
theorem dJ6_numberOfTrailingZeros_0f7a4_32 : decode cJ6_numberOfTrailingZeros_0f7a4 32 = .ok (.iushr, 1) := by decide +kernel
theorem dJ6_numberOfTrailingZeros_0f7a4_33 : decode cJ6_numberOfTrailingZeros_0f7a4 33 = .ok (.istore_n 0, 1) := by decide +kernel
theorem dJ6_numberOfTrailingZeros_0f7a4_34 : decode cJ6_numberOfTrailingZeros_0f7a4 34 = .ok (.iload_n 0, 1) := by decide +kernel
theorem dJ6_numberOfTrailingZeros_0f7a4_35 : decode cJ6_numberOfTrailingZeros_0f7a4 35 = .ok (.sipush 256, 3) := by decide +kernel
theorem dJ6_numberOfTrailingZeros_0f7a4_38 : decode cJ6_numberOfTrailingZeros_0f7a4 38 = .ok (.if_icmp .le 11, 3) := by decide +kernel
theorem dJ6_numberOfTrailingZeros_0f7a4_41 : decode cJ6_numberOfTrailingZeros_0f7a4 41 = .ok (.iinc 1 8, 3) := by decide +kernel
theorem dJ6_numberOfTrailingZeros_0f7a4_44 : decode cJ6_numberOfTrailingZeros_0f7a4 44 = .ok (.iload_n 0, 1) := by decide +kernel
theorem dJ6_numberOfTrailingZeros_0f7a4_45 : decode cJ6_numberOfTrailingZeros_0f7a4 45 = .ok (.bipush 8, 2) := by decide +kernel
theorem dJ6_numberOfTrailingZeros_0f7a4_47 : decode cJ6_numberOfTrailingZeros_0f7a4 47 = .ok (.iushr, 1) := by decide +kernel
theorem dJ6_numberOfTrailingZeros_0f7a4_48 : decode cJ6_numberOfTrailingZeros_0f7a4 48 = .ok (.istore_n 0, 1) := by decide +kernel
theorem dJ6_numberOfTrailingZeros_0f7a4_49 : decode cJ6_numberOfTrailingZeros_0f7a4 49 = .ok (.iload_n 0, 1) := by decide +kernel
theorem dJ6_numberOfTrailingZeros_0f7a4_50 : decode cJ6_numberOfTrailingZeros_0f7a4 50 = .ok (.bipush 16, 2) := by decide +kernel
theorem dJ6_numberOfTrailingZeros_0f7a4_52 : decode cJ6_numberOfTrailingZeros_0f7a4 52 = .ok (.if_icmp .le 10, 3) := by decide +kernel
theorem dJ6_numberOfTrailingZeros_0f7a4_55 : decode cJ6_numberOfTrailingZeros_0f7a4 55 = .ok (.iinc 1 4, 3) := by decide +kernel
theorem dJ6_numberOfTrailingZeros_0f7a4_58 : decode cJ6_numberOfTrailingZeros_0f7a4 58 = .ok (.iload_n 0, 1) := by decide +kernel
theorem dJ6_numberOfTrailingZeros_0f7a4_59 : decode cJ6_numberOfTrailingZeros_0f7a4 59 = .ok (.iconst 4, 1) := by decide +kernel
theorem dJ6_numberOfTrailingZeros_0f7a4_60 : decode cJ6_numberOfTrailingZeros_0f7a4 60 = .ok (.iushr, 1) := by decide +kernel
theorem dJ6_numberOfTrailingZeros_0f7a4_61 : decode cJ6_numberOfTrailingZeros_0f7a4 61 = .ok (.istore_n 0, 1) := by decide +kernel
theorem dJ6_numberOfTrailingZeros_0f7a4_62 : decode cJ6_numberOfTrailingZeros_0f7a4 62 = .ok (.iload_n 0, 1) := by decide +kernel
theorem dJ6_numberOfTrailingZeros_0f7a4_63 : decode cJ6_numberOfTrailingZeros_0f7a4 63 = .ok (.iconst 4, 1) := by decide +kernel
theorem dJ6_numberOfTrailingZeros_0f7a4_64 : decode cJ6_numberOfTrailingZeros_0f7a4 64 = .ok (.if_icmp .le 10, 3) := by decide +kernel
theorem dJ6_numberOfTrailingZeros_0f7a4_67 : decode cJ6_numberOfTrailingZeros_0f7a4 67 = .ok (.iinc 1 2, 3) := by decide +kernel
theorem dJ6_numberOfTrailingZeros_0f7a4_70 : decode cJ6_numberOfTrailingZeros_0f7a4 70 = .ok (.iload_n 0, 1) := by decide +kernel
theorem dJ6_numberOfTrailingZeros_0f7a4_71 : decode cJ6_numberOfTrailingZeros_0f7a4 71 = .ok (.iconst 2, 1) := by decide +kernel
theorem dJ6_numberOfTrailingZeros_0f7a4_72 : decode cJ6_numberOfTrailingZeros_0f7a4 72 = .ok (.iushr, 1) := by decide +kernel
theorem dJ6_numberOfTrailingZeros_0f7a4_73 : decode cJ6_numberOfTrailingZeros_0f7a4 73 = .ok (.istore_n 0, 1) := by decide +kernel
theorem dJ6_numberOfTrailingZeros_0f7a4_74 : decode cJ6_numberOfTrailingZeros_0f7a4 74 = .ok (.iload_n 1, 1) := by decide +kernel
theorem dJ6_numberOfTrailingZeros_0f7a4_75 : decode cJ6_numberOfTrailingZeros_0f7a4 75 = .ok (.iload_n 0, 1) := by decide +kernel
theorem dJ6_numberOfTrailingZeros_0f7a4_76 : decode cJ6_numberOfTrailingZeros_0f7a4 76 = .ok (.iconst 1, 1) := by decide +kernel
theorem dJ6_numberOfTrailingZeros_0f7a4_77 : decode cJ6_numberOfTrailingZeros_0f7a4 77 = .ok (.iushr, 1) := by decide +kernel
theorem dJ6_numberOfTrailingZeros_0f7a4_78 : decode cJ6_numberOfTrailingZeros_0f7a4 78 = .ok (.iadd, 1) := by decide +kernel
theorem dJ6_numberOfTrailingZeros_0f7a4_79 : decode cJ6_numberOfTrailingZeros_0f7a4 79 = .ok (.ireturn, 1) := by decide +kernel
theorem dJ13_numberOfTrailingZeros_95d88_0 : decode cJ13_numberOfTrailingZeros_95d88 0 = .ok (.lload_n 0, 1) := by decide +kernel
theorem dJ13_numberOfTrailingZeros_95d88_1 : decode cJ13_numberOfTrailingZeros_95d88 1 = .ok (.l2i, 1) := by decide +kernel
theorem dJ13_numberOfTrailingZeros_95d88_2 : decode cJ13_numberOfTrailingZeros_95d88 2 = .ok (.istore_n 2, 1) := by decide +kernel
theorem dJ13_numberOfTrailingZeros_95d88_3 : decode cJ13_numberOfTrailingZeros_95d88 3 = .ok (.iload_n 2, 1) := by decide +kernel
theorem dJ13_numberOfTrailingZeros_95d88_4 : decode cJ13_numberOfTrailingZeros_95d88 4 = .ok (.ifCond .ne 17, 3) := by decide +kernel
theorem dJ13_numberOfTrailingZeros_95d88_7 : decode cJ13_numberOfTrailingZeros_95d88 7 = .ok (.bipush 32, 2) := by decide +kernel
theorem dJ13_numberOfTrailingZeros_95d88_9 : decode cJ13_numberOfTrailingZeros_95d88 9 = .ok (.lload_n 0, 1) := by decide +kernel
theorem dJ13_numberOfTrailingZeros_95d88_10 : decode cJ13_numberOfTrailingZeros_95d88 10 = .ok (.bipush 32, 2) := by decide +kernel
theorem dJ13_numberOfTrailingZeros_95d88_12 : decode cJ13_numberOfTrailingZeros_95d88 12 = .ok (.lushr, 1) := by decide +kernel
theorem dJ13_numberOfTrailingZeros_95d88_13 : decode cJ13_numberOfTrailingZeros_95d88 13 = .ok (.l2i, 1) := by decide +kernel
theorem dJ13_numberOfTrailingZeros_95d88_14 : decode cJ13_numberOfTrailingZeros_95d88 14 = .ok (.invokestatic 311, 3) := by decide +kernel
theorem dJ13_numberOfTrailingZeros_95d88_17 : decode cJ13_numberOfTrailingZeros_95d88 17 = .ok (.iadd, 1) := by decide +kernel
theorem dJ13_numberOfTrailingZeros_95d88_18 : decode cJ13_numberOfTrailingZeros_95d88 18 = .ok (.goto 7, 3) := by decide +kernel
theorem dJ13_numberOfTrailingZeros_95d88_21 : decode cJ13_numberOfTrailingZeros_95d88 21 = .ok (.iload_n 2, 1) := by decide +kernel
theorem dJ13_numberOfTrailingZeros_95d88_22 : decode cJ13_numberOfTrailingZeros_95d88 22 = .ok (.invokestatic 311, 3) := by decide +kernel
theorem dJ13_numberOfTrailingZeros_95d88_25 : decode cJ13_numberOfTrailingZeros_95d88 25 = .ok (.ireturn, 1) := by decide +kernel
theorem dJ13_bitCount_95d88_0 : decode cJ13_bitCount_95d88 0 = .ok (.lload_n 0, 1) := by decide +kernel
theorem dJ13_bitCount_95d88_1 : decode cJ13_bitCount_95d88 1 = .ok (.lload_n 0, 1) := by decide +kernel
theorem dJ13_bitCount_95d88_2 : decode cJ13_bitCount_95d88 2 = .ok (.iconst 1, 1) := by decide +kernel
theorem dJ13_bitCount_95d88_3 : decode cJ13_bitCount_95d88 3 = .ok (.lushr, 1) := by decide +kernel
theorem dJ13_bitCount_95d88_4 : decode cJ13_bitCount_95d88 4 = .ok (.ldc2_w 314, 3) := by decide +kernel
theorem dJ13_bitCount_95d88_7 : decode cJ13_bitCount_95d88 7 = .ok (.land, 1) := by decide +kernel
theorem dJ13_bitCount_95d88_8 : decode cJ13_bitCount_95d88 8 = .ok (.lsub, 1) := by decide +kernel
theorem dJ13_bitCount_95d88_9 : decode cJ13_bitCount_95d88 9 = .ok (.lstore_n 0, 1) := by decide +kernel
theorem dJ13_bitCount_95d88_10 : decode cJ13_bitCount_95d88 10 = .ok (.lload_n 0, 1) := by decide +kernel
theorem dJ13_bitCount_95d88_11 : decode cJ13_bitCount_95d88 11 = .ok (.ldc2_w 316, 3) := by decide +kernel
theorem dJ13_bitCount_95d88_14 : decode cJ13_bitCount_95d88 14 = .ok (.land, 1) := by decide +kernel
theorem dJ13_bitCount_95d88_15 : decode cJ13_bitCount_95d88 15 = .ok (.lload_n 0, 1) := by decide +kernel
theorem dJ13_bitCount_95d88_16 : decode cJ13_bitCount_95d88 16 = .ok (.iconst 2, 1) := by decide +kernel
theorem dJ13_bitCount_95d88_17 : decode cJ13_bitCount_95d88 17 = .ok (.lushr, 1) := by decide +kernel
theorem dJ13_bitCount_95d88_18 : decode cJ13_bitCount_95d88 18 = .ok (.ldc2_w 316, 3) := by decide +kernel
theorem dJ13_bitCount_95d88_21 : decode cJ13_bitCount_95d88 21 = .ok (.land, 1) := by decide +kernel
theorem dJ13_bitCount_95d88_22 : decode cJ13_bitCount_95d88 22 = .ok (.ladd, 1) := by decide +kernel
theorem dJ13_bitCount_95d88_23 : decode cJ13_bitCount_95d88 23 = .ok (.lstore_n 0, 1) := by decide +kernel
theorem dJ13_bitCount_95d88_24 : decode cJ13_bitCount_95d88 24 = .ok (.lload_n 0, 1) := by decide +kernel
theorem dJ13_bitCount_95d88_25 : decode cJ13_bitCount_95d88 25 = .ok (.lload_n 0, 1) := by decide +kernel
theorem dJ13_bitCount_95d88_26 : decode cJ13_bitCount_95d88 26 = .ok (.iconst 4, 1) := by decide +kernel
theorem dJ13_bitCount_95d88_27 : decode cJ13_bitCount_95d88 27 = .ok (.lushr, 1) := by decide +kernel
theorem dJ13_bitCount_95d88_28 : decode cJ13_bitCount_95d88 28 = .ok (.ladd, 1) := by decide +kernel
theorem dJ13_bitCount_95d88_29 : decode cJ13_bitCount_95d88 29 = .ok (.ldc2_w 318, 3) := by decide +kernel
theorem dJ13_bitCount_95d88_32 : decode cJ13_bitCount_95d88 32 = .ok (.land, 1) := by decide +kernel
theorem dJ13_bitCount_95d88_33 : decode cJ13_bitCount_95d88 33 = .ok (.lstore_n 0, 1) := by decide +kernel
theorem dJ13_bitCount_95d88_34 : decode cJ13_bitCount_95d88 34 = .ok (.lload_n 0, 1) := by decide +kernel
theorem dJ13_bitCount_95d88_35 : decode cJ13_bitCount_95d88 35 = .ok (.lload_n 0, 1) := by decide +kernel
theorem dJ13_bitCount_95d88_36 : decode cJ13_bitCount_95d88 36 = .ok (.bipush 8, 2) := by decide +kernel
theorem dJ13_bitCount_95d88_38 : decode cJ13_bitCount_95d88 38 = .ok (.lushr, 1) := by decide +kernel
theorem dJ13_bitCount_95d88_39 : decode cJ13_bitCount_95d88 39 = .ok (.ladd, 1) := by decide +kernel
theorem dJ13_bitCount_95d88_40 : decode cJ13_bitCount_95d88 40 = .ok (.lstore_n 0, 1) := by decide +kernel
theorem dJ13_bitCount_95d88_41 : decode cJ13_bitCount_95d88 41 = .ok (.lload_n 0, 1) := by decide +kernel
theorem dJ13_bitCount_95d88_42 : decode cJ13_bitCount_95d88 42 = .ok (.lload_n 0, 1) := by decide +kernel
theorem dJ13_bitCount_95d88_43 : decode cJ13_bitCount_95d88 43 = .ok (.bipush 16, 2) := by decide +kernel
theorem dJ13_bitCount_95d88_45 : decode cJ13_bitCount_95d88 45 = .ok (.lushr, 1) := by decide +kernel
theorem dJ13_bitCount_95d88_46 : decode cJ13_bitCount_95d88 46 = .ok (.ladd, 1) := by decide +kernel
theorem dJ13_bitCount_95d88_47 : decode cJ13_bitCount_95d88 47 = .ok (.lstore_n 0, 1) := by decide +kernel
theorem dJ13_bitCount_95d88_48 : decode cJ13_bitCount_95d88 48 = .ok (.lload_n 0, 1) := by decide +kernel
theorem dJ13_bitCount_95d88_49 : decode cJ13_bitCount_95d88 49 = .ok (.lload_n 0, 1) := by decide +kernel
theorem dJ13_bitCount_95d88_50 : decode cJ13_bitCount_95d88 50 = .ok (.bipush 32, 2) := by decide +kernel
theorem dJ13_bitCount_95d88_52 : decode cJ13_bitCount_95d88 52 = .ok (.lushr, 1) := by decide +kernel
theorem dJ13_bitCount_95d88_53 : decode cJ13_bitCount_95d88 53 = .ok (.ladd, 1) := by decide +kernel
theorem dJ13_bitCount_95d88_54 : decode cJ13_bitCount_95d88 54 = .ok (.lstore_n 0, 1) := by decide +kernel
theorem dJ13_bitCount_95d88_55 : decode cJ13_bitCount_95d88 55 = .ok (.lload_n 0, 1) := by decide +kernel
theorem dJ13_bitCount_95d88_56 : decode cJ13_bitCount_95d88 56 = .ok (.l2i, 1) := by decide +kernel
theorem dJ13_bitCount_95d88_57 : decode cJ13_bitCount_95d88 57 = .ok (.bipush 127, 2) := by decide +kernel
theorem dJ13_bitCount_95d88_59 : decode cJ13_bitCount_95d88 59 = .ok (.iand, 1) := by decide +kernel
theorem dJ13_bitCount_95d88_60 : decode cJ13_bitCount_95d88 60 = .ok (.ireturn, 1) := by decide +kernel
theorem dJ9_min_7cf53_0 : decode cJ9_min_7cf53 0 = .ok (.iload_n 0, 1) := by decide +kernel
theorem dJ9_min_7cf53_1 : decode cJ9_min_7cf53 1 = .ok (.iload_n 1, 1) := by decide +kernel
theorem dJ9_min_7cf53_2 : decode cJ9_min_7cf53 2 = .ok (.if_icmp .gt 7, 3) := by decide +kernel
theorem dJ9_min_7cf53_5 : decode cJ9_min_7cf53 5 = .ok (.iload_n 0, 1) := by decide +kernel
theorem dJ9_min_7cf53_6 : decode cJ9_min_7cf53 6 = .ok (.goto 4, 3) := by decide +kernel
theorem dJ9_min_7cf53_9 : decode cJ9_min_7cf53 9 = .ok (.iload_n 1, 1) := by decide +kernel
theorem dJ9_min_7cf53_10 : decode cJ9_min_7cf53 10 = .ok (.ireturn, 1) := by decide +kernel
theorem dJ7_copyOf_c38d5_0 : decode cJ7_copyOf_c38d5 0 = .ok (.iload_n 1, 1) := by decide +kernel
theorem dJ7_copyOf_c38d5_1 : decode cJ7_copyOf_c38d5 1 = .ok (.aload_n 0, 1) := by decide +kernel
theorem dJ7_copyOf_c38d5_2 : decode cJ7_copyOf_c38d5 2 = .ok (.arraylength, 1) := by decide +kernel
theorem dJ7_copyOf_c38d5_3 : decode cJ7_copyOf_c38d5 3 = .ok (.if_icmp .ne 11, 3) := by decide +kernel
theorem dJ7_copyOf_c38d5_6 : decode cJ7_copyOf_c38d5 6 = .ok (.aload_n 0, 1) := by decide +kernel
theorem dJ7_copyOf_c38d5_7 : decode cJ7_copyOf_c38d5 7 = .ok (.invokevirtual 319, 3) := by decide +kernel
theorem dJ7_copyOf_c38d5_10 : decode cJ7_copyOf_c38d5 10 = .ok (.checkcast 320, 3) := by decide +kernel
theorem dJ7_copyOf_c38d5_13 : decode cJ7_copyOf_c38d5 13 = .ok (.areturn, 1) := by decide +kernel
theorem dJ7_copyOf_c38d5_14 : decode cJ7_copyOf_c38d5 14 = .ok (.iload_n 1, 1) := by decide +kernel
theorem dJ7_copyOf_c38d5_15 : decode cJ7_copyOf_c38d5 15 = .ok (.newarray .long, 2) := by decide +kernel
theorem dJ7_copyOf_c38d5_17 : decode cJ7_copyOf_c38d5 17 = .ok (.astore_n 2, 1) := by decide +kernel
theorem dJ7_copyOf_c38d5_18 : decode cJ7_copyOf_c38d5 18 = .ok (.aload_n 0, 1) := by decide +kernel
theorem dJ7_copyOf_c38d5_19 : decode cJ7_copyOf_c38d5 19 = .ok (.iconst 0, 1) := by decide +kernel
theorem dJ7_copyOf_c38d5_20 : decode cJ7_copyOf_c38d5 20 = .ok (.aload_n 2, 1) := by decide +kernel
theorem dJ7_copyOf_c38d5_21 : decode cJ7_copyOf_c38d5 21 = .ok (.iconst 0, 1) := by decide +kernel
theorem dJ7_copyOf_c38d5_22 : decode cJ7_copyOf_c38d5 22 = .ok (.aload_n 0, 1) := by decide +kernel
theorem dJ7_copyOf_c38d5_23 : decode cJ7_copyOf_c38d5 23 = .ok (.arraylength, 1) := by decide +kernel
theorem dJ7_copyOf_c38d5_24 : decode cJ7_copyOf_c38d5 24 = .ok (.iload_n 1, 1) := by decide +kernel
theorem dJ7_copyOf_c38d5_25 : decode cJ7_copyOf_c38d5 25 = .ok (.invokestatic 304, 3) := by decide +kernel
theorem dJ7_copyOf_c38d5_28 : decode cJ7_copyOf_c38d5 28 = .ok (.invokestatic 150, 3) := by decide +kernel
theorem dJ7_copyOf_c38d5_31 : decode cJ7_copyOf_c38d5 31 = .ok (.aload_n 2, 1) := by decide +kernel
theorem dJ7_copyOf_c38d5_32 : decode cJ7_copyOf_c38d5 32 = .ok (.areturn, 1) := by decide +kernel
