theorem dX0_init_0 : decode cX0_init 0 = .ok (.aload_n 0, 1) := by decide +kernel
theorem dX0_init_1 : decode cX0_init 1 = .ok (.invokespecial 3, 3) := by decide +kernel
theorem dX0_init_4 : decode cX0_init 4 = .ok (.aload_n 0, 1) := by decide +kernel
theorem dX0_init_5 : decode cX0_init 5 = .ok (.bipush 16, 2) := by decide +kernel
theorem dX0_init_7 : decode cX0_init 7 = .ok (.newarray .int, 2) := by decide +kernel
theorem dX0_init_9 : decode cX0_init 9 = .ok (.putfield 9, 3) := by decide +kernel
theorem dX0_init_12 : decode cX0_init 12 = .ok (.aload_n 0, 1) := by decide +kernel
theorem dX0_init_13 : decode cX0_init 13 = .ok (.iconst 4, 1) := by decide +kernel
theorem dX0_init_14 : decode cX0_init 14 = .ok (.newarray .int, 2) := by decide +kernel
theorem dX0_init_16 : decode cX0_init 16 = .ok (.putfield 15, 3) := by decide +kernel
theorem dX0_init_19 : decode cX0_init 19 = .ok (.aload_n 0, 1) := by decide +kernel
theorem dX0_init_20 : decode cX0_init 20 = .ok (.bipush 16, 2) := by decide +kernel
theorem dX0_init_22 : decode cX0_init 22 = .ok (.newarray .int, 2) := by decide +kernel
theorem dX0_init_24 : decode cX0_init 24 = .ok (.putfield 18, 3) := by decide +kernel
theorem dX0_init_27 : decode cX0_init 27 = .ok (.return_, 1) := by decide +kernel
theorem dX0_forget_0 : decode cX0_forget 0 = .ok (.aload_n 0, 1) := by decide +kernel
theorem dX0_forget_1 : decode cX0_forget 1 = .ok (.iconst 0, 1) := by decide +kernel
theorem dX0_forget_2 : decode cX0_forget 2 = .ok (.putfield 21, 3) := by decide +kernel
theorem dX0_forget_5 : decode cX0_forget 5 = .ok (.aload_n 0, 1) := by decide +kernel
theorem dX0_forget_6 : decode cX0_forget 6 = .ok (.iconst 0, 1) := by decide +kernel
theorem dX0_forget_7 : decode cX0_forget 7 = .ok (.putfield 25, 3) := by decide +kernel
theorem dX0_forget_10 : decode cX0_forget 10 = .ok (.return_, 1) := by decide +kernel
theorem dX0_addLatch_0 : decode cX0_addLatch 0 = .ok (.aload_n 0, 1) := by decide +kernel
theorem dX0_addLatch_1 : decode cX0_addLatch 1 = .ok (.dup, 1) := by decide +kernel
theorem dX0_addLatch_2 : decode cX0_addLatch 2 = .ok (.getfield 25, 3) := by decide +kernel
theorem dX0_addLatch_5 : decode cX0_addLatch 5 = .ok (.iload_n 2, 1) := by decide +kernel
theorem dX0_addLatch_6 : decode cX0_addLatch 6 = .ok (.iload_n 1, 1) := by decide +kernel
theorem dX0_addLatch_7 : decode cX0_addLatch 7 = .ok (.ishl, 1) := by decide +kernel
theorem dX0_addLatch_8 : decode cX0_addLatch 8 = .ok (.ior, 1) := by decide +kernel
theorem dX0_addLatch_9 : decode cX0_addLatch 9 = .ok (.putfield 25, 3) := by decide +kernel
theorem dX0_addLatch_12 : decode cX0_addLatch 12 = .ok (.aload_n 0, 1) := by decide +kernel
theorem dX0_addLatch_13 : decode cX0_addLatch 13 = .ok (.getfield 15, 3) := by decide +kernel
theorem dX0_addLatch_16 : decode cX0_addLatch 16 = .ok (.iload_n 1, 1) := by decide +kernel
theorem dX0_addLatch_17 : decode cX0_addLatch 17 = .ok (.iload_n 3, 1) := by decide +kernel
theorem dX0_addLatch_18 : decode cX0_addLatch 18 = .ok (.iastore, 1) := by decide +kernel
theorem dX0_addLatch_19 : decode cX0_addLatch 19 = .ok (.return_, 1) := by decide +kernel
theorem dX0_addOutput_0 : decode cX0_addOutput 0 = .ok (.aload_n 0, 1) := by decide +kernel
theorem dX0_addOutput_1 : decode cX0_addOutput 1 = .ok (.getfield 9, 3) := by decide +kernel
theorem dX0_addOutput_4 : decode cX0_addOutput 4 = .ok (.aload_n 0, 1) := by decide +kernel
theorem dX0_addOutput_5 : decode cX0_addOutput 5 = .ok (.getfield 21, 3) := by decide +kernel
theorem dX0_addOutput_8 : decode cX0_addOutput 8 = .ok (.iload_n 1, 1) := by decide +kernel
theorem dX0_addOutput_9 : decode cX0_addOutput 9 = .ok (.iastore, 1) := by decide +kernel
theorem dX0_addOutput_10 : decode cX0_addOutput 10 = .ok (.aload_n 0, 1) := by decide +kernel
theorem dX0_addOutput_11 : decode cX0_addOutput 11 = .ok (.dup, 1) := by decide +kernel
theorem dX0_addOutput_12 : decode cX0_addOutput 12 = .ok (.getfield 21, 3) := by decide +kernel
theorem dX0_addOutput_15 : decode cX0_addOutput 15 = .ok (.iconst 1, 1) := by decide +kernel
theorem dX0_addOutput_16 : decode cX0_addOutput 16 = .ok (.iadd, 1) := by decide +kernel
theorem dX0_addOutput_17 : decode cX0_addOutput 17 = .ok (.putfield 21, 3) := by decide +kernel
theorem dX0_addOutput_20 : decode cX0_addOutput 20 = .ok (.aload_n 0, 1) := by decide +kernel
theorem dX0_addOutput_21 : decode cX0_addOutput 21 = .ok (.getfield 21, 3) := by decide +kernel
theorem dX0_addOutput_24 : decode cX0_addOutput 24 = .ok (.iconst 1, 1) := by decide +kernel
theorem dX0_addOutput_25 : decode cX0_addOutput 25 = .ok (.isub, 1) := by decide +kernel
theorem dX0_addOutput_26 : decode cX0_addOutput 26 = .ok (.ireturn, 1) := by decide +kernel
theorem dX0_backToStarts_0 : decode cX0_backToStarts 0 = .ok (.aload_n 0, 1) := by decide +kernel
theorem dX0_backToStarts_1 : decode cX0_backToStarts 1 = .ok (.aload_n 0, 1) := by decide +kernel
theorem dX0_backToStarts_2 : decode cX0_backToStarts 2 = .ok (.getfield 25, 3) := by decide +kernel
theorem dX0_backToStarts_5 : decode cX0_backToStarts 5 = .ok (.putfield 28, 3) := by decide +kernel
theorem dX0_backToStarts_8 : decode cX0_backToStarts 8 = .ok (.aload_n 0, 1) := by decide +kernel
theorem dX0_backToStarts_9 : decode cX0_backToStarts 9 = .ok (.iconst 0, 1) := by decide +kernel
theorem dX0_backToStarts_10 : decode cX0_backToStarts 10 = .ok (.putfield 31, 3) := by decide +kernel
theorem dX0_backToStarts_13 : decode cX0_backToStarts 13 = .ok (.return_, 1) := by decide +kernel
theorem dX0_runStep_0 : decode cX0_runStep 0 = .ok (.iload_n 2, 1) := by decide +kernel
theorem dX0_runStep_1 : decode cX0_runStep 1 = .ok (.sipush 255, 3) := by decide +kernel
theorem dX0_runStep_4 : decode cX0_runStep 4 = .ok (.iand, 1) := by decide +kernel
theorem dX0_runStep_5 : decode cX0_runStep 5 = .ok (.aload_n 0, 1) := by decide +kernel
theorem dX0_runStep_6 : decode cX0_runStep 6 = .ok (.getfield 28, 3) := by decide +kernel
theorem dX0_runStep_9 : decode cX0_runStep 9 = .ok (.bipush 8, 2) := by decide +kernel
theorem dX0_runStep_11 : decode cX0_runStep 11 = .ok (.ishl, 1) := by decide +kernel
theorem dX0_runStep_12 : decode cX0_runStep 12 = .ok (.ior, 1) := by decide +kernel
theorem dX0_runStep_13 : decode cX0_runStep 13 = .ok (.istore 4, 2) := by decide +kernel
theorem dX0_runStep_15 : decode cX0_runStep 15 = .ok (.iconst 0, 1) := by decide +kernel
theorem dX0_runStep_16 : decode cX0_runStep 16 = .ok (.istore 5, 2) := by decide +kernel
theorem dX0_runStep_18 : decode cX0_runStep 18 = .ok (.iload 5, 2) := by decide +kernel
theorem dX0_runStep_20 : decode cX0_runStep 20 = .ok (.aload_n 0, 1) := by decide +kernel
theorem dX0_runStep_21 : decode cX0_runStep 21 = .ok (.getfield 21, 3) := by decide +kernel
theorem dX0_runStep_24 : decode cX0_runStep 24 = .ok (.if_icmp .ge 29, 3) := by decide +kernel
theorem dX0_runStep_27 : decode cX0_runStep 27 = .ok (.aload_n 0, 1) := by decide +kernel
theorem dX0_runStep_28 : decode cX0_runStep 28 = .ok (.getfield 18, 3) := by decide +kernel
theorem dX0_runStep_31 : decode cX0_runStep 31 = .ok (.iload 5, 2) := by decide +kernel
theorem dX0_runStep_33 : decode cX0_runStep 33 = .ok (.aload_n 1, 1) := by decide +kernel
theorem dX0_runStep_34 : decode cX0_runStep 34 = .ok (.aload_n 0, 1) := by decide +kernel
theorem dX0_runStep_35 : decode cX0_runStep 35 = .ok (.getfield 9, 3) := by decide +kernel
theorem dX0_runStep_38 : decode cX0_runStep 38 = .ok (.iload 5, 2) := by decide +kernel
theorem dX0_runStep_40 : decode cX0_runStep 40 = .ok (.iaload, 1) := by decide +kernel
theorem dX0_runStep_41 : decode cX0_runStep 41 = .ok (.iload 4, 2) := by decide +kernel
theorem dX0_runStep_43 : decode cX0_runStep 43 = .ok (.invokevirtual 34, 3) := by decide +kernel
theorem dX0_runStep_46 : decode cX0_runStep 46 = .ok (.iastore, 1) := by decide +kernel
theorem dX0_runStep_47 : decode cX0_runStep 47 = .ok (.iinc 5 1, 3) := by decide +kernel
theorem dX0_runStep_50 : decode cX0_runStep 50 = .ok (.goto (-32), 3) := by decide +kernel
theorem dX0_runStep_53 : decode cX0_runStep 53 = .ok (.aload_n 0, 1) := by decide +kernel
theorem dX0_runStep_54 : decode cX0_runStep 54 = .ok (.aload_n 0, 1) := by decide +kernel
theorem dX0_runStep_55 : decode cX0_runStep 55 = .ok (.getfield 21, 3) := by decide +kernel
theorem dX0_runStep_58 : decode cX0_runStep 58 = .ok (.putfield 31, 3) := by decide +kernel
theorem dX0_runStep_61 : decode cX0_runStep 61 = .ok (.iconst 0, 1) := by decide +kernel
theorem dX0_runStep_62 : decode cX0_runStep 62 = .ok (.istore 5, 2) := by decide +kernel
theorem dX0_runStep_64 : decode cX0_runStep 64 = .ok (.iconst 0, 1) := by decide +kernel
theorem dX0_runStep_65 : decode cX0_runStep 65 = .ok (.istore 6, 2) := by decide +kernel
theorem dX0_runStep_67 : decode cX0_runStep 67 = .ok (.iload 6, 2) := by decide +kernel
theorem dX0_runStep_69 : decode cX0_runStep 69 = .ok (.iload_n 3, 1) := by decide +kernel
theorem dX0_runStep_70 : decode cX0_runStep 70 = .ok (.if_icmp .ge 30, 3) := by decide +kernel
theorem dX0_runStep_73 : decode cX0_runStep 73 = .ok (.iload 5, 2) := by decide +kernel
theorem dX0_runStep_75 : decode cX0_runStep 75 = .ok (.aload_n 1, 1) := by decide +kernel
theorem dX0_runStep_76 : decode cX0_runStep 76 = .ok (.aload_n 0, 1) := by decide +kernel
theorem dX0_runStep_77 : decode cX0_runStep 77 = .ok (.getfield 15, 3) := by decide +kernel
theorem dX0_runStep_80 : decode cX0_runStep 80 = .ok (.iload 6, 2) := by decide +kernel
theorem dX0_runStep_82 : decode cX0_runStep 82 = .ok (.iaload, 1) := by decide +kernel
theorem dX0_runStep_83 : decode cX0_runStep 83 = .ok (.iload 4, 2) := by decide +kernel
theorem dX0_runStep_85 : decode cX0_runStep 85 = .ok (.invokevirtual 34, 3) := by decide +kernel
theorem dX0_runStep_88 : decode cX0_runStep 88 = .ok (.iload 6, 2) := by decide +kernel
theorem dX0_runStep_90 : decode cX0_runStep 90 = .ok (.ishl, 1) := by decide +kernel
theorem dX0_runStep_91 : decode cX0_runStep 91 = .ok (.ior, 1) := by decide +kernel
theorem dX0_runStep_92 : decode cX0_runStep 92 = .ok (.istore 5, 2) := by decide +kernel
theorem dX0_runStep_94 : decode cX0_runStep 94 = .ok (.iinc 6 1, 3) := by decide +kernel
theorem dX0_runStep_97 : decode cX0_runStep 97 = .ok (.goto (-30), 3) := by decide +kernel
theorem dX0_runStep_100 : decode cX0_runStep 100 = .ok (.aload_n 0, 1) := by decide +kernel
theorem dX0_runStep_101 : decode cX0_runStep 101 = .ok (.iload 5, 2) := by decide +kernel
theorem dX0_runStep_103 : decode cX0_runStep 103 = .ok (.putfield 28, 3) := by decide +kernel
theorem dX0_runStep_106 : decode cX0_runStep 106 = .ok (.return_, 1) := by decide +kernel
set_option maxRecDepth 20000 in
theorem ggX0_runStep_X1_valueIn : GoodIn wsX0_runStep wsX1_valueIn := goodIn_r _ [11, 12, 13, 14, 10, 15, 16, 17, 25, 26, 27, 28, 29] (by decide +kernel) (by decide +kernel)
set_option maxRecDepth 20000 in
theorem gX0_runStep_X1_valueIn : GoodIn wsX0_runStep (wsV RX0 34 RX1 yX1_valueIn wsX1_valueIn) := goodIn_app (goodIn_of _ (by decide +kernel)) ggX0_runStep_X1_valueIn
