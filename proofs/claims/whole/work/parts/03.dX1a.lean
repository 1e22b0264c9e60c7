theorem dX1_init_0 : decode cX1_init 0 = .ok (.aload_n 0, 1) := by decide +kernel
theorem dX1_init_1 : decode cX1_init 1 = .ok (.invokespecial 5, 3) := by decide +kernel
theorem dX1_init_4 : decode cX1_init 4 = .ok (.aload_n 0, 1) := by decide +kernel
theorem dX1_init_5 : decode cX1_init 5 = .ok (.iconst 1, 1) := by decide +kernel
theorem dX1_init_6 : decode cX1_init 6 = .ok (.putfield 11, 3) := by decide +kernel
theorem dX1_init_9 : decode cX1_init 9 = .ok (.aload_n 0, 1) := by decide +kernel
theorem dX1_init_10 : decode cX1_init 10 = .ok (.sipush 400, 3) := by decide +kernel
theorem dX1_init_13 : decode cX1_init 13 = .ok (.newarray .int, 2) := by decide +kernel
theorem dX1_init_15 : decode cX1_init 15 = .ok (.putfield 15, 3) := by decide +kernel
theorem dX1_init_18 : decode cX1_init 18 = .ok (.aload_n 0, 1) := by decide +kernel
theorem dX1_init_19 : decode cX1_init 19 = .ok (.getfield 15, 3) := by decide +kernel
theorem dX1_init_22 : decode cX1_init 22 = .ok (.iconst 0, 1) := by decide +kernel
theorem dX1_init_23 : decode cX1_init 23 = .ok (.iconst (-1), 1) := by decide +kernel
theorem dX1_init_24 : decode cX1_init 24 = .ok (.iastore, 1) := by decide +kernel
theorem dX1_init_25 : decode cX1_init 25 = .ok (.aload_n 0, 1) := by decide +kernel
theorem dX1_init_26 : decode cX1_init 26 = .ok (.sipush 400, 3) := by decide +kernel
theorem dX1_init_29 : decode cX1_init 29 = .ok (.newarray .int, 2) := by decide +kernel
theorem dX1_init_31 : decode cX1_init 31 = .ok (.putfield 19, 3) := by decide +kernel
theorem dX1_init_34 : decode cX1_init 34 = .ok (.aload_n 0, 1) := by decide +kernel
theorem dX1_init_35 : decode cX1_init 35 = .ok (.sipush 400, 3) := by decide +kernel
theorem dX1_init_38 : decode cX1_init 38 = .ok (.newarray .long, 2) := by decide +kernel
theorem dX1_init_40 : decode cX1_init 40 = .ok (.putfield 22, 3) := by decide +kernel
theorem dX1_init_43 : decode cX1_init 43 = .ok (.aload_n 0, 1) := by decide +kernel
theorem dX1_init_44 : decode cX1_init 44 = .ok (.sipush 2048, 3) := by decide +kernel
theorem dX1_init_47 : decode cX1_init 47 = .ok (.newarray .long, 2) := by decide +kernel
theorem dX1_init_49 : decode cX1_init 49 = .ok (.putfield 26, 3) := by decide +kernel
theorem dX1_init_52 : decode cX1_init 52 = .ok (.return_, 1) := by decide +kernel
theorem dX1_forget_0 : decode cX1_forget 0 = .ok (.aload_n 0, 1) := by decide +kernel
theorem dX1_forget_1 : decode cX1_forget 1 = .ok (.iconst 1, 1) := by decide +kernel
theorem dX1_forget_2 : decode cX1_forget 2 = .ok (.putfield 11, 3) := by decide +kernel
theorem dX1_forget_5 : decode cX1_forget 5 = .ok (.return_, 1) := by decide +kernel
theorem dX1_addVariable_0 : decode cX1_addVariable 0 = .ok (.aload_n 0, 1) := by decide +kernel
theorem dX1_addVariable_1 : decode cX1_addVariable 1 = .ok (.invokevirtual 29, 3) := by decide +kernel
theorem dX1_addVariable_4 : decode cX1_addVariable 4 = .ok (.aload_n 0, 1) := by decide +kernel
theorem dX1_addVariable_5 : decode cX1_addVariable 5 = .ok (.getfield 11, 3) := by decide +kernel
theorem dX1_addVariable_8 : decode cX1_addVariable 8 = .ok (.bipush 64, 2) := by decide +kernel
theorem dX1_addVariable_10 : decode cX1_addVariable 10 = .ok (.imul, 1) := by decide +kernel
theorem dX1_addVariable_11 : decode cX1_addVariable 11 = .ok (.istore_n 2, 1) := by decide +kernel
theorem dX1_addVariable_12 : decode cX1_addVariable 12 = .ok (.iconst 0, 1) := by decide +kernel
theorem dX1_addVariable_13 : decode cX1_addVariable 13 = .ok (.istore_n 3, 1) := by decide +kernel
theorem dX1_addVariable_14 : decode cX1_addVariable 14 = .ok (.iload_n 3, 1) := by decide +kernel
theorem dX1_addVariable_15 : decode cX1_addVariable 15 = .ok (.bipush 64, 2) := by decide +kernel
theorem dX1_addVariable_17 : decode cX1_addVariable 17 = .ok (.if_icmp .ge 22, 3) := by decide +kernel
theorem dX1_addVariable_20 : decode cX1_addVariable 20 = .ok (.aload_n 0, 1) := by decide +kernel
theorem dX1_addVariable_21 : decode cX1_addVariable 21 = .ok (.getfield 26, 3) := by decide +kernel
theorem dX1_addVariable_24 : decode cX1_addVariable 24 = .ok (.iload_n 2, 1) := by decide +kernel
theorem dX1_addVariable_25 : decode cX1_addVariable 25 = .ok (.iload_n 3, 1) := by decide +kernel
theorem dX1_addVariable_26 : decode cX1_addVariable 26 = .ok (.iadd, 1) := by decide +kernel
theorem dX1_addVariable_27 : decode cX1_addVariable 27 = .ok (.iload_n 1, 1) := by decide +kernel
theorem dX1_addVariable_28 : decode cX1_addVariable 28 = .ok (.iload_n 3, 1) := by decide +kernel
theorem dX1_addVariable_29 : decode cX1_addVariable 29 = .ok (.invokestatic 32, 3) := by decide +kernel
theorem dX1_addVariable_32 : decode cX1_addVariable 32 = .ok (.lastore, 1) := by decide +kernel
theorem dX1_addVariable_33 : decode cX1_addVariable 33 = .ok (.iinc 3 1, 3) := by decide +kernel
theorem dX1_addVariable_36 : decode cX1_addVariable 36 = .ok (.goto (-22), 3) := by decide +kernel
theorem dX1_addVariable_39 : decode cX1_addVariable 39 = .ok (.aload_n 0, 1) := by decide +kernel
theorem dX1_addVariable_40 : decode cX1_addVariable 40 = .ok (.iconst (-1), 1) := by decide +kernel
theorem dX1_addVariable_41 : decode cX1_addVariable 41 = .ok (.invokevirtual 36, 3) := by decide +kernel
theorem dX1_addVariable_44 : decode cX1_addVariable 44 = .ok (.ireturn, 1) := by decide +kernel
theorem dX1_addAnd_0 : decode cX1_addAnd 0 = .ok (.aload_n 0, 1) := by decide +kernel
theorem dX1_addAnd_1 : decode cX1_addAnd 1 = .ok (.invokevirtual 29, 3) := by decide +kernel
theorem dX1_addAnd_4 : decode cX1_addAnd 4 = .ok (.aload_n 0, 1) := by decide +kernel
theorem dX1_addAnd_5 : decode cX1_addAnd 5 = .ok (.getfield 11, 3) := by decide +kernel
theorem dX1_addAnd_8 : decode cX1_addAnd 8 = .ok (.bipush 64, 2) := by decide +kernel
theorem dX1_addAnd_10 : decode cX1_addAnd 10 = .ok (.imul, 1) := by decide +kernel
theorem dX1_addAnd_11 : decode cX1_addAnd 11 = .ok (.istore 4, 2) := by decide +kernel
theorem dX1_addAnd_13 : decode cX1_addAnd 13 = .ok (.iconst 0, 1) := by decide +kernel
theorem dX1_addAnd_14 : decode cX1_addAnd 14 = .ok (.istore 5, 2) := by decide +kernel
theorem dX1_addAnd_16 : decode cX1_addAnd 16 = .ok (.iload 5, 2) := by decide +kernel
theorem dX1_addAnd_18 : decode cX1_addAnd 18 = .ok (.bipush 64, 2) := by decide +kernel
theorem dX1_addAnd_20 : decode cX1_addAnd 20 = .ok (.if_icmp .ge 34, 3) := by decide +kernel
theorem dX1_addAnd_23 : decode cX1_addAnd 23 = .ok (.aload_n 0, 1) := by decide +kernel
theorem dX1_addAnd_24 : decode cX1_addAnd 24 = .ok (.getfield 26, 3) := by decide +kernel
theorem dX1_addAnd_27 : decode cX1_addAnd 27 = .ok (.iload 4, 2) := by decide +kernel
theorem dX1_addAnd_29 : decode cX1_addAnd 29 = .ok (.iload 5, 2) := by decide +kernel
theorem dX1_addAnd_31 : decode cX1_addAnd 31 = .ok (.iadd, 1) := by decide +kernel
theorem dX1_addAnd_32 : decode cX1_addAnd 32 = .ok (.aload_n 0, 1) := by decide +kernel
theorem dX1_addAnd_33 : decode cX1_addAnd 33 = .ok (.iload_n 2, 1) := by decide +kernel
theorem dX1_addAnd_34 : decode cX1_addAnd 34 = .ok (.iload 5, 2) := by decide +kernel
theorem dX1_addAnd_36 : decode cX1_addAnd 36 = .ok (.invokevirtual 40, 3) := by decide +kernel
theorem dX1_addAnd_39 : decode cX1_addAnd 39 = .ok (.aload_n 0, 1) := by decide +kernel
theorem dX1_addAnd_40 : decode cX1_addAnd 40 = .ok (.iload_n 3, 1) := by decide +kernel
theorem dX1_addAnd_41 : decode cX1_addAnd 41 = .ok (.iload 5, 2) := by decide +kernel
theorem dX1_addAnd_43 : decode cX1_addAnd 43 = .ok (.invokevirtual 40, 3) := by decide +kernel
theorem dX1_addAnd_46 : decode cX1_addAnd 46 = .ok (.land, 1) := by decide +kernel
theorem dX1_addAnd_47 : decode cX1_addAnd 47 = .ok (.lastore, 1) := by decide +kernel
theorem dX1_addAnd_48 : decode cX1_addAnd 48 = .ok (.iinc 5 1, 3) := by decide +kernel
theorem dX1_addAnd_51 : decode cX1_addAnd 51 = .ok (.goto (-35), 3) := by decide +kernel
theorem dX1_addAnd_54 : decode cX1_addAnd 54 = .ok (.aload_n 0, 1) := by decide +kernel
theorem dX1_addAnd_55 : decode cX1_addAnd 55 = .ok (.iload_n 1, 1) := by decide +kernel
theorem dX1_addAnd_56 : decode cX1_addAnd 56 = .ok (.invokevirtual 36, 3) := by decide +kernel
theorem dX1_addAnd_59 : decode cX1_addAnd 59 = .ok (.ireturn, 1) := by decide +kernel
theorem dX1_isOfOtherSide_0 : decode cX1_isOfOtherSide 0 = .ok (.aload_n 0, 1) := by decide +kernel
theorem dX1_isOfOtherSide_1 : decode cX1_isOfOtherSide 1 = .ok (.getfield 15, 3) := by decide +kernel
theorem dX1_isOfOtherSide_4 : decode cX1_isOfOtherSide 4 = .ok (.iload_n 2, 1) := by decide +kernel
theorem dX1_isOfOtherSide_5 : decode cX1_isOfOtherSide 5 = .ok (.iconst 1, 1) := by decide +kernel
theorem dX1_isOfOtherSide_6 : decode cX1_isOfOtherSide 6 = .ok (.ishr, 1) := by decide +kernel
theorem dX1_isOfOtherSide_7 : decode cX1_isOfOtherSide 7 = .ok (.iaload, 1) := by decide +kernel
theorem dX1_isOfOtherSide_8 : decode cX1_isOfOtherSide 8 = .ok (.istore_n 3, 1) := by decide +kernel
theorem dX1_isOfOtherSide_9 : decode cX1_isOfOtherSide 9 = .ok (.iload_n 3, 1) := by decide +kernel
theorem dX1_isOfOtherSide_10 : decode cX1_isOfOtherSide 10 = .ok (.iconst (-1), 1) := by decide +kernel
theorem dX1_isOfOtherSide_11 : decode cX1_isOfOtherSide 11 = .ok (.if_icmp .eq 12, 3) := by decide +kernel
theorem dX1_isOfOtherSide_14 : decode cX1_isOfOtherSide 14 = .ok (.iload_n 3, 1) := by decide +kernel
theorem dX1_isOfOtherSide_15 : decode cX1_isOfOtherSide 15 = .ok (.iload_n 1, 1) := by decide +kernel
theorem dX1_isOfOtherSide_16 : decode cX1_isOfOtherSide 16 = .ok (.if_icmp .eq 7, 3) := by decide +kernel
theorem dX1_isOfOtherSide_19 : decode cX1_isOfOtherSide 19 = .ok (.iconst 1, 1) := by decide +kernel
theorem dX1_isOfOtherSide_20 : decode cX1_isOfOtherSide 20 = .ok (.goto 4, 3) := by decide +kernel
theorem dX1_isOfOtherSide_23 : decode cX1_isOfOtherSide 23 = .ok (.iconst 0, 1) := by decide +kernel
theorem dX1_isOfOtherSide_24 : decode cX1_isOfOtherSide 24 = .ok (.ireturn, 1) := by decide +kernel
theorem dX1_firstOf_0 : decode cX1_firstOf 0 = .ok (.aload_n 0, 1) := by decide +kernel
theorem dX1_firstOf_1 : decode cX1_firstOf 1 = .ok (.getfield 19, 3) := by decide +kernel
theorem dX1_firstOf_4 : decode cX1_firstOf 4 = .ok (.iload_n 1, 1) := by decide +kernel
theorem dX1_firstOf_5 : decode cX1_firstOf 5 = .ok (.iconst 1, 1) := by decide +kernel
theorem dX1_firstOf_6 : decode cX1_firstOf 6 = .ok (.ishr, 1) := by decide +kernel
theorem dX1_firstOf_7 : decode cX1_firstOf 7 = .ok (.iaload, 1) := by decide +kernel
theorem dX1_firstOf_8 : decode cX1_firstOf 8 = .ok (.iload_n 1, 1) := by decide +kernel
theorem dX1_firstOf_9 : decode cX1_firstOf 9 = .ok (.iconst 1, 1) := by decide +kernel
theorem dX1_firstOf_10 : decode cX1_firstOf 10 = .ok (.iand, 1) := by decide +kernel
theorem dX1_firstOf_11 : decode cX1_firstOf 11 = .ok (.ixor, 1) := by decide +kernel
theorem dX1_firstOf_12 : decode cX1_firstOf 12 = .ok (.ireturn, 1) := by decide +kernel
theorem dX1_areSame_0 : decode cX1_areSame 0 = .ok (.aload_n 0, 1) := by decide +kernel
theorem dX1_areSame_1 : decode cX1_areSame 1 = .ok (.iload_n 1, 1) := by decide +kernel
theorem dX1_areSame_2 : decode cX1_areSame 2 = .ok (.invokevirtual 43, 3) := by decide +kernel
theorem dX1_areSame_5 : decode cX1_areSame 5 = .ok (.aload_n 0, 1) := by decide +kernel
theorem dX1_areSame_6 : decode cX1_areSame 6 = .ok (.iload_n 2, 1) := by decide +kernel
theorem dX1_areSame_7 : decode cX1_areSame 7 = .ok (.invokevirtual 43, 3) := by decide +kernel
theorem dX1_areSame_10 : decode cX1_areSame 10 = .ok (.if_icmp .ne 7, 3) := by decide +kernel
theorem dX1_areSame_13 : decode cX1_areSame 13 = .ok (.iconst 1, 1) := by decide +kernel
theorem dX1_areSame_14 : decode cX1_areSame 14 = .ok (.goto 4, 3) := by decide +kernel
theorem dX1_areSame_17 : decode cX1_areSame 17 = .ok (.iconst 0, 1) := by decide +kernel
theorem dX1_areSame_18 : decode cX1_areSame 18 = .ok (.ireturn, 1) := by decide +kernel
theorem dX1_countClasses_0 : decode cX1_countClasses 0 = .ok (.iconst 0, 1) := by decide +kernel
theorem dX1_countClasses_1 : decode cX1_countClasses 1 = .ok (.istore_n 1, 1) := by decide +kernel
theorem dX1_countClasses_2 : decode cX1_countClasses 2 = .ok (.iconst 0, 1) := by decide +kernel
theorem dX1_countClasses_3 : decode cX1_countClasses 3 = .ok (.istore_n 2, 1) := by decide +kernel
theorem dX1_countClasses_4 : decode cX1_countClasses 4 = .ok (.iload_n 2, 1) := by decide +kernel
theorem dX1_countClasses_5 : decode cX1_countClasses 5 = .ok (.aload_n 0, 1) := by decide +kernel
theorem dX1_countClasses_6 : decode cX1_countClasses 6 = .ok (.getfield 11, 3) := by decide +kernel
theorem dX1_countClasses_9 : decode cX1_countClasses 9 = .ok (.if_icmp .ge 20, 3) := by decide +kernel
theorem dX1_countClasses_12 : decode cX1_countClasses 12 = .ok (.aload_n 0, 1) := by decide +kernel
theorem dX1_countClasses_13 : decode cX1_countClasses 13 = .ok (.iload_n 2, 1) := by decide +kernel
theorem dX1_countClasses_14 : decode cX1_countClasses 14 = .ok (.invokevirtual 46, 3) := by decide +kernel
theorem dX1_countClasses_17 : decode cX1_countClasses 17 = .ok (.ifCond .eq 6, 3) := by decide +kernel
theorem dX1_countClasses_20 : decode cX1_countClasses 20 = .ok (.iinc 1 1, 3) := by decide +kernel
theorem dX1_countClasses_23 : decode cX1_countClasses 23 = .ok (.iinc 2 1, 3) := by decide +kernel
theorem dX1_countClasses_26 : decode cX1_countClasses 26 = .ok (.goto (-22), 3) := by decide +kernel
theorem dX1_countClasses_29 : decode cX1_countClasses 29 = .ok (.iload_n 1, 1) := by decide +kernel
theorem dX1_countClasses_30 : decode cX1_countClasses 30 = .ok (.ireturn, 1) := by decide +kernel
theorem dX1_countMerged_0 : decode cX1_countMerged 0 = .ok (.iconst 0, 1) := by decide +kernel
theorem dX1_countMerged_1 : decode cX1_countMerged 1 = .ok (.istore_n 2, 1) := by decide +kernel
theorem dX1_countMerged_2 : decode cX1_countMerged 2 = .ok (.iconst 0, 1) := by decide +kernel
theorem dX1_countMerged_3 : decode cX1_countMerged 3 = .ok (.istore_n 3, 1) := by decide +kernel
theorem dX1_countMerged_4 : decode cX1_countMerged 4 = .ok (.iload_n 3, 1) := by decide +kernel
theorem dX1_countMerged_5 : decode cX1_countMerged 5 = .ok (.aload_n 0, 1) := by decide +kernel
theorem dX1_countMerged_6 : decode cX1_countMerged 6 = .ok (.getfield 11, 3) := by decide +kernel
theorem dX1_countMerged_9 : decode cX1_countMerged 9 = .ok (.if_icmp .ge 30, 3) := by decide +kernel
theorem dX1_countMerged_12 : decode cX1_countMerged 12 = .ok (.aload_n 0, 1) := by decide +kernel
theorem dX1_countMerged_13 : decode cX1_countMerged 13 = .ok (.getfield 15, 3) := by decide +kernel
theorem dX1_countMerged_16 : decode cX1_countMerged 16 = .ok (.iload_n 3, 1) := by decide +kernel
theorem dX1_countMerged_17 : decode cX1_countMerged 17 = .ok (.iaload, 1) := by decide +kernel
theorem dX1_countMerged_18 : decode cX1_countMerged 18 = .ok (.iload_n 1, 1) := by decide +kernel
theorem dX1_countMerged_19 : decode cX1_countMerged 19 = .ok (.if_icmp .ne 14, 3) := by decide +kernel
theorem dX1_countMerged_22 : decode cX1_countMerged 22 = .ok (.aload_n 0, 1) := by decide +kernel
theorem dX1_countMerged_23 : decode cX1_countMerged 23 = .ok (.iload_n 3, 1) := by decide +kernel
theorem dX1_countMerged_24 : decode cX1_countMerged 24 = .ok (.invokevirtual 46, 3) := by decide +kernel
theorem dX1_countMerged_27 : decode cX1_countMerged 27 = .ok (.ifCond .ne 6, 3) := by decide +kernel
theorem dX1_countMerged_30 : decode cX1_countMerged 30 = .ok (.iinc 2 1, 3) := by decide +kernel
theorem dX1_countMerged_33 : decode cX1_countMerged 33 = .ok (.iinc 3 1, 3) := by decide +kernel
theorem dX1_countMerged_36 : decode cX1_countMerged 36 = .ok (.goto (-32), 3) := by decide +kernel
theorem dX1_countMerged_39 : decode cX1_countMerged 39 = .ok (.iload_n 2, 1) := by decide +kernel
theorem dX1_countMerged_40 : decode cX1_countMerged 40 = .ok (.ireturn, 1) := by decide +kernel
theorem dX1_countAnds_0 : decode cX1_countAnds 0 = .ok (.iconst 0, 1) := by decide +kernel
theorem dX1_countAnds_1 : decode cX1_countAnds 1 = .ok (.istore_n 2, 1) := by decide +kernel
theorem dX1_countAnds_2 : decode cX1_countAnds 2 = .ok (.iconst 0, 1) := by decide +kernel
theorem dX1_countAnds_3 : decode cX1_countAnds 3 = .ok (.istore_n 3, 1) := by decide +kernel
theorem dX1_countAnds_4 : decode cX1_countAnds 4 = .ok (.iload_n 3, 1) := by decide +kernel
theorem dX1_countAnds_5 : decode cX1_countAnds 5 = .ok (.aload_n 0, 1) := by decide +kernel
theorem dX1_countAnds_6 : decode cX1_countAnds 6 = .ok (.getfield 11, 3) := by decide +kernel
theorem dX1_countAnds_9 : decode cX1_countAnds 9 = .ok (.if_icmp .ge 22, 3) := by decide +kernel
theorem dX1_countAnds_12 : decode cX1_countAnds 12 = .ok (.aload_n 0, 1) := by decide +kernel
theorem dX1_countAnds_13 : decode cX1_countAnds 13 = .ok (.getfield 15, 3) := by decide +kernel
theorem dX1_countAnds_16 : decode cX1_countAnds 16 = .ok (.iload_n 3, 1) := by decide +kernel
theorem dX1_countAnds_17 : decode cX1_countAnds 17 = .ok (.iaload, 1) := by decide +kernel
theorem dX1_countAnds_18 : decode cX1_countAnds 18 = .ok (.iload_n 1, 1) := by decide +kernel
theorem dX1_countAnds_19 : decode cX1_countAnds 19 = .ok (.if_icmp .ne 6, 3) := by decide +kernel
theorem dX1_countAnds_22 : decode cX1_countAnds 22 = .ok (.iinc 2 1, 3) := by decide +kernel
theorem dX1_countAnds_25 : decode cX1_countAnds 25 = .ok (.iinc 3 1, 3) := by decide +kernel
theorem dX1_countAnds_28 : decode cX1_countAnds 28 = .ok (.goto (-24), 3) := by decide +kernel
theorem dX1_countAnds_31 : decode cX1_countAnds 31 = .ok (.iload_n 2, 1) := by decide +kernel
theorem dX1_countAnds_32 : decode cX1_countAnds 32 = .ok (.ireturn, 1) := by decide +kernel
theorem dX1_countOnes_0 : decode cX1_countOnes 0 = .ok (.iconst 0, 1) := by decide +kernel
theorem dX1_countOnes_1 : decode cX1_countOnes 1 = .ok (.istore_n 2, 1) := by decide +kernel
theorem dX1_countOnes_2 : decode cX1_countOnes 2 = .ok (.iconst 0, 1) := by decide +kernel
theorem dX1_countOnes_3 : decode cX1_countOnes 3 = .ok (.istore_n 3, 1) := by decide +kernel
theorem dX1_countOnes_4 : decode cX1_countOnes 4 = .ok (.iload_n 3, 1) := by decide +kernel
theorem dX1_countOnes_5 : decode cX1_countOnes 5 = .ok (.bipush 64, 2) := by decide +kernel
theorem dX1_countOnes_7 : decode cX1_countOnes 7 = .ok (.if_icmp .ge 21, 3) := by decide +kernel
theorem dX1_countOnes_10 : decode cX1_countOnes 10 = .ok (.iload_n 2, 1) := by decide +kernel
theorem dX1_countOnes_11 : decode cX1_countOnes 11 = .ok (.aload_n 0, 1) := by decide +kernel
theorem dX1_countOnes_12 : decode cX1_countOnes 12 = .ok (.iload_n 1, 1) := by decide +kernel
theorem dX1_countOnes_13 : decode cX1_countOnes 13 = .ok (.iload_n 3, 1) := by decide +kernel
theorem dX1_countOnes_14 : decode cX1_countOnes 14 = .ok (.invokevirtual 40, 3) := by decide +kernel
theorem dX1_countOnes_17 : decode cX1_countOnes 17 = .ok (.invokestatic 50, 3) := by decide +kernel
theorem dX1_countOnes_20 : decode cX1_countOnes 20 = .ok (.iadd, 1) := by decide +kernel
theorem dX1_countOnes_21 : decode cX1_countOnes 21 = .ok (.istore_n 2, 1) := by decide +kernel
theorem dX1_countOnes_22 : decode cX1_countOnes 22 = .ok (.iinc 3 1, 3) := by decide +kernel
theorem dX1_countOnes_25 : decode cX1_countOnes 25 = .ok (.goto (-21), 3) := by decide +kernel
theorem dX1_countOnes_28 : decode cX1_countOnes 28 = .ok (.iload_n 2, 1) := by decide +kernel
theorem dX1_countOnes_29 : decode cX1_countOnes 29 = .ok (.ireturn, 1) := by decide +kernel
theorem dX1_valueIn_0 : decode cX1_valueIn 0 = .ok (.iload_n 2, 1) := by decide +kernel
theorem dX1_valueIn_1 : decode cX1_valueIn 1 = .ok (.sipush 4095, 3) := by decide +kernel
theorem dX1_valueIn_4 : decode cX1_valueIn 4 = .ok (.iand, 1) := by decide +kernel
theorem dX1_valueIn_5 : decode cX1_valueIn 5 = .ok (.istore_n 3, 1) := by decide +kernel
theorem dX1_valueIn_6 : decode cX1_valueIn 6 = .ok (.aload_n 0, 1) := by decide +kernel
theorem dX1_valueIn_7 : decode cX1_valueIn 7 = .ok (.iload_n 1, 1) := by decide +kernel
theorem dX1_valueIn_8 : decode cX1_valueIn 8 = .ok (.iload_n 3, 1) := by decide +kernel
theorem dX1_valueIn_9 : decode cX1_valueIn 9 = .ok (.bipush 64, 2) := by decide +kernel
theorem dX1_valueIn_11 : decode cX1_valueIn 11 = .ok (.idiv, 1) := by decide +kernel
theorem dX1_valueIn_12 : decode cX1_valueIn 12 = .ok (.invokevirtual 40, 3) := by decide +kernel
theorem dX1_valueIn_15 : decode cX1_valueIn 15 = .ok (.iload_n 3, 1) := by decide +kernel
theorem dX1_valueIn_16 : decode cX1_valueIn 16 = .ok (.bipush 64, 2) := by decide +kernel
theorem dX1_valueIn_18 : decode cX1_valueIn 18 = .ok (.irem, 1) := by decide +kernel
theorem dX1_valueIn_19 : decode cX1_valueIn 19 = .ok (.lushr, 1) := by decide +kernel
theorem dX1_valueIn_20 : decode cX1_valueIn 20 = .ok (.l2i, 1) := by decide +kernel
theorem dX1_valueIn_21 : decode cX1_valueIn 21 = .ok (.iconst 1, 1) := by decide +kernel
theorem dX1_valueIn_22 : decode cX1_valueIn 22 = .ok (.iand, 1) := by decide +kernel
theorem dX1_valueIn_23 : decode cX1_valueIn 23 = .ok (.ireturn, 1) := by decide +kernel
theorem dX1_supportOf_0 : decode cX1_supportOf 0 = .ok (.iconst 0, 1) := by decide +kernel
theorem dX1_supportOf_1 : decode cX1_supportOf 1 = .ok (.istore_n 2, 1) := by decide +kernel
theorem dX1_supportOf_2 : decode cX1_supportOf 2 = .ok (.iconst 0, 1) := by decide +kernel
theorem dX1_supportOf_3 : decode cX1_supportOf 3 = .ok (.istore_n 3, 1) := by decide +kernel
theorem dX1_supportOf_4 : decode cX1_supportOf 4 = .ok (.iload_n 3, 1) := by decide +kernel
theorem dX1_supportOf_5 : decode cX1_supportOf 5 = .ok (.bipush 12, 2) := by decide +kernel
theorem dX1_supportOf_7 : decode cX1_supportOf 7 = .ok (.if_icmp .ge 24, 3) := by decide +kernel
theorem dX1_supportOf_10 : decode cX1_supportOf 10 = .ok (.aload_n 0, 1) := by decide +kernel
theorem dX1_supportOf_11 : decode cX1_supportOf 11 = .ok (.iload_n 1, 1) := by decide +kernel
theorem dX1_supportOf_12 : decode cX1_supportOf 12 = .ok (.iload_n 3, 1) := by decide +kernel
theorem dX1_supportOf_13 : decode cX1_supportOf 13 = .ok (.invokevirtual 56, 3) := by decide +kernel
theorem dX1_supportOf_16 : decode cX1_supportOf 16 = .ok (.ifCond .eq 9, 3) := by decide +kernel
theorem dX1_supportOf_19 : decode cX1_supportOf 19 = .ok (.iload_n 2, 1) := by decide +kernel
theorem dX1_supportOf_20 : decode cX1_supportOf 20 = .ok (.iconst 1, 1) := by decide +kernel
theorem dX1_supportOf_21 : decode cX1_supportOf 21 = .ok (.iload_n 3, 1) := by decide +kernel
theorem dX1_supportOf_22 : decode cX1_supportOf 22 = .ok (.ishl, 1) := by decide +kernel
theorem dX1_supportOf_23 : decode cX1_supportOf 23 = .ok (.ior, 1) := by decide +kernel
theorem dX1_supportOf_24 : decode cX1_supportOf 24 = .ok (.istore_n 2, 1) := by decide +kernel
theorem dX1_supportOf_25 : decode cX1_supportOf 25 = .ok (.iinc 3 1, 3) := by decide +kernel
theorem dX1_supportOf_28 : decode cX1_supportOf 28 = .ok (.goto (-24), 3) := by decide +kernel
theorem dX1_supportOf_31 : decode cX1_supportOf 31 = .ok (.iload_n 2, 1) := by decide +kernel
theorem dX1_supportOf_32 : decode cX1_supportOf 32 = .ok (.ireturn, 1) := by decide +kernel
theorem dX1_leastDifference_0 : decode cX1_leastDifference 0 = .ok (.iconst 0, 1) := by decide +kernel
theorem dX1_leastDifference_1 : decode cX1_leastDifference 1 = .ok (.istore_n 3, 1) := by decide +kernel
theorem dX1_leastDifference_2 : decode cX1_leastDifference 2 = .ok (.iload_n 3, 1) := by decide +kernel
theorem dX1_leastDifference_3 : decode cX1_leastDifference 3 = .ok (.bipush 64, 2) := by decide +kernel
theorem dX1_leastDifference_5 : decode cX1_leastDifference 5 = .ok (.if_icmp .ge 42, 3) := by decide +kernel
theorem dX1_leastDifference_8 : decode cX1_leastDifference 8 = .ok (.aload_n 0, 1) := by decide +kernel
theorem dX1_leastDifference_9 : decode cX1_leastDifference 9 = .ok (.iload_n 1, 1) := by decide +kernel
theorem dX1_leastDifference_10 : decode cX1_leastDifference 10 = .ok (.iload_n 3, 1) := by decide +kernel
theorem dX1_leastDifference_11 : decode cX1_leastDifference 11 = .ok (.invokevirtual 40, 3) := by decide +kernel
theorem dX1_leastDifference_14 : decode cX1_leastDifference 14 = .ok (.aload_n 0, 1) := by decide +kernel
theorem dX1_leastDifference_15 : decode cX1_leastDifference 15 = .ok (.iload_n 2, 1) := by decide +kernel
theorem dX1_leastDifference_16 : decode cX1_leastDifference 16 = .ok (.iload_n 3, 1) := by decide +kernel
theorem dX1_leastDifference_17 : decode cX1_leastDifference 17 = .ok (.invokevirtual 40, 3) := by decide +kernel
theorem dX1_leastDifference_20 : decode cX1_leastDifference 20 = .ok (.lxor, 1) := by decide +kernel
theorem dX1_leastDifference_21 : decode cX1_leastDifference 21 = .ok (.lstore 4, 2) := by decide +kernel
theorem dX1_leastDifference_23 : decode cX1_leastDifference 23 = .ok (.lload 4, 2) := by decide +kernel
theorem dX1_leastDifference_25 : decode cX1_leastDifference 25 = .ok (.lconst 0, 1) := by decide +kernel
theorem dX1_leastDifference_26 : decode cX1_leastDifference 26 = .ok (.lcmp, 1) := by decide +kernel
theorem dX1_leastDifference_27 : decode cX1_leastDifference 27 = .ok (.ifCond .eq 14, 3) := by decide +kernel
theorem dX1_leastDifference_30 : decode cX1_leastDifference 30 = .ok (.iload_n 3, 1) := by decide +kernel
theorem dX1_leastDifference_31 : decode cX1_leastDifference 31 = .ok (.bipush 64, 2) := by decide +kernel
theorem dX1_leastDifference_33 : decode cX1_leastDifference 33 = .ok (.imul, 1) := by decide +kernel
theorem dX1_leastDifference_34 : decode cX1_leastDifference 34 = .ok (.lload 4, 2) := by decide +kernel
theorem dX1_leastDifference_36 : decode cX1_leastDifference 36 = .ok (.invokestatic 60, 3) := by decide +kernel
theorem dX1_leastDifference_39 : decode cX1_leastDifference 39 = .ok (.iadd, 1) := by decide +kernel
theorem dX1_leastDifference_40 : decode cX1_leastDifference 40 = .ok (.ireturn, 1) := by decide +kernel
theorem dX1_leastDifference_41 : decode cX1_leastDifference 41 = .ok (.iinc 3 1, 3) := by decide +kernel
theorem dX1_leastDifference_44 : decode cX1_leastDifference 44 = .ok (.goto (-42), 3) := by decide +kernel
theorem dX1_leastDifference_47 : decode cX1_leastDifference 47 = .ok (.iconst (-1), 1) := by decide +kernel
theorem dX1_leastDifference_48 : decode cX1_leastDifference 48 = .ok (.ireturn, 1) := by decide +kernel
theorem dX1_growRows_0 : decode cX1_growRows 0 = .ok (.aload_n 0, 1) := by decide +kernel
theorem dX1_growRows_1 : decode cX1_growRows 1 = .ok (.getfield 11, 3) := by decide +kernel
theorem dX1_growRows_4 : decode cX1_growRows 4 = .ok (.iconst 1, 1) := by decide +kernel
theorem dX1_growRows_5 : decode cX1_growRows 5 = .ok (.iadd, 1) := by decide +kernel
theorem dX1_growRows_6 : decode cX1_growRows 6 = .ok (.bipush 64, 2) := by decide +kernel
theorem dX1_growRows_8 : decode cX1_growRows 8 = .ok (.imul, 1) := by decide +kernel
theorem dX1_growRows_9 : decode cX1_growRows 9 = .ok (.aload_n 0, 1) := by decide +kernel
theorem dX1_growRows_10 : decode cX1_growRows 10 = .ok (.getfield 26, 3) := by decide +kernel
theorem dX1_growRows_13 : decode cX1_growRows 13 = .ok (.arraylength, 1) := by decide +kernel
theorem dX1_growRows_14 : decode cX1_growRows 14 = .ok (.if_icmp .le 27, 3) := by decide +kernel
theorem dX1_growRows_17 : decode cX1_growRows 17 = .ok (.aload_n 0, 1) := by decide +kernel
theorem dX1_growRows_18 : decode cX1_growRows 18 = .ok (.aload_n 0, 1) := by decide +kernel
theorem dX1_growRows_19 : decode cX1_growRows 19 = .ok (.getfield 26, 3) := by decide +kernel
theorem dX1_growRows_22 : decode cX1_growRows 22 = .ok (.iconst 2, 1) := by decide +kernel
theorem dX1_growRows_23 : decode cX1_growRows 23 = .ok (.aload_n 0, 1) := by decide +kernel
theorem dX1_growRows_24 : decode cX1_growRows 24 = .ok (.getfield 26, 3) := by decide +kernel
theorem dX1_growRows_27 : decode cX1_growRows 27 = .ok (.arraylength, 1) := by decide +kernel
theorem dX1_growRows_28 : decode cX1_growRows 28 = .ok (.imul, 1) := by decide +kernel
theorem dX1_growRows_29 : decode cX1_growRows 29 = .ok (.sipush 25600, 3) := by decide +kernel
theorem dX1_growRows_32 : decode cX1_growRows 32 = .ok (.invokestatic 63, 3) := by decide +kernel
theorem dX1_growRows_35 : decode cX1_growRows 35 = .ok (.invokestatic 69, 3) := by decide +kernel
theorem dX1_growRows_38 : decode cX1_growRows 38 = .ok (.putfield 26, 3) := by decide +kernel
