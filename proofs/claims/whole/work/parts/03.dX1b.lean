theorem dX1_growRows_41 : decode cX1_growRows 41 = .ok (.return_, 1) := by decide +kernel
theorem dX1_settle_0 : decode cX1_settle 0 = .ok (.aload_n 0, 1) := by decide +kernel
theorem dX1_settle_1 : decode cX1_settle 1 = .ok (.getfield 11, 3) := by decide +kernel
theorem dX1_settle_4 : decode cX1_settle 4 = .ok (.istore_n 2, 1) := by decide +kernel
theorem dX1_settle_5 : decode cX1_settle 5 = .ok (.aload_n 0, 1) := by decide +kernel
theorem dX1_settle_6 : decode cX1_settle 6 = .ok (.getfield 15, 3) := by decide +kernel
theorem dX1_settle_9 : decode cX1_settle 9 = .ok (.iload_n 2, 1) := by decide +kernel
theorem dX1_settle_10 : decode cX1_settle 10 = .ok (.iload_n 1, 1) := by decide +kernel
theorem dX1_settle_11 : decode cX1_settle 11 = .ok (.iastore, 1) := by decide +kernel
theorem dX1_settle_12 : decode cX1_settle 12 = .ok (.aload_n 0, 1) := by decide +kernel
theorem dX1_settle_13 : decode cX1_settle 13 = .ok (.getfield 22, 3) := by decide +kernel
theorem dX1_settle_16 : decode cX1_settle 16 = .ok (.iload_n 2, 1) := by decide +kernel
theorem dX1_settle_17 : decode cX1_settle 17 = .ok (.aload_n 0, 1) := by decide +kernel
theorem dX1_settle_18 : decode cX1_settle 18 = .ok (.iload_n 2, 1) := by decide +kernel
theorem dX1_settle_19 : decode cX1_settle 19 = .ok (.invokevirtual 75, 3) := by decide +kernel
theorem dX1_settle_22 : decode cX1_settle 22 = .ok (.lastore, 1) := by decide +kernel
theorem dX1_settle_23 : decode cX1_settle 23 = .ok (.aload_n 0, 1) := by decide +kernel
theorem dX1_settle_24 : decode cX1_settle 24 = .ok (.getfield 19, 3) := by decide +kernel
theorem dX1_settle_27 : decode cX1_settle 27 = .ok (.iload_n 2, 1) := by decide +kernel
theorem dX1_settle_28 : decode cX1_settle 28 = .ok (.aload_n 0, 1) := by decide +kernel
theorem dX1_settle_29 : decode cX1_settle 29 = .ok (.iload_n 2, 1) := by decide +kernel
theorem dX1_settle_30 : decode cX1_settle 30 = .ok (.invokevirtual 79, 3) := by decide +kernel
theorem dX1_settle_33 : decode cX1_settle 33 = .ok (.iastore, 1) := by decide +kernel
theorem dX1_settle_34 : decode cX1_settle 34 = .ok (.aload_n 0, 1) := by decide +kernel
theorem dX1_settle_35 : decode cX1_settle 35 = .ok (.dup, 1) := by decide +kernel
theorem dX1_settle_36 : decode cX1_settle 36 = .ok (.getfield 11, 3) := by decide +kernel
theorem dX1_settle_39 : decode cX1_settle 39 = .ok (.iconst 1, 1) := by decide +kernel
theorem dX1_settle_40 : decode cX1_settle 40 = .ok (.iadd, 1) := by decide +kernel
theorem dX1_settle_41 : decode cX1_settle 41 = .ok (.putfield 11, 3) := by decide +kernel
theorem dX1_settle_44 : decode cX1_settle 44 = .ok (.iconst 2, 1) := by decide +kernel
theorem dX1_settle_45 : decode cX1_settle 45 = .ok (.iload_n 2, 1) := by decide +kernel
theorem dX1_settle_46 : decode cX1_settle 46 = .ok (.imul, 1) := by decide +kernel
theorem dX1_settle_47 : decode cX1_settle 47 = .ok (.ireturn, 1) := by decide +kernel
theorem dX1_findFirst_0 : decode cX1_findFirst 0 = .ok (.iconst 2, 1) := by decide +kernel
theorem dX1_findFirst_1 : decode cX1_findFirst 1 = .ok (.iload_n 1, 1) := by decide +kernel
theorem dX1_findFirst_2 : decode cX1_findFirst 2 = .ok (.imul, 1) := by decide +kernel
theorem dX1_findFirst_3 : decode cX1_findFirst 3 = .ok (.istore_n 2, 1) := by decide +kernel
theorem dX1_findFirst_4 : decode cX1_findFirst 4 = .ok (.aload_n 0, 1) := by decide +kernel
theorem dX1_findFirst_5 : decode cX1_findFirst 5 = .ok (.iload_n 2, 1) := by decide +kernel
theorem dX1_findFirst_6 : decode cX1_findFirst 6 = .ok (.iconst 0, 1) := by decide +kernel
theorem dX1_findFirst_7 : decode cX1_findFirst 7 = .ok (.invokevirtual 82, 3) := by decide +kernel
theorem dX1_findFirst_10 : decode cX1_findFirst 10 = .ok (.istore_n 3, 1) := by decide +kernel
theorem dX1_findFirst_11 : decode cX1_findFirst 11 = .ok (.iconst 0, 1) := by decide +kernel
theorem dX1_findFirst_12 : decode cX1_findFirst 12 = .ok (.istore 4, 2) := by decide +kernel
theorem dX1_findFirst_14 : decode cX1_findFirst 14 = .ok (.iload 4, 2) := by decide +kernel
theorem dX1_findFirst_16 : decode cX1_findFirst 16 = .ok (.iload_n 1, 1) := by decide +kernel
theorem dX1_findFirst_17 : decode cX1_findFirst 17 = .ok (.if_icmp .ge 58, 3) := by decide +kernel
theorem dX1_findFirst_20 : decode cX1_findFirst 20 = .ok (.aload_n 0, 1) := by decide +kernel
theorem dX1_findFirst_21 : decode cX1_findFirst 21 = .ok (.getfield 22, 3) := by decide +kernel
theorem dX1_findFirst_24 : decode cX1_findFirst 24 = .ok (.iload 4, 2) := by decide +kernel
theorem dX1_findFirst_26 : decode cX1_findFirst 26 = .ok (.laload, 1) := by decide +kernel
theorem dX1_findFirst_27 : decode cX1_findFirst 27 = .ok (.aload_n 0, 1) := by decide +kernel
theorem dX1_findFirst_28 : decode cX1_findFirst 28 = .ok (.getfield 22, 3) := by decide +kernel
theorem dX1_findFirst_31 : decode cX1_findFirst 31 = .ok (.iload_n 1, 1) := by decide +kernel
theorem dX1_findFirst_32 : decode cX1_findFirst 32 = .ok (.laload, 1) := by decide +kernel
theorem dX1_findFirst_33 : decode cX1_findFirst 33 = .ok (.lcmp, 1) := by decide +kernel
theorem dX1_findFirst_34 : decode cX1_findFirst 34 = .ok (.ifCond .ne 35, 3) := by decide +kernel
theorem dX1_findFirst_37 : decode cX1_findFirst 37 = .ok (.iconst 2, 1) := by decide +kernel
theorem dX1_findFirst_38 : decode cX1_findFirst 38 = .ok (.iload 4, 2) := by decide +kernel
theorem dX1_findFirst_40 : decode cX1_findFirst 40 = .ok (.imul, 1) := by decide +kernel
theorem dX1_findFirst_41 : decode cX1_findFirst 41 = .ok (.aload_n 0, 1) := by decide +kernel
theorem dX1_findFirst_42 : decode cX1_findFirst 42 = .ok (.iconst 2, 1) := by decide +kernel
theorem dX1_findFirst_43 : decode cX1_findFirst 43 = .ok (.iload 4, 2) := by decide +kernel
theorem dX1_findFirst_45 : decode cX1_findFirst 45 = .ok (.imul, 1) := by decide +kernel
theorem dX1_findFirst_46 : decode cX1_findFirst 46 = .ok (.iconst 0, 1) := by decide +kernel
theorem dX1_findFirst_47 : decode cX1_findFirst 47 = .ok (.invokevirtual 82, 3) := by decide +kernel
theorem dX1_findFirst_50 : decode cX1_findFirst 50 = .ok (.iload_n 3, 1) := by decide +kernel
theorem dX1_findFirst_51 : decode cX1_findFirst 51 = .ok (.ixor, 1) := by decide +kernel
theorem dX1_findFirst_52 : decode cX1_findFirst 52 = .ok (.iadd, 1) := by decide +kernel
theorem dX1_findFirst_53 : decode cX1_findFirst 53 = .ok (.istore 5, 2) := by decide +kernel
theorem dX1_findFirst_55 : decode cX1_findFirst 55 = .ok (.aload_n 0, 1) := by decide +kernel
theorem dX1_findFirst_56 : decode cX1_findFirst 56 = .ok (.iload 5, 2) := by decide +kernel
theorem dX1_findFirst_58 : decode cX1_findFirst 58 = .ok (.iload_n 2, 1) := by decide +kernel
theorem dX1_findFirst_59 : decode cX1_findFirst 59 = .ok (.invokevirtual 85, 3) := by decide +kernel
theorem dX1_findFirst_62 : decode cX1_findFirst 62 = .ok (.iconst (-1), 1) := by decide +kernel
theorem dX1_findFirst_63 : decode cX1_findFirst 63 = .ok (.if_icmp .ne 6, 3) := by decide +kernel
theorem dX1_findFirst_66 : decode cX1_findFirst 66 = .ok (.iload 5, 2) := by decide +kernel
theorem dX1_findFirst_68 : decode cX1_findFirst 68 = .ok (.ireturn, 1) := by decide +kernel
theorem dX1_findFirst_69 : decode cX1_findFirst 69 = .ok (.iinc 4 1, 3) := by decide +kernel
theorem dX1_findFirst_72 : decode cX1_findFirst 72 = .ok (.goto (-58), 3) := by decide +kernel
theorem dX1_findFirst_75 : decode cX1_findFirst 75 = .ok (.iload_n 2, 1) := by decide +kernel
theorem dX1_findFirst_76 : decode cX1_findFirst 76 = .ok (.ireturn, 1) := by decide +kernel
theorem dX1_markOf_0 : decode cX1_markOf 0 = .ok (.iload_n 1, 1) := by decide +kernel
theorem dX1_markOf_1 : decode cX1_markOf 1 = .ok (.bipush 64, 2) := by decide +kernel
theorem dX1_markOf_3 : decode cX1_markOf 3 = .ok (.imul, 1) := by decide +kernel
theorem dX1_markOf_4 : decode cX1_markOf 4 = .ok (.istore_n 2, 1) := by decide +kernel
theorem dX1_markOf_5 : decode cX1_markOf 5 = .ok (.aload_n 0, 1) := by decide +kernel
theorem dX1_markOf_6 : decode cX1_markOf 6 = .ok (.getfield 26, 3) := by decide +kernel
theorem dX1_markOf_9 : decode cX1_markOf 9 = .ok (.iload_n 2, 1) := by decide +kernel
theorem dX1_markOf_10 : decode cX1_markOf 10 = .ok (.laload, 1) := by decide +kernel
theorem dX1_markOf_11 : decode cX1_markOf 11 = .ok (.lconst 1, 1) := by decide +kernel
theorem dX1_markOf_12 : decode cX1_markOf 12 = .ok (.land, 1) := by decide +kernel
theorem dX1_markOf_13 : decode cX1_markOf 13 = .ok (.lneg, 1) := by decide +kernel
theorem dX1_markOf_14 : decode cX1_markOf 14 = .ok (.lstore_n 3, 1) := by decide +kernel
theorem dX1_markOf_15 : decode cX1_markOf 15 = .ok (.lconst 0, 1) := by decide +kernel
theorem dX1_markOf_16 : decode cX1_markOf 16 = .ok (.lstore 5, 2) := by decide +kernel
theorem dX1_markOf_18 : decode cX1_markOf 18 = .ok (.iconst 0, 1) := by decide +kernel
theorem dX1_markOf_19 : decode cX1_markOf 19 = .ok (.istore 7, 2) := by decide +kernel
theorem dX1_markOf_21 : decode cX1_markOf 21 = .ok (.iload 7, 2) := by decide +kernel
theorem dX1_markOf_23 : decode cX1_markOf 23 = .ok (.bipush 64, 2) := by decide +kernel
theorem dX1_markOf_25 : decode cX1_markOf 25 = .ok (.if_icmp .ge 39, 3) := by decide +kernel
theorem dX1_markOf_28 : decode cX1_markOf 28 = .ok (.lload 5, 2) := by decide +kernel
theorem dX1_markOf_30 : decode cX1_markOf 30 = .ok (.aload_n 0, 1) := by decide +kernel
theorem dX1_markOf_31 : decode cX1_markOf 31 = .ok (.getfield 26, 3) := by decide +kernel
theorem dX1_markOf_34 : decode cX1_markOf 34 = .ok (.iload_n 2, 1) := by decide +kernel
theorem dX1_markOf_35 : decode cX1_markOf 35 = .ok (.iload 7, 2) := by decide +kernel
theorem dX1_markOf_37 : decode cX1_markOf 37 = .ok (.iadd, 1) := by decide +kernel
theorem dX1_markOf_38 : decode cX1_markOf 38 = .ok (.laload, 1) := by decide +kernel
theorem dX1_markOf_39 : decode cX1_markOf 39 = .ok (.lxor, 1) := by decide +kernel
theorem dX1_markOf_40 : decode cX1_markOf 40 = .ok (.lload_n 3, 1) := by decide +kernel
theorem dX1_markOf_41 : decode cX1_markOf 41 = .ok (.lxor, 1) := by decide +kernel
theorem dX1_markOf_42 : decode cX1_markOf 42 = .ok (.ldc2_w 88, 3) := by decide +kernel
theorem dX1_markOf_45 : decode cX1_markOf 45 = .ok (.lmul, 1) := by decide +kernel
theorem dX1_markOf_46 : decode cX1_markOf 46 = .ok (.lstore 5, 2) := by decide +kernel
theorem dX1_markOf_48 : decode cX1_markOf 48 = .ok (.lload 5, 2) := by decide +kernel
theorem dX1_markOf_50 : decode cX1_markOf 50 = .ok (.lload 5, 2) := by decide +kernel
theorem dX1_markOf_52 : decode cX1_markOf 52 = .ok (.bipush 32, 2) := by decide +kernel
theorem dX1_markOf_54 : decode cX1_markOf 54 = .ok (.lushr, 1) := by decide +kernel
theorem dX1_markOf_55 : decode cX1_markOf 55 = .ok (.lxor, 1) := by decide +kernel
theorem dX1_markOf_56 : decode cX1_markOf 56 = .ok (.lstore 5, 2) := by decide +kernel
theorem dX1_markOf_58 : decode cX1_markOf 58 = .ok (.iinc 7 1, 3) := by decide +kernel
theorem dX1_markOf_61 : decode cX1_markOf 61 = .ok (.goto (-40), 3) := by decide +kernel
theorem dX1_markOf_64 : decode cX1_markOf 64 = .ok (.lload 5, 2) := by decide +kernel
theorem dX1_markOf_66 : decode cX1_markOf 66 = .ok (.lreturn, 1) := by decide +kernel
theorem dX1_isLeast_0 : decode cX1_isLeast 0 = .ok (.aload_n 0, 1) := by decide +kernel
theorem dX1_isLeast_1 : decode cX1_isLeast 1 = .ok (.getfield 19, 3) := by decide +kernel
theorem dX1_isLeast_4 : decode cX1_isLeast 4 = .ok (.iload_n 1, 1) := by decide +kernel
theorem dX1_isLeast_5 : decode cX1_isLeast 5 = .ok (.iaload, 1) := by decide +kernel
theorem dX1_isLeast_6 : decode cX1_isLeast 6 = .ok (.iconst 2, 1) := by decide +kernel
theorem dX1_isLeast_7 : decode cX1_isLeast 7 = .ok (.iload_n 1, 1) := by decide +kernel
theorem dX1_isLeast_8 : decode cX1_isLeast 8 = .ok (.imul, 1) := by decide +kernel
theorem dX1_isLeast_9 : decode cX1_isLeast 9 = .ok (.if_icmp .ne 7, 3) := by decide +kernel
theorem dX1_isLeast_12 : decode cX1_isLeast 12 = .ok (.iconst 1, 1) := by decide +kernel
theorem dX1_isLeast_13 : decode cX1_isLeast 13 = .ok (.goto 4, 3) := by decide +kernel
theorem dX1_isLeast_16 : decode cX1_isLeast 16 = .ok (.iconst 0, 1) := by decide +kernel
theorem dX1_isLeast_17 : decode cX1_isLeast 17 = .ok (.ireturn, 1) := by decide +kernel
theorem dX1_hangsOn_0 : decode cX1_hangsOn 0 = .ok (.iconst 0, 1) := by decide +kernel
theorem dX1_hangsOn_1 : decode cX1_hangsOn 1 = .ok (.istore_n 3, 1) := by decide +kernel
theorem dX1_hangsOn_2 : decode cX1_hangsOn 2 = .ok (.iload_n 3, 1) := by decide +kernel
theorem dX1_hangsOn_3 : decode cX1_hangsOn 3 = .ok (.bipush 64, 2) := by decide +kernel
theorem dX1_hangsOn_5 : decode cX1_hangsOn 5 = .ok (.if_icmp .ge 21, 3) := by decide +kernel
theorem dX1_hangsOn_8 : decode cX1_hangsOn 8 = .ok (.aload_n 0, 1) := by decide +kernel
theorem dX1_hangsOn_9 : decode cX1_hangsOn 9 = .ok (.iload_n 1, 1) := by decide +kernel
theorem dX1_hangsOn_10 : decode cX1_hangsOn 10 = .ok (.iload_n 2, 1) := by decide +kernel
theorem dX1_hangsOn_11 : decode cX1_hangsOn 11 = .ok (.iload_n 3, 1) := by decide +kernel
theorem dX1_hangsOn_12 : decode cX1_hangsOn 12 = .ok (.invokevirtual 90, 3) := by decide +kernel
theorem dX1_hangsOn_15 : decode cX1_hangsOn 15 = .ok (.ifCond .eq 5, 3) := by decide +kernel
theorem dX1_hangsOn_18 : decode cX1_hangsOn 18 = .ok (.iconst 1, 1) := by decide +kernel
theorem dX1_hangsOn_19 : decode cX1_hangsOn 19 = .ok (.ireturn, 1) := by decide +kernel
theorem dX1_hangsOn_20 : decode cX1_hangsOn 20 = .ok (.iinc 3 1, 3) := by decide +kernel
theorem dX1_hangsOn_23 : decode cX1_hangsOn 23 = .ok (.goto (-21), 3) := by decide +kernel
theorem dX1_hangsOn_26 : decode cX1_hangsOn 26 = .ok (.iconst 0, 1) := by decide +kernel
theorem dX1_hangsOn_27 : decode cX1_hangsOn 27 = .ok (.ireturn, 1) := by decide +kernel
theorem dX1_wordHangsOn_0 : decode cX1_wordHangsOn 0 = .ok (.aload_n 0, 1) := by decide +kernel
theorem dX1_wordHangsOn_1 : decode cX1_wordHangsOn 1 = .ok (.iload_n 1, 1) := by decide +kernel
theorem dX1_wordHangsOn_2 : decode cX1_wordHangsOn 2 = .ok (.iload_n 3, 1) := by decide +kernel
theorem dX1_wordHangsOn_3 : decode cX1_wordHangsOn 3 = .ok (.invokevirtual 40, 3) := by decide +kernel
theorem dX1_wordHangsOn_6 : decode cX1_wordHangsOn 6 = .ok (.lstore 4, 2) := by decide +kernel
theorem dX1_wordHangsOn_8 : decode cX1_wordHangsOn 8 = .ok (.iload_n 2, 1) := by decide +kernel
theorem dX1_wordHangsOn_9 : decode cX1_wordHangsOn 9 = .ok (.bipush 6, 2) := by decide +kernel
theorem dX1_wordHangsOn_11 : decode cX1_wordHangsOn 11 = .ok (.if_icmp .lt 28, 3) := by decide +kernel
theorem dX1_wordHangsOn_14 : decode cX1_wordHangsOn 14 = .ok (.lload 4, 2) := by decide +kernel
theorem dX1_wordHangsOn_16 : decode cX1_wordHangsOn 16 = .ok (.aload_n 0, 1) := by decide +kernel
theorem dX1_wordHangsOn_17 : decode cX1_wordHangsOn 17 = .ok (.iload_n 1, 1) := by decide +kernel
theorem dX1_wordHangsOn_18 : decode cX1_wordHangsOn 18 = .ok (.iload_n 3, 1) := by decide +kernel
theorem dX1_wordHangsOn_19 : decode cX1_wordHangsOn 19 = .ok (.iconst 1, 1) := by decide +kernel
theorem dX1_wordHangsOn_20 : decode cX1_wordHangsOn 20 = .ok (.iload_n 2, 1) := by decide +kernel
theorem dX1_wordHangsOn_21 : decode cX1_wordHangsOn 21 = .ok (.bipush 6, 2) := by decide +kernel
theorem dX1_wordHangsOn_23 : decode cX1_wordHangsOn 23 = .ok (.isub, 1) := by decide +kernel
theorem dX1_wordHangsOn_24 : decode cX1_wordHangsOn 24 = .ok (.ishl, 1) := by decide +kernel
theorem dX1_wordHangsOn_25 : decode cX1_wordHangsOn 25 = .ok (.ixor, 1) := by decide +kernel
theorem dX1_wordHangsOn_26 : decode cX1_wordHangsOn 26 = .ok (.invokevirtual 40, 3) := by decide +kernel
theorem dX1_wordHangsOn_29 : decode cX1_wordHangsOn 29 = .ok (.lcmp, 1) := by decide +kernel
theorem dX1_wordHangsOn_30 : decode cX1_wordHangsOn 30 = .ok (.ifCond .eq 7, 3) := by decide +kernel
theorem dX1_wordHangsOn_33 : decode cX1_wordHangsOn 33 = .ok (.iconst 1, 1) := by decide +kernel
theorem dX1_wordHangsOn_34 : decode cX1_wordHangsOn 34 = .ok (.goto 4, 3) := by decide +kernel
theorem dX1_wordHangsOn_37 : decode cX1_wordHangsOn 37 = .ok (.iconst 0, 1) := by decide +kernel
theorem dX1_wordHangsOn_38 : decode cX1_wordHangsOn 38 = .ok (.ireturn, 1) := by decide +kernel
theorem dX1_wordHangsOn_39 : decode cX1_wordHangsOn 39 = .ok (.lload 4, 2) := by decide +kernel
theorem dX1_wordHangsOn_41 : decode cX1_wordHangsOn 41 = .ok (.iconst 1, 1) := by decide +kernel
theorem dX1_wordHangsOn_42 : decode cX1_wordHangsOn 42 = .ok (.iload_n 2, 1) := by decide +kernel
theorem dX1_wordHangsOn_43 : decode cX1_wordHangsOn 43 = .ok (.ishl, 1) := by decide +kernel
theorem dX1_wordHangsOn_44 : decode cX1_wordHangsOn 44 = .ok (.lushr, 1) := by decide +kernel
theorem dX1_wordHangsOn_45 : decode cX1_wordHangsOn 45 = .ok (.lstore 6, 2) := by decide +kernel
theorem dX1_wordHangsOn_47 : decode cX1_wordHangsOn 47 = .ok (.lload 4, 2) := by decide +kernel
theorem dX1_wordHangsOn_49 : decode cX1_wordHangsOn 49 = .ok (.lload 6, 2) := by decide +kernel
theorem dX1_wordHangsOn_51 : decode cX1_wordHangsOn 51 = .ok (.lxor, 1) := by decide +kernel
theorem dX1_wordHangsOn_52 : decode cX1_wordHangsOn 52 = .ok (.getstatic 94, 3) := by decide +kernel
theorem dX1_wordHangsOn_55 : decode cX1_wordHangsOn 55 = .ok (.iload_n 2, 1) := by decide +kernel
theorem dX1_wordHangsOn_56 : decode cX1_wordHangsOn 56 = .ok (.laload, 1) := by decide +kernel
theorem dX1_wordHangsOn_57 : decode cX1_wordHangsOn 57 = .ok (.ldc2_w 97, 3) := by decide +kernel
theorem dX1_wordHangsOn_60 : decode cX1_wordHangsOn 60 = .ok (.lxor, 1) := by decide +kernel
theorem dX1_wordHangsOn_61 : decode cX1_wordHangsOn 61 = .ok (.land, 1) := by decide +kernel
theorem dX1_wordHangsOn_62 : decode cX1_wordHangsOn 62 = .ok (.lconst 0, 1) := by decide +kernel
theorem dX1_wordHangsOn_63 : decode cX1_wordHangsOn 63 = .ok (.lcmp, 1) := by decide +kernel
theorem dX1_wordHangsOn_64 : decode cX1_wordHangsOn 64 = .ok (.ifCond .eq 7, 3) := by decide +kernel
theorem dX1_wordHangsOn_67 : decode cX1_wordHangsOn 67 = .ok (.iconst 1, 1) := by decide +kernel
theorem dX1_wordHangsOn_68 : decode cX1_wordHangsOn 68 = .ok (.goto 4, 3) := by decide +kernel
theorem dX1_wordHangsOn_71 : decode cX1_wordHangsOn 71 = .ok (.iconst 0, 1) := by decide +kernel
theorem dX1_wordHangsOn_72 : decode cX1_wordHangsOn 72 = .ok (.ireturn, 1) := by decide +kernel
theorem dX1_wordOf_0 : decode cX1_wordOf 0 = .ok (.aload_n 0, 1) := by decide +kernel
theorem dX1_wordOf_1 : decode cX1_wordOf 1 = .ok (.getfield 26, 3) := by decide +kernel
theorem dX1_wordOf_4 : decode cX1_wordOf 4 = .ok (.iload_n 1, 1) := by decide +kernel
theorem dX1_wordOf_5 : decode cX1_wordOf 5 = .ok (.iconst 1, 1) := by decide +kernel
theorem dX1_wordOf_6 : decode cX1_wordOf 6 = .ok (.ishr, 1) := by decide +kernel
theorem dX1_wordOf_7 : decode cX1_wordOf 7 = .ok (.bipush 64, 2) := by decide +kernel
theorem dX1_wordOf_9 : decode cX1_wordOf 9 = .ok (.imul, 1) := by decide +kernel
theorem dX1_wordOf_10 : decode cX1_wordOf 10 = .ok (.iload_n 2, 1) := by decide +kernel
theorem dX1_wordOf_11 : decode cX1_wordOf 11 = .ok (.iadd, 1) := by decide +kernel
theorem dX1_wordOf_12 : decode cX1_wordOf 12 = .ok (.laload, 1) := by decide +kernel
theorem dX1_wordOf_13 : decode cX1_wordOf 13 = .ok (.lstore_n 3, 1) := by decide +kernel
theorem dX1_wordOf_14 : decode cX1_wordOf 14 = .ok (.iload_n 1, 1) := by decide +kernel
theorem dX1_wordOf_15 : decode cX1_wordOf 15 = .ok (.iconst 1, 1) := by decide +kernel
theorem dX1_wordOf_16 : decode cX1_wordOf 16 = .ok (.iand, 1) := by decide +kernel
theorem dX1_wordOf_17 : decode cX1_wordOf 17 = .ok (.iconst 1, 1) := by decide +kernel
theorem dX1_wordOf_18 : decode cX1_wordOf 18 = .ok (.if_icmp .ne 11, 3) := by decide +kernel
theorem dX1_wordOf_21 : decode cX1_wordOf 21 = .ok (.lload_n 3, 1) := by decide +kernel
theorem dX1_wordOf_22 : decode cX1_wordOf 22 = .ok (.ldc2_w 97, 3) := by decide +kernel
theorem dX1_wordOf_25 : decode cX1_wordOf 25 = .ok (.lxor, 1) := by decide +kernel
theorem dX1_wordOf_26 : decode cX1_wordOf 26 = .ok (.goto 4, 3) := by decide +kernel
theorem dX1_wordOf_29 : decode cX1_wordOf 29 = .ok (.lload_n 3, 1) := by decide +kernel
theorem dX1_wordOf_30 : decode cX1_wordOf 30 = .ok (.lreturn, 1) := by decide +kernel
theorem dX1_variableWord_0 : decode cX1_variableWord 0 = .ok (.iload_n 0, 1) := by decide +kernel
theorem dX1_variableWord_1 : decode cX1_variableWord 1 = .ok (.bipush 6, 2) := by decide +kernel
theorem dX1_variableWord_3 : decode cX1_variableWord 3 = .ok (.if_icmp .ge 9, 3) := by decide +kernel
theorem dX1_variableWord_6 : decode cX1_variableWord 6 = .ok (.getstatic 94, 3) := by decide +kernel
theorem dX1_variableWord_9 : decode cX1_variableWord 9 = .ok (.iload_n 0, 1) := by decide +kernel
theorem dX1_variableWord_10 : decode cX1_variableWord 10 = .ok (.laload, 1) := by decide +kernel
theorem dX1_variableWord_11 : decode cX1_variableWord 11 = .ok (.lreturn, 1) := by decide +kernel
theorem dX1_variableWord_12 : decode cX1_variableWord 12 = .ok (.iload_n 1, 1) := by decide +kernel
theorem dX1_variableWord_13 : decode cX1_variableWord 13 = .ok (.iload_n 0, 1) := by decide +kernel
theorem dX1_variableWord_14 : decode cX1_variableWord 14 = .ok (.bipush 6, 2) := by decide +kernel
theorem dX1_variableWord_16 : decode cX1_variableWord 16 = .ok (.isub, 1) := by decide +kernel
theorem dX1_variableWord_17 : decode cX1_variableWord 17 = .ok (.ishr, 1) := by decide +kernel
theorem dX1_variableWord_18 : decode cX1_variableWord 18 = .ok (.iconst 1, 1) := by decide +kernel
theorem dX1_variableWord_19 : decode cX1_variableWord 19 = .ok (.iand, 1) := by decide +kernel
theorem dX1_variableWord_20 : decode cX1_variableWord 20 = .ok (.iconst 1, 1) := by decide +kernel
theorem dX1_variableWord_21 : decode cX1_variableWord 21 = .ok (.if_icmp .ne 9, 3) := by decide +kernel
theorem dX1_variableWord_24 : decode cX1_variableWord 24 = .ok (.ldc2_w 97, 3) := by decide +kernel
theorem dX1_variableWord_27 : decode cX1_variableWord 27 = .ok (.goto 4, 3) := by decide +kernel
theorem dX1_variableWord_30 : decode cX1_variableWord 30 = .ok (.lconst 0, 1) := by decide +kernel
theorem dX1_variableWord_31 : decode cX1_variableWord 31 = .ok (.lreturn, 1) := by decide +kernel
set_option maxRecDepth 20000 in
theorem ggX1_addVariable_X1_growRows : GoodIn wsX1_addVariable wsX1_growRows := goodIn_r _ [7, 1, 2, 8, 9, 10, 11, 12, 13, 14, 15, 16, 17, 18, 19, 20, 21, 22, 23, 24, 25, 26, 27, 70, 71, 72, 73, 74] (by decide +kernel) (by decide +kernel)
set_option maxRecDepth 20000 in
theorem gX1_addVariable_X1_growRows : GoodIn wsX1_addVariable (wsV RX1 29 RX1 yX1_growRows wsX1_growRows) := goodIn_app (goodIn_of _ (by decide +kernel)) ggX1_addVariable_X1_growRows
set_option maxRecDepth 20000 in
theorem ggX1_addVariable_X1_variableWord : GoodIn wsX1_addVariable wsX1_variableWord := goodIn_r _ [30, 31, 32] (by decide +kernel) (by decide +kernel)
set_option maxRecDepth 20000 in
theorem gX1_addVariable_X1_variableWord : GoodIn wsX1_addVariable (va_wsS RX1 32 yX1_variableWord wsX1_variableWord) := goodIn_app (goodIn_of _ (by decide +kernel)) ggX1_addVariable_X1_variableWord
set_option maxRecDepth 20000 in
theorem ggX1_addVariable_X1_settle : GoodIn wsX1_addVariable wsX1_settle := goodIn_r _ [36, 1, 37, 38, 39, 40, 41, 42, 6, 43, 2, 44, 45, 46, 47, 48, 49, 50, 51, 52, 53, 54, 55, 56, 32, 57, 58, 59, 60, 61, 62, 63, 64, 65, 66, 67, 68, 69, 70, 71, 72, 73, 74] (by decide +kernel) (by decide +kernel)
set_option maxRecDepth 20000 in
theorem gX1_addVariable_X1_settle : GoodIn wsX1_addVariable (wsV RX1 36 RX1 yX1_settle wsX1_settle) := goodIn_app (goodIn_of _ (by decide +kernel)) ggX1_addVariable_X1_settle
set_option maxRecDepth 20000 in
theorem ggX1_addAnd_X1_growRows : GoodIn wsX1_addAnd wsX1_growRows := goodIn_r _ [7, 1, 2, 8, 9, 10, 11, 12, 13, 14, 15, 16, 17, 18, 19, 20, 21, 22, 23, 24, 25, 26, 27, 66, 67, 68, 69, 70] (by decide +kernel) (by decide +kernel)
set_option maxRecDepth 20000 in
theorem gX1_addAnd_X1_growRows : GoodIn wsX1_addAnd (wsV RX1 29 RX1 yX1_growRows wsX1_growRows) := goodIn_app (goodIn_of _ (by decide +kernel)) ggX1_addAnd_X1_growRows
set_option maxRecDepth 20000 in
theorem ggX1_addAnd_X1_wordOf : GoodIn wsX1_addAnd wsX1_wordOf := goodIn_r _ [31, 2, 32, 66, 67, 68, 69, 70] (by decide +kernel) (by decide +kernel)
set_option maxRecDepth 20000 in
theorem gX1_addAnd_X1_wordOf : GoodIn wsX1_addAnd (wsV RX1 40 RX1 yX1_wordOf wsX1_wordOf) := goodIn_app (goodIn_of _ (by decide +kernel)) ggX1_addAnd_X1_wordOf
set_option maxRecDepth 20000 in
theorem ggX1_addAnd_X1_settle : GoodIn wsX1_addAnd wsX1_settle := goodIn_r _ [36, 1, 37, 38, 39, 40, 41, 42, 6, 43, 2, 44, 45, 46, 47, 48, 49, 50, 51, 52, 28, 29, 30, 31, 32, 53, 54, 55, 56, 57, 58, 59, 60, 61, 62, 63, 64, 65, 66, 67, 68, 69, 70] (by decide +kernel) (by decide +kernel)
set_option maxRecDepth 20000 in
theorem gX1_addAnd_X1_settle : GoodIn wsX1_addAnd (wsV RX1 36 RX1 yX1_settle wsX1_settle) := goodIn_app (goodIn_of _ (by decide +kernel)) ggX1_addAnd_X1_settle
set_option maxRecDepth 20000 in
theorem ggX1_areSame_X1_firstOf : GoodIn wsX1_areSame wsX1_firstOf := goodIn_r _ [5, 6, 7, 8, 9, 10, 11] (by decide +kernel) (by decide +kernel)
set_option maxRecDepth 20000 in
theorem gX1_areSame_X1_firstOf : GoodIn wsX1_areSame (wsV RX1 43 RX1 yX1_firstOf wsX1_firstOf) := goodIn_app (goodIn_of _ (by decide +kernel)) ggX1_areSame_X1_firstOf
set_option maxRecDepth 20000 in
theorem ggX1_countClasses_X1_isLeast : GoodIn wsX1_countClasses wsX1_isLeast := goodIn_r _ [6, 7, 8, 9, 10, 11, 12] (by decide +kernel) (by decide +kernel)
set_option maxRecDepth 20000 in
theorem gX1_countClasses_X1_isLeast : GoodIn wsX1_countClasses (wsV RX1 46 RX1 yX1_isLeast wsX1_isLeast) := goodIn_app (goodIn_of _ (by decide +kernel)) ggX1_countClasses_X1_isLeast
set_option maxRecDepth 20000 in
theorem ggX1_countMerged_X1_isLeast : GoodIn wsX1_countMerged wsX1_isLeast := goodIn_r _ [7, 8, 9, 10, 11, 12, 13] (by decide +kernel) (by decide +kernel)
set_option maxRecDepth 20000 in
theorem gX1_countMerged_X1_isLeast : GoodIn wsX1_countMerged (wsV RX1 46 RX1 yX1_isLeast wsX1_isLeast) := goodIn_app (goodIn_of _ (by decide +kernel)) ggX1_countMerged_X1_isLeast
set_option maxRecDepth 20000 in
theorem ggX1_countOnes_X1_wordOf : GoodIn wsX1_countOnes wsX1_wordOf := goodIn_r _ [5, 6, 7, 15, 16, 17, 18, 19] (by decide +kernel) (by decide +kernel)
set_option maxRecDepth 20000 in
theorem gX1_countOnes_X1_wordOf : GoodIn wsX1_countOnes (wsV RX1 40 RX1 yX1_wordOf wsX1_wordOf) := goodIn_app (goodIn_of _ (by decide +kernel)) ggX1_countOnes_X1_wordOf
set_option maxRecDepth 20000 in
theorem ggX1_countOnes_J13_bitCount_95d88 : GoodIn wsX1_countOnes wsJ13_bitCount_95d88 := goodIn_r _ [11, 12, 13, 14] (by decide +kernel) (by decide +kernel)
set_option maxRecDepth 20000 in
theorem gX1_countOnes_J13_bitCount_95d88 : GoodIn wsX1_countOnes (va_wsS RX1 50 yJ13_bitCount_95d88 wsJ13_bitCount_95d88) := goodIn_app (goodIn_of _ (by decide +kernel)) ggX1_countOnes_J13_bitCount_95d88
set_option maxRecDepth 20000 in
theorem ggX1_valueIn_X1_wordOf : GoodIn wsX1_valueIn wsX1_wordOf := goodIn_r _ [5, 6, 7, 8, 9, 10, 11, 12] (by decide +kernel) (by decide +kernel)
set_option maxRecDepth 20000 in
theorem gX1_valueIn_X1_wordOf : GoodIn wsX1_valueIn (wsV RX1 40 RX1 yX1_wordOf wsX1_wordOf) := goodIn_app (goodIn_of _ (by decide +kernel)) ggX1_valueIn_X1_wordOf
set_option maxRecDepth 20000 in
theorem ggX1_supportOf_X1_hangsOn : GoodIn wsX1_supportOf wsX1_hangsOn := goodIn_r _ [5, 6, 7, 8, 4, 9, 10, 11, 12, 13, 14, 15, 16, 17, 18, 19, 20, 21] (by decide +kernel) (by decide +kernel)
set_option maxRecDepth 20000 in
theorem gX1_supportOf_X1_hangsOn : GoodIn wsX1_supportOf (wsV RX1 56 RX1 yX1_hangsOn wsX1_hangsOn) := goodIn_app (goodIn_of _ (by decide +kernel)) ggX1_supportOf_X1_hangsOn
set_option maxRecDepth 20000 in
theorem ggX1_leastDifference_X1_wordOf : GoodIn wsX1_leastDifference wsX1_wordOf := goodIn_r _ [5, 6, 7, 17, 18, 19, 20, 21] (by decide +kernel) (by decide +kernel)
set_option maxRecDepth 20000 in
theorem gX1_leastDifference_X1_wordOf : GoodIn wsX1_leastDifference (wsV RX1 40 RX1 yX1_wordOf wsX1_wordOf) := goodIn_app (goodIn_of _ (by decide +kernel)) ggX1_leastDifference_X1_wordOf
set_option maxRecDepth 20000 in
theorem ggX1_leastDifference_J13_numberOfTrailingZeros_95d88 : GoodIn wsX1_leastDifference wsJ13_numberOfTrailingZeros_95d88 := goodIn_r _ [11, 12, 13, 14, 15, 16] (by decide +kernel) (by decide +kernel)
set_option maxRecDepth 20000 in
theorem gX1_leastDifference_J13_numberOfTrailingZeros_95d88 : GoodIn wsX1_leastDifference (va_wsS RX1 60 yJ13_numberOfTrailingZeros_95d88 wsJ13_numberOfTrailingZeros_95d88) := goodIn_app (goodIn_of _ (by decide +kernel)) ggX1_leastDifference_J13_numberOfTrailingZeros_95d88
set_option maxRecDepth 20000 in
theorem ggX1_growRows_J7_copyOf_c38d5 : GoodIn wsX1_growRows wsJ7_copyOf_c38d5 := goodIn_r _ [10, 11, 12, 13, 14, 15, 16, 17, 18, 4, 5, 6, 19, 20, 21, 22] (by decide +kernel) (by decide +kernel)
set_option maxRecDepth 20000 in
theorem gX1_growRows_J7_copyOf_c38d5 : GoodIn wsX1_growRows (va_wsS RX1 69 yJ7_copyOf_c38d5 wsJ7_copyOf_c38d5) := goodIn_app (goodIn_of _ (by decide +kernel)) ggX1_growRows_J7_copyOf_c38d5
set_option maxRecDepth 20000 in
theorem ggX1_settle_X1_markOf : GoodIn wsX1_settle wsX1_markOf := goodIn_r _ [9, 10, 11, 38, 39, 40, 41, 42] (by decide +kernel) (by decide +kernel)
set_option maxRecDepth 20000 in
theorem gX1_settle_X1_markOf : GoodIn wsX1_settle (wsV RX1 75 RX1 yX1_markOf wsX1_markOf) := goodIn_app (goodIn_of _ (by decide +kernel)) ggX1_settle_X1_markOf
set_option maxRecDepth 20000 in
theorem ggX1_settle_X1_findFirst : GoodIn wsX1_settle wsX1_findFirst := goodIn_r _ [15, 3, 16, 17, 18, 8, 19, 20, 21, 22, 23, 10, 24, 25, 26, 27, 28, 29, 30, 31, 32, 33, 34, 35, 36, 37, 38, 39, 40, 41, 42] (by decide +kernel) (by decide +kernel)
set_option maxRecDepth 20000 in
theorem gX1_settle_X1_findFirst : GoodIn wsX1_settle (wsV RX1 79 RX1 yX1_findFirst wsX1_findFirst) := goodIn_app (goodIn_of _ (by decide +kernel)) ggX1_settle_X1_findFirst
set_option maxRecDepth 20000 in
theorem ggX1_findFirst_X1_valueIn : GoodIn wsX1_findFirst wsX1_valueIn := goodIn_r _ [6, 7, 8, 9, 5, 10, 11, 12, 26, 27, 28, 29, 30] (by decide +kernel) (by decide +kernel)
set_option maxRecDepth 20000 in
theorem gX1_findFirst_X1_valueIn : GoodIn wsX1_findFirst (wsV RX1 82 RX1 yX1_valueIn wsX1_valueIn) := goodIn_app (goodIn_of _ (by decide +kernel)) ggX1_findFirst_X1_valueIn
set_option maxRecDepth 20000 in
theorem ggX1_findFirst_X1_leastDifference : GoodIn wsX1_findFirst wsX1_leastDifference := goodIn_r _ [16, 7, 8, 9, 5, 10, 11, 12, 17, 18, 19, 20, 21, 22, 23, 24, 25, 26, 27, 28, 29, 30] (by decide +kernel) (by decide +kernel)
set_option maxRecDepth 20000 in
theorem gX1_findFirst_X1_leastDifference : GoodIn wsX1_findFirst (wsV RX1 85 RX1 yX1_leastDifference wsX1_leastDifference) := goodIn_app (goodIn_of _ (by decide +kernel)) ggX1_findFirst_X1_leastDifference
set_option maxRecDepth 20000 in
theorem ggX1_hangsOn_X1_wordHangsOn : GoodIn wsX1_hangsOn wsX1_wordHangsOn := goodIn_r _ [5, 6, 7, 8, 9, 10, 4, 11, 12, 13, 14, 15, 16, 17] (by decide +kernel) (by decide +kernel)
set_option maxRecDepth 20000 in
theorem gX1_hangsOn_X1_wordHangsOn : GoodIn wsX1_hangsOn (wsV RX1 90 RX1 yX1_wordHangsOn wsX1_wordHangsOn) := goodIn_app (goodIn_of _ (by decide +kernel)) ggX1_hangsOn_X1_wordHangsOn
set_option maxRecDepth 20000 in
theorem ggX1_wordHangsOn_X1_wordOf : GoodIn wsX1_wordHangsOn wsX1_wordOf := goodIn_r _ [7, 8, 2, 9, 10, 11, 12, 13] (by decide +kernel) (by decide +kernel)
set_option maxRecDepth 20000 in
theorem gX1_wordHangsOn_X1_wordOf : GoodIn wsX1_wordHangsOn (wsV RX1 40 RX1 yX1_wordOf wsX1_wordOf) := goodIn_app (goodIn_of _ (by decide +kernel)) ggX1_wordHangsOn_X1_wordOf
