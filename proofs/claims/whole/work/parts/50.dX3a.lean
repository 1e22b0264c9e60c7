theorem dX3_init_0 : decode cX3_init 0 = .ok (.aload_n 0, 1) := by decide +kernel
theorem dX3_init_1 : decode cX3_init 1 = .ok (.invokespecial 1, 3) := by decide +kernel
theorem dX3_init_4 : decode cX3_init 4 = .ok (.aload_n 0, 1) := by decide +kernel
theorem dX3_init_5 : decode cX3_init 5 = .ok (.sipush 401, 3) := by decide +kernel
theorem dX3_init_8 : decode cX3_init 8 = .ok (.newarray .int, 2) := by decide +kernel
theorem dX3_init_10 : decode cX3_init 10 = .ok (.putfield 7, 3) := by decide +kernel
theorem dX3_init_13 : decode cX3_init 13 = .ok (.aload_n 0, 1) := by decide +kernel
theorem dX3_init_14 : decode cX3_init 14 = .ok (.sipush 25664, 3) := by decide +kernel
theorem dX3_init_17 : decode cX3_init 17 = .ok (.newarray .long, 2) := by decide +kernel
theorem dX3_init_19 : decode cX3_init 19 = .ok (.putfield 13, 3) := by decide +kernel
theorem dX3_init_22 : decode cX3_init 22 = .ok (.aload_n 0, 1) := by decide +kernel
theorem dX3_init_23 : decode cX3_init 23 = .ok (.iconst 4, 1) := by decide +kernel
theorem dX3_init_24 : decode cX3_init 24 = .ok (.newarray .int, 2) := by decide +kernel
theorem dX3_init_26 : decode cX3_init 26 = .ok (.putfield 17, 3) := by decide +kernel
theorem dX3_init_29 : decode cX3_init 29 = .ok (.aload_n 0, 1) := by decide +kernel
theorem dX3_init_30 : decode cX3_init 30 = .ok (.bipush 8, 2) := by decide +kernel
theorem dX3_init_32 : decode cX3_init 32 = .ok (.newarray .int, 2) := by decide +kernel
theorem dX3_init_34 : decode cX3_init 34 = .ok (.putfield 20, 3) := by decide +kernel
theorem dX3_init_37 : decode cX3_init 37 = .ok (.aload_n 0, 1) := by decide +kernel
theorem dX3_init_38 : decode cX3_init 38 = .ok (.bipush 8, 2) := by decide +kernel
theorem dX3_init_40 : decode cX3_init 40 = .ok (.newarray .int, 2) := by decide +kernel
theorem dX3_init_42 : decode cX3_init 42 = .ok (.putfield 23, 3) := by decide +kernel
theorem dX3_init_45 : decode cX3_init 45 = .ok (.aload_n 0, 1) := by decide +kernel
theorem dX3_init_46 : decode cX3_init 46 = .ok (.bipush 8, 2) := by decide +kernel
theorem dX3_init_48 : decode cX3_init 48 = .ok (.newarray .int, 2) := by decide +kernel
theorem dX3_init_50 : decode cX3_init 50 = .ok (.putfield 26, 3) := by decide +kernel
theorem dX3_init_53 : decode cX3_init 53 = .ok (.aload_n 0, 1) := by decide +kernel
theorem dX3_init_54 : decode cX3_init 54 = .ok (.iconst 2, 1) := by decide +kernel
theorem dX3_init_55 : decode cX3_init 55 = .ok (.newarray .int, 2) := by decide +kernel
theorem dX3_init_57 : decode cX3_init 57 = .ok (.putfield 29, 3) := by decide +kernel
theorem dX3_init_60 : decode cX3_init 60 = .ok (.aload_n 0, 1) := by decide +kernel
theorem dX3_init_61 : decode cX3_init 61 = .ok (.bipush 32, 2) := by decide +kernel
theorem dX3_init_63 : decode cX3_init 63 = .ok (.newarray .int, 2) := by decide +kernel
theorem dX3_init_65 : decode cX3_init 65 = .ok (.putfield 32, 3) := by decide +kernel
theorem dX3_init_68 : decode cX3_init 68 = .ok (.aload_n 0, 1) := by decide +kernel
theorem dX3_init_69 : decode cX3_init 69 = .ok (.bipush 32, 2) := by decide +kernel
theorem dX3_init_71 : decode cX3_init 71 = .ok (.newarray .int, 2) := by decide +kernel
theorem dX3_init_73 : decode cX3_init 73 = .ok (.putfield 35, 3) := by decide +kernel
theorem dX3_init_76 : decode cX3_init 76 = .ok (.aload_n 0, 1) := by decide +kernel
theorem dX3_init_77 : decode cX3_init 77 = .ok (.iconst 2, 1) := by decide +kernel
theorem dX3_init_78 : decode cX3_init 78 = .ok (.newarray .int, 2) := by decide +kernel
theorem dX3_init_80 : decode cX3_init 80 = .ok (.putfield 38, 3) := by decide +kernel
theorem dX3_init_83 : decode cX3_init 83 = .ok (.aload_n 0, 1) := by decide +kernel
theorem dX3_init_84 : decode cX3_init 84 = .ok (.invokevirtual 41, 3) := by decide +kernel
theorem dX3_init_87 : decode cX3_init 87 = .ok (.return_, 1) := by decide +kernel
theorem dX3_thrown_0 : decode cX3_thrown 0 = .ok (.aload_n 0, 1) := by decide +kernel
theorem dX3_thrown_1 : decode cX3_thrown 1 = .ok (.getfield 44, 3) := by decide +kernel
theorem dX3_thrown_4 : decode cX3_thrown 4 = .ok (.ireturn, 1) := by decide +kernel
theorem dX3_isIn_0 : decode cX3_isIn 0 = .ok (.iload_n 0, 1) := by decide +kernel
theorem dX3_isIn_1 : decode cX3_isIn 1 = .ok (.ifCond .lt 12, 3) := by decide +kernel
theorem dX3_isIn_4 : decode cX3_isIn 4 = .ok (.iload_n 0, 1) := by decide +kernel
theorem dX3_isIn_5 : decode cX3_isIn 5 = .ok (.iload_n 1, 1) := by decide +kernel
theorem dX3_isIn_6 : decode cX3_isIn 6 = .ok (.if_icmp .ge 7, 3) := by decide +kernel
theorem dX3_isIn_9 : decode cX3_isIn 9 = .ok (.iconst 1, 1) := by decide +kernel
theorem dX3_isIn_10 : decode cX3_isIn 10 = .ok (.goto 4, 3) := by decide +kernel
theorem dX3_isIn_13 : decode cX3_isIn 13 = .ok (.iconst 0, 1) := by decide +kernel
theorem dX3_isIn_14 : decode cX3_isIn 14 = .ok (.ireturn, 1) := by decide +kernel
theorem dX3_isLiteral_0 : decode cX3_isLiteral 0 = .ok (.iload_n 1, 1) := by decide +kernel
theorem dX3_isLiteral_1 : decode cX3_isLiteral 1 = .ok (.ifCond .lt 17, 3) := by decide +kernel
theorem dX3_isLiteral_4 : decode cX3_isLiteral 4 = .ok (.iload_n 1, 1) := by decide +kernel
theorem dX3_isLiteral_5 : decode cX3_isLiteral 5 = .ok (.iconst 2, 1) := by decide +kernel
theorem dX3_isLiteral_6 : decode cX3_isLiteral 6 = .ok (.aload_n 0, 1) := by decide +kernel
theorem dX3_isLiteral_7 : decode cX3_isLiteral 7 = .ok (.getfield 48, 3) := by decide +kernel
theorem dX3_isLiteral_10 : decode cX3_isLiteral 10 = .ok (.imul, 1) := by decide +kernel
theorem dX3_isLiteral_11 : decode cX3_isLiteral 11 = .ok (.if_icmp .ge 7, 3) := by decide +kernel
theorem dX3_isLiteral_14 : decode cX3_isLiteral 14 = .ok (.iconst 1, 1) := by decide +kernel
theorem dX3_isLiteral_15 : decode cX3_isLiteral 15 = .ok (.goto 4, 3) := by decide +kernel
theorem dX3_isLiteral_18 : decode cX3_isLiteral 18 = .ok (.iconst 0, 1) := by decide +kernel
theorem dX3_isLiteral_19 : decode cX3_isLiteral 19 = .ok (.ireturn, 1) := by decide +kernel
theorem dX3_isSide_0 : decode cX3_isSide 0 = .ok (.iload_n 0, 1) := by decide +kernel
theorem dX3_isSide_1 : decode cX3_isSide 1 = .ok (.ifCond .eq 8, 3) := by decide +kernel
theorem dX3_isSide_4 : decode cX3_isSide 4 = .ok (.iload_n 0, 1) := by decide +kernel
theorem dX3_isSide_5 : decode cX3_isSide 5 = .ok (.iconst 1, 1) := by decide +kernel
theorem dX3_isSide_6 : decode cX3_isSide 6 = .ok (.if_icmp .ne 7, 3) := by decide +kernel
theorem dX3_isSide_9 : decode cX3_isSide 9 = .ok (.iconst 1, 1) := by decide +kernel
theorem dX3_isSide_10 : decode cX3_isSide 10 = .ok (.goto 4, 3) := by decide +kernel
theorem dX3_isSide_13 : decode cX3_isSide 13 = .ok (.iconst 0, 1) := by decide +kernel
theorem dX3_isSide_14 : decode cX3_isSide 14 = .ok (.ireturn, 1) := by decide +kernel
theorem dX3_present_0 : decode cX3_present 0 = .ok (.iconst 1, 1) := by decide +kernel
theorem dX3_present_1 : decode cX3_present 1 = .ok (.aload_n 0, 1) := by decide +kernel
theorem dX3_present_2 : decode cX3_present 2 = .ok (.getfield 51, 3) := by decide +kernel
theorem dX3_present_5 : decode cX3_present 5 = .ok (.ishl, 1) := by decide +kernel
theorem dX3_present_6 : decode cX3_present 6 = .ok (.iconst 1, 1) := by decide +kernel
theorem dX3_present_7 : decode cX3_present 7 = .ok (.isub, 1) := by decide +kernel
theorem dX3_present_8 : decode cX3_present 8 = .ok (.iconst 1, 1) := by decide +kernel
theorem dX3_present_9 : decode cX3_present 9 = .ok (.aload_n 0, 1) := by decide +kernel
theorem dX3_present_10 : decode cX3_present 10 = .ok (.getfield 54, 3) := by decide +kernel
theorem dX3_present_13 : decode cX3_present 13 = .ok (.ishl, 1) := by decide +kernel
theorem dX3_present_14 : decode cX3_present 14 = .ok (.iconst 1, 1) := by decide +kernel
theorem dX3_present_15 : decode cX3_present 15 = .ok (.isub, 1) := by decide +kernel
theorem dX3_present_16 : decode cX3_present 16 = .ok (.bipush 8, 2) := by decide +kernel
theorem dX3_present_18 : decode cX3_present 18 = .ok (.ishl, 1) := by decide +kernel
theorem dX3_present_19 : decode cX3_present 19 = .ok (.ior, 1) := by decide +kernel
theorem dX3_present_20 : decode cX3_present 20 = .ok (.ireturn, 1) := by decide +kernel
theorem dX3_bit_0 : decode cX3_bit 0 = .ok (.aload_n 0, 1) := by decide +kernel
theorem dX3_bit_1 : decode cX3_bit 1 = .ok (.getfield 13, 3) := by decide +kernel
theorem dX3_bit_4 : decode cX3_bit 4 = .ok (.bipush 64, 2) := by decide +kernel
theorem dX3_bit_6 : decode cX3_bit 6 = .ok (.iload_n 1, 1) := by decide +kernel
theorem dX3_bit_7 : decode cX3_bit 7 = .ok (.iconst 2, 1) := by decide +kernel
theorem dX3_bit_8 : decode cX3_bit 8 = .ok (.idiv, 1) := by decide +kernel
theorem dX3_bit_9 : decode cX3_bit 9 = .ok (.imul, 1) := by decide +kernel
theorem dX3_bit_10 : decode cX3_bit 10 = .ok (.iload_n 2, 1) := by decide +kernel
theorem dX3_bit_11 : decode cX3_bit 11 = .ok (.bipush 6, 2) := by decide +kernel
theorem dX3_bit_13 : decode cX3_bit 13 = .ok (.ishr, 1) := by decide +kernel
theorem dX3_bit_14 : decode cX3_bit 14 = .ok (.iadd, 1) := by decide +kernel
theorem dX3_bit_15 : decode cX3_bit 15 = .ok (.laload, 1) := by decide +kernel
theorem dX3_bit_16 : decode cX3_bit 16 = .ok (.lstore_n 3, 1) := by decide +kernel
theorem dX3_bit_17 : decode cX3_bit 17 = .ok (.lload_n 3, 1) := by decide +kernel
theorem dX3_bit_18 : decode cX3_bit 18 = .ok (.iload_n 2, 1) := by decide +kernel
theorem dX3_bit_19 : decode cX3_bit 19 = .ok (.bipush 63, 2) := by decide +kernel
theorem dX3_bit_21 : decode cX3_bit 21 = .ok (.iand, 1) := by decide +kernel
theorem dX3_bit_22 : decode cX3_bit 22 = .ok (.lushr, 1) := by decide +kernel
theorem dX3_bit_23 : decode cX3_bit 23 = .ok (.lconst 1, 1) := by decide +kernel
theorem dX3_bit_24 : decode cX3_bit 24 = .ok (.land, 1) := by decide +kernel
theorem dX3_bit_25 : decode cX3_bit 25 = .ok (.l2i, 1) := by decide +kernel
theorem dX3_bit_26 : decode cX3_bit 26 = .ok (.iload_n 1, 1) := by decide +kernel
theorem dX3_bit_27 : decode cX3_bit 27 = .ok (.iconst 1, 1) := by decide +kernel
theorem dX3_bit_28 : decode cX3_bit 28 = .ok (.iand, 1) := by decide +kernel
theorem dX3_bit_29 : decode cX3_bit 29 = .ok (.ixor, 1) := by decide +kernel
theorem dX3_bit_30 : decode cX3_bit 30 = .ok (.ireturn, 1) := by decide +kernel
theorem dX3_variable_0 : decode cX3_variable 0 = .ok (.iconst 0, 1) := by decide +kernel
theorem dX3_variable_1 : decode cX3_variable 1 = .ok (.istore_n 2, 1) := by decide +kernel
theorem dX3_variable_2 : decode cX3_variable 2 = .ok (.iload_n 2, 1) := by decide +kernel
theorem dX3_variable_3 : decode cX3_variable 3 = .ok (.bipush 64, 2) := by decide +kernel
theorem dX3_variable_5 : decode cX3_variable 5 = .ok (.if_icmp .ge 24, 3) := by decide +kernel
theorem dX3_variable_8 : decode cX3_variable 8 = .ok (.aload_n 0, 1) := by decide +kernel
theorem dX3_variable_9 : decode cX3_variable 9 = .ok (.getfield 13, 3) := by decide +kernel
theorem dX3_variable_12 : decode cX3_variable 12 = .ok (.bipush 64, 2) := by decide +kernel
theorem dX3_variable_14 : decode cX3_variable 14 = .ok (.aload_n 0, 1) := by decide +kernel
theorem dX3_variable_15 : decode cX3_variable 15 = .ok (.getfield 48, 3) := by decide +kernel
theorem dX3_variable_18 : decode cX3_variable 18 = .ok (.imul, 1) := by decide +kernel
theorem dX3_variable_19 : decode cX3_variable 19 = .ok (.iload_n 2, 1) := by decide +kernel
theorem dX3_variable_20 : decode cX3_variable 20 = .ok (.iadd, 1) := by decide +kernel
theorem dX3_variable_21 : decode cX3_variable 21 = .ok (.lconst 0, 1) := by decide +kernel
theorem dX3_variable_22 : decode cX3_variable 22 = .ok (.lastore, 1) := by decide +kernel
theorem dX3_variable_23 : decode cX3_variable 23 = .ok (.iinc 2 1, 3) := by decide +kernel
theorem dX3_variable_26 : decode cX3_variable 26 = .ok (.goto (-24), 3) := by decide +kernel
theorem dX3_variable_29 : decode cX3_variable 29 = .ok (.iconst 0, 1) := by decide +kernel
theorem dX3_variable_30 : decode cX3_variable 30 = .ok (.istore_n 2, 1) := by decide +kernel
theorem dX3_variable_31 : decode cX3_variable 31 = .ok (.iload_n 2, 1) := by decide +kernel
theorem dX3_variable_32 : decode cX3_variable 32 = .ok (.sipush 4096, 3) := by decide +kernel
theorem dX3_variable_35 : decode cX3_variable 35 = .ok (.if_icmp .ge 44, 3) := by decide +kernel
theorem dX3_variable_38 : decode cX3_variable 38 = .ok (.iload_n 2, 1) := by decide +kernel
theorem dX3_variable_39 : decode cX3_variable 39 = .ok (.iload_n 1, 1) := by decide +kernel
theorem dX3_variable_40 : decode cX3_variable 40 = .ok (.ishr, 1) := by decide +kernel
theorem dX3_variable_41 : decode cX3_variable 41 = .ok (.iconst 1, 1) := by decide +kernel
theorem dX3_variable_42 : decode cX3_variable 42 = .ok (.iand, 1) := by decide +kernel
theorem dX3_variable_43 : decode cX3_variable 43 = .ok (.iconst 1, 1) := by decide +kernel
theorem dX3_variable_44 : decode cX3_variable 44 = .ok (.if_icmp .ne 29, 3) := by decide +kernel
theorem dX3_variable_47 : decode cX3_variable 47 = .ok (.aload_n 0, 1) := by decide +kernel
theorem dX3_variable_48 : decode cX3_variable 48 = .ok (.getfield 13, 3) := by decide +kernel
theorem dX3_variable_51 : decode cX3_variable 51 = .ok (.bipush 64, 2) := by decide +kernel
theorem dX3_variable_53 : decode cX3_variable 53 = .ok (.aload_n 0, 1) := by decide +kernel
theorem dX3_variable_54 : decode cX3_variable 54 = .ok (.getfield 48, 3) := by decide +kernel
theorem dX3_variable_57 : decode cX3_variable 57 = .ok (.imul, 1) := by decide +kernel
theorem dX3_variable_58 : decode cX3_variable 58 = .ok (.iload_n 2, 1) := by decide +kernel
theorem dX3_variable_59 : decode cX3_variable 59 = .ok (.bipush 6, 2) := by decide +kernel
theorem dX3_variable_61 : decode cX3_variable 61 = .ok (.ishr, 1) := by decide +kernel
theorem dX3_variable_62 : decode cX3_variable 62 = .ok (.iadd, 1) := by decide +kernel
theorem dX3_variable_63 : decode cX3_variable 63 = .ok (.dup2, 1) := by decide +kernel
theorem dX3_variable_64 : decode cX3_variable 64 = .ok (.laload, 1) := by decide +kernel
theorem dX3_variable_65 : decode cX3_variable 65 = .ok (.lconst 1, 1) := by decide +kernel
theorem dX3_variable_66 : decode cX3_variable 66 = .ok (.iload_n 2, 1) := by decide +kernel
theorem dX3_variable_67 : decode cX3_variable 67 = .ok (.bipush 63, 2) := by decide +kernel
theorem dX3_variable_69 : decode cX3_variable 69 = .ok (.iand, 1) := by decide +kernel
theorem dX3_variable_70 : decode cX3_variable 70 = .ok (.lshl, 1) := by decide +kernel
theorem dX3_variable_71 : decode cX3_variable 71 = .ok (.lor, 1) := by decide +kernel
theorem dX3_variable_72 : decode cX3_variable 72 = .ok (.lastore, 1) := by decide +kernel
theorem dX3_variable_73 : decode cX3_variable 73 = .ok (.iinc 2 1, 3) := by decide +kernel
theorem dX3_variable_76 : decode cX3_variable 76 = .ok (.goto (-45), 3) := by decide +kernel
theorem dX3_variable_79 : decode cX3_variable 79 = .ok (.aload_n 0, 1) := by decide +kernel
theorem dX3_variable_80 : decode cX3_variable 80 = .ok (.getfield 7, 3) := by decide +kernel
theorem dX3_variable_83 : decode cX3_variable 83 = .ok (.aload_n 0, 1) := by decide +kernel
theorem dX3_variable_84 : decode cX3_variable 84 = .ok (.getfield 48, 3) := by decide +kernel
theorem dX3_variable_87 : decode cX3_variable 87 = .ok (.iconst (-1), 1) := by decide +kernel
theorem dX3_variable_88 : decode cX3_variable 88 = .ok (.iastore, 1) := by decide +kernel
theorem dX3_variable_89 : decode cX3_variable 89 = .ok (.aload_n 0, 1) := by decide +kernel
theorem dX3_variable_90 : decode cX3_variable 90 = .ok (.dup, 1) := by decide +kernel
theorem dX3_variable_91 : decode cX3_variable 91 = .ok (.getfield 48, 3) := by decide +kernel
theorem dX3_variable_94 : decode cX3_variable 94 = .ok (.iconst 1, 1) := by decide +kernel
theorem dX3_variable_95 : decode cX3_variable 95 = .ok (.iadd, 1) := by decide +kernel
theorem dX3_variable_96 : decode cX3_variable 96 = .ok (.putfield 48, 3) := by decide +kernel
theorem dX3_variable_99 : decode cX3_variable 99 = .ok (.iconst 2, 1) := by decide +kernel
theorem dX3_variable_100 : decode cX3_variable 100 = .ok (.aload_n 0, 1) := by decide +kernel
theorem dX3_variable_101 : decode cX3_variable 101 = .ok (.getfield 48, 3) := by decide +kernel
theorem dX3_variable_104 : decode cX3_variable 104 = .ok (.imul, 1) := by decide +kernel
theorem dX3_variable_105 : decode cX3_variable 105 = .ok (.iconst 2, 1) := by decide +kernel
theorem dX3_variable_106 : decode cX3_variable 106 = .ok (.isub, 1) := by decide +kernel
theorem dX3_variable_107 : decode cX3_variable 107 = .ok (.ireturn, 1) := by decide +kernel
theorem dX3_input_0 : decode cX3_input 0 = .ok (.aload_n 0, 1) := by decide +kernel
theorem dX3_input_1 : decode cX3_input 1 = .ok (.aload_n 0, 1) := by decide +kernel
theorem dX3_input_2 : decode cX3_input 2 = .ok (.getfield 51, 3) := by decide +kernel
theorem dX3_input_5 : decode cX3_input 5 = .ok (.bipush 8, 2) := by decide +kernel
theorem dX3_input_7 : decode cX3_input 7 = .ok (.if_icmp .ge 17, 3) := by decide +kernel
theorem dX3_input_10 : decode cX3_input 10 = .ok (.aload_n 0, 1) := by decide +kernel
theorem dX3_input_11 : decode cX3_input 11 = .ok (.getfield 48, 3) := by decide +kernel
theorem dX3_input_14 : decode cX3_input 14 = .ok (.sipush 400, 3) := by decide +kernel
theorem dX3_input_17 : decode cX3_input 17 = .ok (.if_icmp .ge 7, 3) := by decide +kernel
theorem dX3_input_20 : decode cX3_input 20 = .ok (.iconst 0, 1) := by decide +kernel
theorem dX3_input_21 : decode cX3_input 21 = .ok (.goto 4, 3) := by decide +kernel
theorem dX3_input_24 : decode cX3_input 24 = .ok (.iconst 1, 1) := by decide +kernel
theorem dX3_input_25 : decode cX3_input 25 = .ok (.putfield 44, 3) := by decide +kernel
theorem dX3_input_28 : decode cX3_input 28 = .ok (.aload_n 0, 1) := by decide +kernel
theorem dX3_input_29 : decode cX3_input 29 = .ok (.getfield 44, 3) := by decide +kernel
theorem dX3_input_32 : decode cX3_input 32 = .ok (.ifCond .le 5, 3) := by decide +kernel
theorem dX3_input_35 : decode cX3_input 35 = .ok (.iconst 0, 1) := by decide +kernel
theorem dX3_input_36 : decode cX3_input 36 = .ok (.ireturn, 1) := by decide +kernel
theorem dX3_input_37 : decode cX3_input 37 = .ok (.aload_n 0, 1) := by decide +kernel
theorem dX3_input_38 : decode cX3_input 38 = .ok (.dup, 1) := by decide +kernel
theorem dX3_input_39 : decode cX3_input 39 = .ok (.getfield 51, 3) := by decide +kernel
theorem dX3_input_42 : decode cX3_input 42 = .ok (.iconst 1, 1) := by decide +kernel
theorem dX3_input_43 : decode cX3_input 43 = .ok (.iadd, 1) := by decide +kernel
theorem dX3_input_44 : decode cX3_input 44 = .ok (.putfield 51, 3) := by decide +kernel
theorem dX3_input_47 : decode cX3_input 47 = .ok (.aload_n 0, 1) := by decide +kernel
theorem dX3_input_48 : decode cX3_input 48 = .ok (.aload_n 0, 1) := by decide +kernel
theorem dX3_input_49 : decode cX3_input 49 = .ok (.getfield 51, 3) := by decide +kernel
theorem dX3_input_52 : decode cX3_input 52 = .ok (.iconst 1, 1) := by decide +kernel
theorem dX3_input_53 : decode cX3_input 53 = .ok (.isub, 1) := by decide +kernel
theorem dX3_input_54 : decode cX3_input 54 = .ok (.invokevirtual 57, 3) := by decide +kernel
theorem dX3_input_57 : decode cX3_input 57 = .ok (.ireturn, 1) := by decide +kernel
theorem dX3_latch_0 : decode cX3_latch 0 = .ok (.aload_n 0, 1) := by decide +kernel
theorem dX3_latch_1 : decode cX3_latch 1 = .ok (.getfield 54, 3) := by decide +kernel
theorem dX3_latch_4 : decode cX3_latch 4 = .ok (.iconst 4, 1) := by decide +kernel
theorem dX3_latch_5 : decode cX3_latch 5 = .ok (.if_icmp .ge 17, 3) := by decide +kernel
theorem dX3_latch_8 : decode cX3_latch 8 = .ok (.aload_n 0, 1) := by decide +kernel
theorem dX3_latch_9 : decode cX3_latch 9 = .ok (.getfield 48, 3) := by decide +kernel
theorem dX3_latch_12 : decode cX3_latch 12 = .ok (.sipush 400, 3) := by decide +kernel
theorem dX3_latch_15 : decode cX3_latch 15 = .ok (.if_icmp .ge 7, 3) := by decide +kernel
theorem dX3_latch_18 : decode cX3_latch 18 = .ok (.iconst 1, 1) := by decide +kernel
theorem dX3_latch_19 : decode cX3_latch 19 = .ok (.goto 4, 3) := by decide +kernel
theorem dX3_latch_22 : decode cX3_latch 22 = .ok (.iconst 0, 1) := by decide +kernel
theorem dX3_latch_23 : decode cX3_latch 23 = .ok (.istore_n 3, 1) := by decide +kernel
theorem dX3_latch_24 : decode cX3_latch 24 = .ok (.aload_n 0, 1) := by decide +kernel
theorem dX3_latch_25 : decode cX3_latch 25 = .ok (.iload_n 3, 1) := by decide +kernel
theorem dX3_latch_26 : decode cX3_latch 26 = .ok (.ifCond .ne 7, 3) := by decide +kernel
theorem dX3_latch_29 : decode cX3_latch 29 = .ok (.iconst 1, 1) := by decide +kernel
theorem dX3_latch_30 : decode cX3_latch 30 = .ok (.goto 22, 3) := by decide +kernel
theorem dX3_latch_33 : decode cX3_latch 33 = .ok (.iload_n 1, 1) := by decide +kernel
theorem dX3_latch_34 : decode cX3_latch 34 = .ok (.invokestatic 61, 3) := by decide +kernel
theorem dX3_latch_37 : decode cX3_latch 37 = .ok (.ifCond .eq 14, 3) := by decide +kernel
theorem dX3_latch_40 : decode cX3_latch 40 = .ok (.iload_n 2, 1) := by decide +kernel
theorem dX3_latch_41 : decode cX3_latch 41 = .ok (.invokestatic 61, 3) := by decide +kernel
theorem dX3_latch_44 : decode cX3_latch 44 = .ok (.ifCond .eq 7, 3) := by decide +kernel
theorem dX3_latch_47 : decode cX3_latch 47 = .ok (.iconst 0, 1) := by decide +kernel
theorem dX3_latch_48 : decode cX3_latch 48 = .ok (.goto 4, 3) := by decide +kernel
theorem dX3_latch_51 : decode cX3_latch 51 = .ok (.iconst 2, 1) := by decide +kernel
theorem dX3_latch_52 : decode cX3_latch 52 = .ok (.putfield 44, 3) := by decide +kernel
theorem dX3_latch_55 : decode cX3_latch 55 = .ok (.aload_n 0, 1) := by decide +kernel
theorem dX3_latch_56 : decode cX3_latch 56 = .ok (.getfield 44, 3) := by decide +kernel
theorem dX3_latch_59 : decode cX3_latch 59 = .ok (.ifCond .le 5, 3) := by decide +kernel
theorem dX3_latch_62 : decode cX3_latch 62 = .ok (.iconst 0, 1) := by decide +kernel
theorem dX3_latch_63 : decode cX3_latch 63 = .ok (.ireturn, 1) := by decide +kernel
theorem dX3_latch_64 : decode cX3_latch 64 = .ok (.aload_n 0, 1) := by decide +kernel
theorem dX3_latch_65 : decode cX3_latch 65 = .ok (.bipush 8, 2) := by decide +kernel
theorem dX3_latch_67 : decode cX3_latch 67 = .ok (.aload_n 0, 1) := by decide +kernel
theorem dX3_latch_68 : decode cX3_latch 68 = .ok (.getfield 54, 3) := by decide +kernel
theorem dX3_latch_71 : decode cX3_latch 71 = .ok (.iadd, 1) := by decide +kernel
theorem dX3_latch_72 : decode cX3_latch 72 = .ok (.invokevirtual 57, 3) := by decide +kernel
theorem dX3_latch_75 : decode cX3_latch 75 = .ok (.istore 4, 2) := by decide +kernel
theorem dX3_latch_77 : decode cX3_latch 77 = .ok (.aload_n 0, 1) := by decide +kernel
theorem dX3_latch_78 : decode cX3_latch 78 = .ok (.getfield 17, 3) := by decide +kernel
theorem dX3_latch_81 : decode cX3_latch 81 = .ok (.aload_n 0, 1) := by decide +kernel
theorem dX3_latch_82 : decode cX3_latch 82 = .ok (.getfield 54, 3) := by decide +kernel
theorem dX3_latch_85 : decode cX3_latch 85 = .ok (.iload 4, 2) := by decide +kernel
theorem dX3_latch_87 : decode cX3_latch 87 = .ok (.iconst 2, 1) := by decide +kernel
theorem dX3_latch_88 : decode cX3_latch 88 = .ok (.idiv, 1) := by decide +kernel
theorem dX3_latch_89 : decode cX3_latch 89 = .ok (.iastore, 1) := by decide +kernel
theorem dX3_latch_90 : decode cX3_latch 90 = .ok (.aload_n 0, 1) := by decide +kernel
theorem dX3_latch_91 : decode cX3_latch 91 = .ok (.getfield 20, 3) := by decide +kernel
theorem dX3_latch_94 : decode cX3_latch 94 = .ok (.aload_n 0, 1) := by decide +kernel
theorem dX3_latch_95 : decode cX3_latch 95 = .ok (.getfield 54, 3) := by decide +kernel
theorem dX3_latch_98 : decode cX3_latch 98 = .ok (.iload_n 1, 1) := by decide +kernel
theorem dX3_latch_99 : decode cX3_latch 99 = .ok (.iastore, 1) := by decide +kernel
theorem dX3_latch_100 : decode cX3_latch 100 = .ok (.aload_n 0, 1) := by decide +kernel
theorem dX3_latch_101 : decode cX3_latch 101 = .ok (.getfield 20, 3) := by decide +kernel
theorem dX3_latch_104 : decode cX3_latch 104 = .ok (.iconst 4, 1) := by decide +kernel
theorem dX3_latch_105 : decode cX3_latch 105 = .ok (.aload_n 0, 1) := by decide +kernel
theorem dX3_latch_106 : decode cX3_latch 106 = .ok (.getfield 54, 3) := by decide +kernel
theorem dX3_latch_109 : decode cX3_latch 109 = .ok (.iadd, 1) := by decide +kernel
theorem dX3_latch_110 : decode cX3_latch 110 = .ok (.iload_n 2, 1) := by decide +kernel
theorem dX3_latch_111 : decode cX3_latch 111 = .ok (.iastore, 1) := by decide +kernel
theorem dX3_latch_112 : decode cX3_latch 112 = .ok (.aload_n 0, 1) := by decide +kernel
theorem dX3_latch_113 : decode cX3_latch 113 = .ok (.getfield 23, 3) := by decide +kernel
theorem dX3_latch_116 : decode cX3_latch 116 = .ok (.aload_n 0, 1) := by decide +kernel
theorem dX3_latch_117 : decode cX3_latch 117 = .ok (.getfield 54, 3) := by decide +kernel
theorem dX3_latch_120 : decode cX3_latch 120 = .ok (.iload 4, 2) := by decide +kernel
theorem dX3_latch_122 : decode cX3_latch 122 = .ok (.iastore, 1) := by decide +kernel
theorem dX3_latch_123 : decode cX3_latch 123 = .ok (.aload_n 0, 1) := by decide +kernel
theorem dX3_latch_124 : decode cX3_latch 124 = .ok (.getfield 23, 3) := by decide +kernel
theorem dX3_latch_127 : decode cX3_latch 127 = .ok (.iconst 4, 1) := by decide +kernel
theorem dX3_latch_128 : decode cX3_latch 128 = .ok (.aload_n 0, 1) := by decide +kernel
theorem dX3_latch_129 : decode cX3_latch 129 = .ok (.getfield 54, 3) := by decide +kernel
theorem dX3_latch_132 : decode cX3_latch 132 = .ok (.iadd, 1) := by decide +kernel
theorem dX3_latch_133 : decode cX3_latch 133 = .ok (.iload 4, 2) := by decide +kernel
theorem dX3_latch_135 : decode cX3_latch 135 = .ok (.iastore, 1) := by decide +kernel
theorem dX3_latch_136 : decode cX3_latch 136 = .ok (.aload_n 0, 1) := by decide +kernel
theorem dX3_latch_137 : decode cX3_latch 137 = .ok (.dup, 1) := by decide +kernel
theorem dX3_latch_138 : decode cX3_latch 138 = .ok (.getfield 54, 3) := by decide +kernel
theorem dX3_latch_141 : decode cX3_latch 141 = .ok (.iconst 1, 1) := by decide +kernel
theorem dX3_latch_142 : decode cX3_latch 142 = .ok (.iadd, 1) := by decide +kernel
theorem dX3_latch_143 : decode cX3_latch 143 = .ok (.putfield 54, 3) := by decide +kernel
theorem dX3_latch_146 : decode cX3_latch 146 = .ok (.aload_n 0, 1) := by decide +kernel
theorem dX3_latch_147 : decode cX3_latch 147 = .ok (.invokevirtual 65, 3) := by decide +kernel
theorem dX3_latch_150 : decode cX3_latch 150 = .ok (.iload 4, 2) := by decide +kernel
theorem dX3_latch_152 : decode cX3_latch 152 = .ok (.ireturn, 1) := by decide +kernel
theorem dX3_isOther_0 : decode cX3_isOther 0 = .ok (.aload_n 0, 1) := by decide +kernel
theorem dX3_isOther_1 : decode cX3_isOther 1 = .ok (.getfield 7, 3) := by decide +kernel
theorem dX3_isOther_4 : decode cX3_isOther 4 = .ok (.iload_n 2, 1) := by decide +kernel
theorem dX3_isOther_5 : decode cX3_isOther 5 = .ok (.iconst 2, 1) := by decide +kernel
theorem dX3_isOther_6 : decode cX3_isOther 6 = .ok (.idiv, 1) := by decide +kernel
theorem dX3_isOther_7 : decode cX3_isOther 7 = .ok (.iaload, 1) := by decide +kernel
theorem dX3_isOther_8 : decode cX3_isOther 8 = .ok (.iconst (-1), 1) := by decide +kernel
theorem dX3_isOther_9 : decode cX3_isOther 9 = .ok (.if_icmp .eq 19, 3) := by decide +kernel
theorem dX3_isOther_12 : decode cX3_isOther 12 = .ok (.aload_n 0, 1) := by decide +kernel
theorem dX3_isOther_13 : decode cX3_isOther 13 = .ok (.getfield 7, 3) := by decide +kernel
theorem dX3_isOther_16 : decode cX3_isOther 16 = .ok (.iload_n 2, 1) := by decide +kernel
theorem dX3_isOther_17 : decode cX3_isOther 17 = .ok (.iconst 2, 1) := by decide +kernel
theorem dX3_isOther_18 : decode cX3_isOther 18 = .ok (.idiv, 1) := by decide +kernel
theorem dX3_isOther_19 : decode cX3_isOther 19 = .ok (.iaload, 1) := by decide +kernel
theorem dX3_isOther_20 : decode cX3_isOther 20 = .ok (.iload_n 1, 1) := by decide +kernel
theorem dX3_isOther_21 : decode cX3_isOther 21 = .ok (.if_icmp .eq 7, 3) := by decide +kernel
theorem dX3_isOther_24 : decode cX3_isOther 24 = .ok (.iconst 1, 1) := by decide +kernel
theorem dX3_isOther_25 : decode cX3_isOther 25 = .ok (.goto 4, 3) := by decide +kernel
theorem dX3_isOther_28 : decode cX3_isOther 28 = .ok (.iconst 0, 1) := by decide +kernel
theorem dX3_isOther_29 : decode cX3_isOther 29 = .ok (.ireturn, 1) := by decide +kernel
theorem dX3_and_0 : decode cX3_and 0 = .ok (.iload_n 1, 1) := by decide +kernel
theorem dX3_and_1 : decode cX3_and 1 = .ok (.invokestatic 61, 3) := by decide +kernel
theorem dX3_and_4 : decode cX3_and 4 = .ok (.ifCond .eq 23, 3) := by decide +kernel
theorem dX3_and_7 : decode cX3_and 7 = .ok (.aload_n 0, 1) := by decide +kernel
theorem dX3_and_8 : decode cX3_and 8 = .ok (.iload_n 2, 1) := by decide +kernel
theorem dX3_and_9 : decode cX3_and 9 = .ok (.invokevirtual 68, 3) := by decide +kernel
theorem dX3_and_12 : decode cX3_and 12 = .ok (.ifCond .eq 15, 3) := by decide +kernel
theorem dX3_and_15 : decode cX3_and 15 = .ok (.aload_n 0, 1) := by decide +kernel
theorem dX3_and_16 : decode cX3_and 16 = .ok (.iload_n 3, 1) := by decide +kernel
theorem dX3_and_17 : decode cX3_and 17 = .ok (.invokevirtual 68, 3) := by decide +kernel
theorem dX3_and_20 : decode cX3_and 20 = .ok (.ifCond .eq 7, 3) := by decide +kernel
theorem dX3_and_23 : decode cX3_and 23 = .ok (.iconst 1, 1) := by decide +kernel
theorem dX3_and_24 : decode cX3_and 24 = .ok (.goto 4, 3) := by decide +kernel
theorem dX3_and_27 : decode cX3_and 27 = .ok (.iconst 0, 1) := by decide +kernel
theorem dX3_and_28 : decode cX3_and 28 = .ok (.istore 4, 2) := by decide +kernel
theorem dX3_and_30 : decode cX3_and 30 = .ok (.aload_n 0, 1) := by decide +kernel
theorem dX3_and_31 : decode cX3_and 31 = .ok (.iload 4, 2) := by decide +kernel
theorem dX3_and_33 : decode cX3_and 33 = .ok (.ifCond .ne 7, 3) := by decide +kernel
theorem dX3_and_36 : decode cX3_and 36 = .ok (.iconst 1, 1) := by decide +kernel
theorem dX3_and_37 : decode cX3_and 37 = .ok (.goto 40, 3) := by decide +kernel
theorem dX3_and_40 : decode cX3_and 40 = .ok (.aload_n 0, 1) := by decide +kernel
theorem dX3_and_41 : decode cX3_and 41 = .ok (.getfield 48, 3) := by decide +kernel
theorem dX3_and_44 : decode cX3_and 44 = .ok (.sipush 400, 3) := by decide +kernel
theorem dX3_and_47 : decode cX3_and 47 = .ok (.if_icmp .ne 7, 3) := by decide +kernel
theorem dX3_and_50 : decode cX3_and 50 = .ok (.iconst 2, 1) := by decide +kernel
theorem dX3_and_51 : decode cX3_and 51 = .ok (.goto 26, 3) := by decide +kernel
theorem dX3_and_54 : decode cX3_and 54 = .ok (.aload_n 0, 1) := by decide +kernel
theorem dX3_and_55 : decode cX3_and 55 = .ok (.iload_n 1, 1) := by decide +kernel
theorem dX3_and_56 : decode cX3_and 56 = .ok (.iload_n 2, 1) := by decide +kernel
theorem dX3_and_57 : decode cX3_and 57 = .ok (.invokevirtual 71, 3) := by decide +kernel
theorem dX3_and_60 : decode cX3_and 60 = .ok (.ifCond .ne 12, 3) := by decide +kernel
theorem dX3_and_63 : decode cX3_and 63 = .ok (.aload_n 0, 1) := by decide +kernel
theorem dX3_and_64 : decode cX3_and 64 = .ok (.iload_n 1, 1) := by decide +kernel
theorem dX3_and_65 : decode cX3_and 65 = .ok (.iload_n 3, 1) := by decide +kernel
theorem dX3_and_66 : decode cX3_and 66 = .ok (.invokevirtual 71, 3) := by decide +kernel
theorem dX3_and_69 : decode cX3_and 69 = .ok (.ifCond .eq 7, 3) := by decide +kernel
theorem dX3_and_72 : decode cX3_and 72 = .ok (.iconst 3, 1) := by decide +kernel
theorem dX3_and_73 : decode cX3_and 73 = .ok (.goto 4, 3) := by decide +kernel
theorem dX3_and_76 : decode cX3_and 76 = .ok (.iconst 0, 1) := by decide +kernel
theorem dX3_and_77 : decode cX3_and 77 = .ok (.putfield 44, 3) := by decide +kernel
theorem dX3_and_80 : decode cX3_and 80 = .ok (.aload_n 0, 1) := by decide +kernel
theorem dX3_and_81 : decode cX3_and 81 = .ok (.getfield 44, 3) := by decide +kernel
theorem dX3_and_84 : decode cX3_and 84 = .ok (.ifCond .le 5, 3) := by decide +kernel
theorem dX3_and_87 : decode cX3_and 87 = .ok (.iconst 0, 1) := by decide +kernel
theorem dX3_and_88 : decode cX3_and 88 = .ok (.ireturn, 1) := by decide +kernel
theorem dX3_and_89 : decode cX3_and 89 = .ok (.iload_n 2, 1) := by decide +kernel
theorem dX3_and_90 : decode cX3_and 90 = .ok (.iconst 1, 1) := by decide +kernel
theorem dX3_and_91 : decode cX3_and 91 = .ok (.iand, 1) := by decide +kernel
theorem dX3_and_92 : decode cX3_and 92 = .ok (.iconst 1, 1) := by decide +kernel
theorem dX3_and_93 : decode cX3_and 93 = .ok (.if_icmp .ne 9, 3) := by decide +kernel
theorem dX3_and_96 : decode cX3_and 96 = .ok (.ldc2_w 75, 3) := by decide +kernel
theorem dX3_and_99 : decode cX3_and 99 = .ok (.goto 4, 3) := by decide +kernel
theorem dX3_and_102 : decode cX3_and 102 = .ok (.lconst 0, 1) := by decide +kernel
theorem dX3_and_103 : decode cX3_and 103 = .ok (.lstore 5, 2) := by decide +kernel
theorem dX3_and_105 : decode cX3_and 105 = .ok (.iload_n 3, 1) := by decide +kernel
theorem dX3_and_106 : decode cX3_and 106 = .ok (.iconst 1, 1) := by decide +kernel
theorem dX3_and_107 : decode cX3_and 107 = .ok (.iand, 1) := by decide +kernel
theorem dX3_and_108 : decode cX3_and 108 = .ok (.iconst 1, 1) := by decide +kernel
theorem dX3_and_109 : decode cX3_and 109 = .ok (.if_icmp .ne 9, 3) := by decide +kernel
theorem dX3_and_112 : decode cX3_and 112 = .ok (.ldc2_w 75, 3) := by decide +kernel
theorem dX3_and_115 : decode cX3_and 115 = .ok (.goto 4, 3) := by decide +kernel
theorem dX3_and_118 : decode cX3_and 118 = .ok (.lconst 0, 1) := by decide +kernel
theorem dX3_and_119 : decode cX3_and 119 = .ok (.lstore 7, 2) := by decide +kernel
theorem dX3_and_121 : decode cX3_and 121 = .ok (.iconst 0, 1) := by decide +kernel
theorem dX3_and_122 : decode cX3_and 122 = .ok (.istore 9, 2) := by decide +kernel
theorem dX3_and_124 : decode cX3_and 124 = .ok (.iload 9, 2) := by decide +kernel
theorem dX3_and_126 : decode cX3_and 126 = .ok (.bipush 64, 2) := by decide +kernel
theorem dX3_and_128 : decode cX3_and 128 = .ok (.if_icmp .ge 59, 3) := by decide +kernel
theorem dX3_and_131 : decode cX3_and 131 = .ok (.aload_n 0, 1) := by decide +kernel
theorem dX3_and_132 : decode cX3_and 132 = .ok (.getfield 13, 3) := by decide +kernel
theorem dX3_and_135 : decode cX3_and 135 = .ok (.bipush 64, 2) := by decide +kernel
theorem dX3_and_137 : decode cX3_and 137 = .ok (.aload_n 0, 1) := by decide +kernel
theorem dX3_and_138 : decode cX3_and 138 = .ok (.getfield 48, 3) := by decide +kernel
theorem dX3_and_141 : decode cX3_and 141 = .ok (.imul, 1) := by decide +kernel
theorem dX3_and_142 : decode cX3_and 142 = .ok (.iload 9, 2) := by decide +kernel
