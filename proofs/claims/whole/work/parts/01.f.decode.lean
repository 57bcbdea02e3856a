theorem dX3_areLiterals_71 : decode cX3_areLiterals 71 = .ok (.iload 4, 2) := by decide +kernel
theorem dX3_areLiterals_73 : decode cX3_areLiterals 73 = .ok (.invokestatic 153, 3) := by decide +kernel
theorem dX3_areLiterals_76 : decode cX3_areLiterals 76 = .ok (.ior, 1) := by decide +kernel
theorem dX3_areLiterals_77 : decode cX3_areLiterals 77 = .ok (.istore 6, 2) := by decide +kernel
theorem dX3_areLiterals_79 : decode cX3_areLiterals 79 = .ok (.iload 5, 2) := by decide +kernel
theorem dX3_areLiterals_81 : decode cX3_areLiterals 81 = .ok (.ifCond .le 17, 3) := by decide +kernel
theorem dX3_areLiterals_84 : decode cX3_areLiterals 84 = .ok (.iload 6, 2) := by decide +kernel
theorem dX3_areLiterals_86 : decode cX3_areLiterals 86 = .ok (.invokestatic 156, 3) := by decide +kernel
theorem dX3_areLiterals_89 : decode cX3_areLiterals 89 = .ok (.iload 5, 2) := by decide +kernel
theorem dX3_areLiterals_91 : decode cX3_areLiterals 91 = .ok (.if_icmp .ne 7, 3) := by decide +kernel
theorem dX3_areLiterals_94 : decode cX3_areLiterals 94 = .ok (.iconst 1, 1) := by decide +kernel
theorem dX3_areLiterals_95 : decode cX3_areLiterals 95 = .ok (.goto 4, 3) := by decide +kernel
theorem dX3_areLiterals_98 : decode cX3_areLiterals 98 = .ok (.iconst 0, 1) := by decide +kernel
theorem dX3_areLiterals_99 : decode cX3_areLiterals 99 = .ok (.ireturn, 1) := by decide +kernel
theorem dX3_isLiteralOrAbsent_0 : decode cX3_isLiteralOrAbsent 0 = .ok (.iload_n 1, 1) := by decide +kernel
theorem dX3_isLiteralOrAbsent_1 : decode cX3_isLiteralOrAbsent 1 = .ok (.iconst (-1), 1) := by decide +kernel
theorem dX3_isLiteralOrAbsent_2 : decode cX3_isLiteralOrAbsent 2 = .ok (.if_icmp .lt 20, 3) := by decide +kernel
theorem dX3_isLiteralOrAbsent_5 : decode cX3_isLiteralOrAbsent 5 = .ok (.iload_n 1, 1) := by decide +kernel
theorem dX3_isLiteralOrAbsent_6 : decode cX3_isLiteralOrAbsent 6 = .ok (.iconst 2, 1) := by decide +kernel
theorem dX3_isLiteralOrAbsent_7 : decode cX3_isLiteralOrAbsent 7 = .ok (.aload_n 0, 1) := by decide +kernel
theorem dX3_isLiteralOrAbsent_8 : decode cX3_isLiteralOrAbsent 8 = .ok (.getfield 23, 3) := by decide +kernel
theorem dX3_isLiteralOrAbsent_11 : decode cX3_isLiteralOrAbsent 11 = .ok (.getfield 45, 3) := by decide +kernel
theorem dX3_isLiteralOrAbsent_14 : decode cX3_isLiteralOrAbsent 14 = .ok (.imul, 1) := by decide +kernel
theorem dX3_isLiteralOrAbsent_15 : decode cX3_isLiteralOrAbsent 15 = .ok (.if_icmp .ge 7, 3) := by decide +kernel
theorem dX3_isLiteralOrAbsent_18 : decode cX3_isLiteralOrAbsent 18 = .ok (.iconst 1, 1) := by decide +kernel
theorem dX3_isLiteralOrAbsent_19 : decode cX3_isLiteralOrAbsent 19 = .ok (.goto 4, 3) := by decide +kernel
theorem dX3_isLiteralOrAbsent_22 : decode cX3_isLiteralOrAbsent 22 = .ok (.iconst 0, 1) := by decide +kernel
theorem dX3_isLiteralOrAbsent_23 : decode cX3_isLiteralOrAbsent 23 = .ok (.ireturn, 1) := by decide +kernel
theorem dX3_countIfPresent_0 : decode cX3_countIfPresent 0 = .ok (.iload_n 0, 1) := by decide +kernel
theorem dX3_countIfPresent_1 : decode cX3_countIfPresent 1 = .ok (.iconst (-1), 1) := by decide +kernel
theorem dX3_countIfPresent_2 : decode cX3_countIfPresent 2 = .ok (.if_icmp .ne 7, 3) := by decide +kernel
theorem dX3_countIfPresent_5 : decode cX3_countIfPresent 5 = .ok (.iconst 0, 1) := by decide +kernel
theorem dX3_countIfPresent_6 : decode cX3_countIfPresent 6 = .ok (.goto 4, 3) := by decide +kernel
theorem dX3_countIfPresent_9 : decode cX3_countIfPresent 9 = .ok (.iconst 1, 1) := by decide +kernel
theorem dX3_countIfPresent_10 : decode cX3_countIfPresent 10 = .ok (.ireturn, 1) := by decide +kernel
theorem dX3_variableBit_0 : decode cX3_variableBit 0 = .ok (.iload_n 0, 1) := by decide +kernel
theorem dX3_variableBit_1 : decode cX3_variableBit 1 = .ok (.invokestatic 69, 3) := by decide +kernel
theorem dX3_variableBit_4 : decode cX3_variableBit 4 = .ok (.iload_n 0, 1) := by decide +kernel
theorem dX3_variableBit_5 : decode cX3_variableBit 5 = .ok (.invokestatic 73, 3) := by decide +kernel
theorem dX3_variableBit_8 : decode cX3_variableBit 8 = .ok (.ior, 1) := by decide +kernel
theorem dX3_variableBit_9 : decode cX3_variableBit 9 = .ok (.ireturn, 1) := by decide +kernel
theorem dX3_bitIfTrue_0 : decode cX3_bitIfTrue 0 = .ok (.iload_n 0, 1) := by decide +kernel
theorem dX3_bitIfTrue_1 : decode cX3_bitIfTrue 1 = .ok (.iconst (-1), 1) := by decide +kernel
theorem dX3_bitIfTrue_2 : decode cX3_bitIfTrue 2 = .ok (.if_icmp .eq 10, 3) := by decide +kernel
theorem dX3_bitIfTrue_5 : decode cX3_bitIfTrue 5 = .ok (.iload_n 0, 1) := by decide +kernel
theorem dX3_bitIfTrue_6 : decode cX3_bitIfTrue 6 = .ok (.iconst 1, 1) := by decide +kernel
theorem dX3_bitIfTrue_7 : decode cX3_bitIfTrue 7 = .ok (.iand, 1) := by decide +kernel
theorem dX3_bitIfTrue_8 : decode cX3_bitIfTrue 8 = .ok (.iconst 1, 1) := by decide +kernel
theorem dX3_bitIfTrue_9 : decode cX3_bitIfTrue 9 = .ok (.if_icmp .ne 7, 3) := by decide +kernel
theorem dX3_bitIfTrue_12 : decode cX3_bitIfTrue 12 = .ok (.iconst 0, 1) := by decide +kernel
theorem dX3_bitIfTrue_13 : decode cX3_bitIfTrue 13 = .ok (.goto 8, 3) := by decide +kernel
theorem dX3_bitIfTrue_16 : decode cX3_bitIfTrue 16 = .ok (.iconst 1, 1) := by decide +kernel
theorem dX3_bitIfTrue_17 : decode cX3_bitIfTrue 17 = .ok (.iload_n 0, 1) := by decide +kernel
theorem dX3_bitIfTrue_18 : decode cX3_bitIfTrue 18 = .ok (.iconst 1, 1) := by decide +kernel
theorem dX3_bitIfTrue_19 : decode cX3_bitIfTrue 19 = .ok (.ishr, 1) := by decide +kernel
theorem dX3_bitIfTrue_20 : decode cX3_bitIfTrue 20 = .ok (.ishl, 1) := by decide +kernel
theorem dX3_bitIfTrue_21 : decode cX3_bitIfTrue 21 = .ok (.ireturn, 1) := by decide +kernel
theorem dX3_bitIfFalse_0 : decode cX3_bitIfFalse 0 = .ok (.iload_n 0, 1) := by decide +kernel
theorem dX3_bitIfFalse_1 : decode cX3_bitIfFalse 1 = .ok (.iconst (-1), 1) := by decide +kernel
theorem dX3_bitIfFalse_2 : decode cX3_bitIfFalse 2 = .ok (.if_icmp .eq 9, 3) := by decide +kernel
theorem dX3_bitIfFalse_5 : decode cX3_bitIfFalse 5 = .ok (.iload_n 0, 1) := by decide +kernel
theorem dX3_bitIfFalse_6 : decode cX3_bitIfFalse 6 = .ok (.iconst 1, 1) := by decide +kernel
theorem dX3_bitIfFalse_7 : decode cX3_bitIfFalse 7 = .ok (.iand, 1) := by decide +kernel
theorem dX3_bitIfFalse_8 : decode cX3_bitIfFalse 8 = .ok (.ifCond .ne 7, 3) := by decide +kernel
theorem dX3_bitIfFalse_11 : decode cX3_bitIfFalse 11 = .ok (.iconst 0, 1) := by decide +kernel
theorem dX3_bitIfFalse_12 : decode cX3_bitIfFalse 12 = .ok (.goto 8, 3) := by decide +kernel
theorem dX3_bitIfFalse_15 : decode cX3_bitIfFalse 15 = .ok (.iconst 1, 1) := by decide +kernel
theorem dX3_bitIfFalse_16 : decode cX3_bitIfFalse 16 = .ok (.iload_n 0, 1) := by decide +kernel
theorem dX3_bitIfFalse_17 : decode cX3_bitIfFalse 17 = .ok (.iconst 1, 1) := by decide +kernel
theorem dX3_bitIfFalse_18 : decode cX3_bitIfFalse 18 = .ok (.ishr, 1) := by decide +kernel
theorem dX3_bitIfFalse_19 : decode cX3_bitIfFalse 19 = .ok (.ishl, 1) := by decide +kernel
theorem dX3_bitIfFalse_20 : decode cX3_bitIfFalse 20 = .ok (.ireturn, 1) := by decide +kernel
theorem dX4_init_0 : decode cX4_init 0 = .ok (.aload_n 0, 1) := by decide +kernel
theorem dX4_init_1 : decode cX4_init 1 = .ok (.invokespecial 1, 3) := by decide +kernel
theorem dX4_init_4 : decode cX4_init 4 = .ok (.aload_n 0, 1) := by decide +kernel
theorem dX4_init_5 : decode cX4_init 5 = .ok (.bipush 40, 2) := by decide +kernel
theorem dX4_init_7 : decode cX4_init 7 = .ok (.newarray .int, 2) := by decide +kernel
theorem dX4_init_9 : decode cX4_init 9 = .ok (.putfield 7, 3) := by decide +kernel
theorem dX4_init_12 : decode cX4_init 12 = .ok (.aload_n 0, 1) := by decide +kernel
theorem dX4_init_13 : decode cX4_init 13 = .ok (.bipush 40, 2) := by decide +kernel
theorem dX4_init_15 : decode cX4_init 15 = .ok (.newarray .int, 2) := by decide +kernel
theorem dX4_init_17 : decode cX4_init 17 = .ok (.putfield 13, 3) := by decide +kernel
theorem dX4_init_20 : decode cX4_init 20 = .ok (.aload_n 0, 1) := by decide +kernel
theorem dX4_init_21 : decode cX4_init 21 = .ok (.bipush 40, 2) := by decide +kernel
theorem dX4_init_23 : decode cX4_init 23 = .ok (.newarray .int, 2) := by decide +kernel
theorem dX4_init_25 : decode cX4_init 25 = .ok (.putfield 16, 3) := by decide +kernel
theorem dX4_init_28 : decode cX4_init 28 = .ok (.aload_n 0, 1) := by decide +kernel
theorem dX4_init_29 : decode cX4_init 29 = .ok (.bipush 40, 2) := by decide +kernel
theorem dX4_init_31 : decode cX4_init 31 = .ok (.newarray .long, 2) := by decide +kernel
theorem dX4_init_33 : decode cX4_init 33 = .ok (.putfield 19, 3) := by decide +kernel
theorem dX4_init_36 : decode cX4_init 36 = .ok (.aload_n 0, 1) := by decide +kernel
theorem dX4_init_37 : decode cX4_init 37 = .ok (.bipush 40, 2) := by decide +kernel
theorem dX4_init_39 : decode cX4_init 39 = .ok (.newarray .boolean, 2) := by decide +kernel
theorem dX4_init_41 : decode cX4_init 41 = .ok (.putfield 23, 3) := by decide +kernel
theorem dX4_init_44 : decode cX4_init 44 = .ok (.aload_n 0, 1) := by decide +kernel
theorem dX4_init_45 : decode cX4_init 45 = .ok (.bipush 10, 2) := by decide +kernel
theorem dX4_init_47 : decode cX4_init 47 = .ok (.newarray .int, 2) := by decide +kernel
theorem dX4_init_49 : decode cX4_init 49 = .ok (.putfield 27, 3) := by decide +kernel
theorem dX4_init_52 : decode cX4_init 52 = .ok (.aload_n 0, 1) := by decide +kernel
theorem dX4_init_53 : decode cX4_init 53 = .ok (.sipush 1024, 3) := by decide +kernel
theorem dX4_init_56 : decode cX4_init 56 = .ok (.newarray .int, 2) := by decide +kernel
theorem dX4_init_58 : decode cX4_init 58 = .ok (.putfield 30, 3) := by decide +kernel
theorem dX4_init_61 : decode cX4_init 61 = .ok (.aload_n 0, 1) := by decide +kernel
theorem dX4_init_62 : decode cX4_init 62 = .ok (.sipush 1024, 3) := by decide +kernel
theorem dX4_init_65 : decode cX4_init 65 = .ok (.newarray .int, 2) := by decide +kernel
theorem dX4_init_67 : decode cX4_init 67 = .ok (.putfield 33, 3) := by decide +kernel
theorem dX4_init_70 : decode cX4_init 70 = .ok (.aload_n 0, 1) := by decide +kernel
theorem dX4_init_71 : decode cX4_init 71 = .ok (.sipush 1024, 3) := by decide +kernel
theorem dX4_init_74 : decode cX4_init 74 = .ok (.newarray .long, 2) := by decide +kernel
theorem dX4_init_76 : decode cX4_init 76 = .ok (.putfield 36, 3) := by decide +kernel
theorem dX4_init_79 : decode cX4_init 79 = .ok (.aload_n 0, 1) := by decide +kernel
theorem dX4_init_80 : decode cX4_init 80 = .ok (.bipush 24, 2) := by decide +kernel
theorem dX4_init_82 : decode cX4_init 82 = .ok (.newarray .int, 2) := by decide +kernel
theorem dX4_init_84 : decode cX4_init 84 = .ok (.putfield 39, 3) := by decide +kernel
theorem dX4_init_87 : decode cX4_init 87 = .ok (.aload_n 0, 1) := by decide +kernel
theorem dX4_init_88 : decode cX4_init 88 = .ok (.bipush 24, 2) := by decide +kernel
theorem dX4_init_90 : decode cX4_init 90 = .ok (.newarray .int, 2) := by decide +kernel
theorem dX4_init_92 : decode cX4_init 92 = .ok (.putfield 42, 3) := by decide +kernel
theorem dX4_init_95 : decode cX4_init 95 = .ok (.aload_n 0, 1) := by decide +kernel
theorem dX4_init_96 : decode cX4_init 96 = .ok (.iload_n 1, 1) := by decide +kernel
theorem dX4_init_97 : decode cX4_init 97 = .ok (.iconst 1, 1) := by decide +kernel
theorem dX4_init_98 : decode cX4_init 98 = .ok (.if_icmp .ge 7, 3) := by decide +kernel
theorem dX4_init_101 : decode cX4_init 101 = .ok (.iconst 1, 1) := by decide +kernel
theorem dX4_init_102 : decode cX4_init 102 = .ok (.goto 15, 3) := by decide +kernel
theorem dX4_init_105 : decode cX4_init 105 = .ok (.iload_n 1, 1) := by decide +kernel
theorem dX4_init_106 : decode cX4_init 106 = .ok (.bipush 10, 2) := by decide +kernel
theorem dX4_init_108 : decode cX4_init 108 = .ok (.if_icmp .le 8, 3) := by decide +kernel
theorem dX4_init_111 : decode cX4_init 111 = .ok (.bipush 10, 2) := by decide +kernel
theorem dX4_init_113 : decode cX4_init 113 = .ok (.goto 4, 3) := by decide +kernel
theorem dX4_init_116 : decode cX4_init 116 = .ok (.iload_n 1, 1) := by decide +kernel
theorem dX4_init_117 : decode cX4_init 117 = .ok (.putfield 45, 3) := by decide +kernel
theorem dX4_init_120 : decode cX4_init 120 = .ok (.return_, 1) := by decide +kernel
theorem dX4_thrown_0 : decode cX4_thrown 0 = .ok (.aload_n 0, 1) := by decide +kernel
theorem dX4_thrown_1 : decode cX4_thrown 1 = .ok (.getfield 49, 3) := by decide +kernel
theorem dX4_thrown_4 : decode cX4_thrown 4 = .ok (.ireturn, 1) := by decide +kernel
theorem dX4_variables_0 : decode cX4_variables 0 = .ok (.aload_n 0, 1) := by decide +kernel
theorem dX4_variables_1 : decode cX4_variables 1 = .ok (.iconst 0, 1) := by decide +kernel
theorem dX4_variables_2 : decode cX4_variables 2 = .ok (.putfield 49, 3) := by decide +kernel
theorem dX4_variables_5 : decode cX4_variables 5 = .ok (.aload_n 0, 1) := by decide +kernel
theorem dX4_variables_6 : decode cX4_variables 6 = .ok (.getfield 45, 3) := by decide +kernel
theorem dX4_variables_9 : decode cX4_variables 9 = .ok (.ireturn, 1) := by decide +kernel
theorem dX4_forget_0 : decode cX4_forget 0 = .ok (.aload_n 0, 1) := by decide +kernel
theorem dX4_forget_1 : decode cX4_forget 1 = .ok (.iconst 0, 1) := by decide +kernel
theorem dX4_forget_2 : decode cX4_forget 2 = .ok (.putfield 52, 3) := by decide +kernel
theorem dX4_forget_5 : decode cX4_forget 5 = .ok (.aload_n 0, 1) := by decide +kernel
theorem dX4_forget_6 : decode cX4_forget 6 = .ok (.iconst 0, 1) := by decide +kernel
theorem dX4_forget_7 : decode cX4_forget 7 = .ok (.putfield 56, 3) := by decide +kernel
theorem dX4_forget_10 : decode cX4_forget 10 = .ok (.aload_n 0, 1) := by decide +kernel
theorem dX4_forget_11 : decode cX4_forget 11 = .ok (.iconst 0, 1) := by decide +kernel
theorem dX4_forget_12 : decode cX4_forget 12 = .ok (.putfield 59, 3) := by decide +kernel
theorem dX4_forget_15 : decode cX4_forget 15 = .ok (.return_, 1) := by decide +kernel
theorem dX4_noLiteral_0 : decode cX4_noLiteral 0 = .ok (.iload_n 1, 1) := by decide +kernel
theorem dX4_noLiteral_1 : decode cX4_noLiteral 1 = .ok (.iconst (-1), 1) := by decide +kernel
theorem dX4_noLiteral_2 : decode cX4_noLiteral 2 = .ok (.if_icmp .lt 13, 3) := by decide +kernel
theorem dX4_noLiteral_5 : decode cX4_noLiteral 5 = .ok (.iload_n 1, 1) := by decide +kernel
theorem dX4_noLiteral_6 : decode cX4_noLiteral 6 = .ok (.iconst 2, 1) := by decide +kernel
theorem dX4_noLiteral_7 : decode cX4_noLiteral 7 = .ok (.aload_n 0, 1) := by decide +kernel
theorem dX4_noLiteral_8 : decode cX4_noLiteral 8 = .ok (.getfield 45, 3) := by decide +kernel
theorem dX4_noLiteral_11 : decode cX4_noLiteral 11 = .ok (.imul, 1) := by decide +kernel
theorem dX4_noLiteral_12 : decode cX4_noLiteral 12 = .ok (.if_icmp .lt 7, 3) := by decide +kernel
theorem dX4_noLiteral_15 : decode cX4_noLiteral 15 = .ok (.iconst 1, 1) := by decide +kernel
theorem dX4_noLiteral_16 : decode cX4_noLiteral 16 = .ok (.goto 4, 3) := by decide +kernel
theorem dX4_noLiteral_19 : decode cX4_noLiteral 19 = .ok (.iconst 0, 1) := by decide +kernel
theorem dX4_noLiteral_20 : decode cX4_noLiteral 20 = .ok (.ireturn, 1) := by decide +kernel
theorem dX4_says_0 : decode cX4_says 0 = .ok (.iload_n 0, 1) := by decide +kernel
theorem dX4_says_1 : decode cX4_says 1 = .ok (.ifCond .lt 18, 3) := by decide +kernel
theorem dX4_says_4 : decode cX4_says 4 = .ok (.iload_n 0, 1) := by decide +kernel
theorem dX4_says_5 : decode cX4_says 5 = .ok (.iconst 2, 1) := by decide +kernel
theorem dX4_says_6 : decode cX4_says 6 = .ok (.irem, 1) := by decide +kernel
theorem dX4_says_7 : decode cX4_says 7 = .ok (.iload_n 1, 1) := by decide +kernel
theorem dX4_says_8 : decode cX4_says 8 = .ok (.if_icmp .ne 11, 3) := by decide +kernel
theorem dX4_says_11 : decode cX4_says 11 = .ok (.iconst 1, 1) := by decide +kernel
theorem dX4_says_12 : decode cX4_says 12 = .ok (.iload_n 0, 1) := by decide +kernel
theorem dX4_says_13 : decode cX4_says 13 = .ok (.iconst 2, 1) := by decide +kernel
theorem dX4_says_14 : decode cX4_says 14 = .ok (.idiv, 1) := by decide +kernel
theorem dX4_says_15 : decode cX4_says 15 = .ok (.ishl, 1) := by decide +kernel
theorem dX4_says_16 : decode cX4_says 16 = .ok (.goto 4, 3) := by decide +kernel
theorem dX4_says_19 : decode cX4_says 19 = .ok (.iconst 0, 1) := by decide +kernel
theorem dX4_says_20 : decode cX4_says 20 = .ok (.ireturn, 1) := by decide +kernel
theorem dX4_count_0 : decode cX4_count 0 = .ok (.iconst 0, 1) := by decide +kernel
theorem dX4_count_1 : decode cX4_count 1 = .ok (.istore_n 1, 1) := by decide +kernel
theorem dX4_count_2 : decode cX4_count 2 = .ok (.iconst 0, 1) := by decide +kernel
theorem dX4_count_3 : decode cX4_count 3 = .ok (.istore_n 2, 1) := by decide +kernel
theorem dX4_count_4 : decode cX4_count 4 = .ok (.iload_n 2, 1) := by decide +kernel
theorem dX4_count_5 : decode cX4_count 5 = .ok (.bipush 10, 2) := by decide +kernel
theorem dX4_count_7 : decode cX4_count 7 = .ok (.if_icmp .ge 17, 3) := by decide +kernel
theorem dX4_count_10 : decode cX4_count 10 = .ok (.iload_n 1, 1) := by decide +kernel
theorem dX4_count_11 : decode cX4_count 11 = .ok (.iload_n 0, 1) := by decide +kernel
theorem dX4_count_12 : decode cX4_count 12 = .ok (.iload_n 2, 1) := by decide +kernel
theorem dX4_count_13 : decode cX4_count 13 = .ok (.ishr, 1) := by decide +kernel
theorem dX4_count_14 : decode cX4_count 14 = .ok (.iconst 1, 1) := by decide +kernel
theorem dX4_count_15 : decode cX4_count 15 = .ok (.iand, 1) := by decide +kernel
theorem dX4_count_16 : decode cX4_count 16 = .ok (.iadd, 1) := by decide +kernel
theorem dX4_count_17 : decode cX4_count 17 = .ok (.istore_n 1, 1) := by decide +kernel
theorem dX4_count_18 : decode cX4_count 18 = .ok (.iinc 2 1, 3) := by decide +kernel
theorem dX4_count_21 : decode cX4_count 21 = .ok (.goto (-17), 3) := by decide +kernel
theorem dX4_count_24 : decode cX4_count 24 = .ok (.iload_n 1, 1) := by decide +kernel
theorem dX4_count_25 : decode cX4_count 25 = .ok (.ireturn, 1) := by decide +kernel
theorem dX4_clause_0 : decode cX4_clause 0 = .ok (.iload_n 1, 1) := by decide +kernel
theorem dX4_clause_1 : decode cX4_clause 1 = .ok (.ifCond .lt 43, 3) := by decide +kernel
theorem dX4_clause_4 : decode cX4_clause 4 = .ok (.iload_n 1, 1) := by decide +kernel
theorem dX4_clause_5 : decode cX4_clause 5 = .ok (.ldc 62, 2) := by decide +kernel
theorem dX4_clause_7 : decode cX4_clause 7 = .ok (.if_icmp .gt 37, 3) := by decide +kernel
theorem dX4_clause_10 : decode cX4_clause 10 = .ok (.aload_n 0, 1) := by decide +kernel
theorem dX4_clause_11 : decode cX4_clause 11 = .ok (.iload_n 2, 1) := by decide +kernel
theorem dX4_clause_12 : decode cX4_clause 12 = .ok (.invokevirtual 63, 3) := by decide +kernel
theorem dX4_clause_15 : decode cX4_clause 15 = .ok (.ifCond .ne 29, 3) := by decide +kernel
theorem dX4_clause_18 : decode cX4_clause 18 = .ok (.aload_n 0, 1) := by decide +kernel
theorem dX4_clause_19 : decode cX4_clause 19 = .ok (.iload_n 3, 1) := by decide +kernel
theorem dX4_clause_20 : decode cX4_clause 20 = .ok (.invokevirtual 63, 3) := by decide +kernel
theorem dX4_clause_23 : decode cX4_clause 23 = .ok (.ifCond .ne 21, 3) := by decide +kernel
theorem dX4_clause_26 : decode cX4_clause 26 = .ok (.aload_n 0, 1) := by decide +kernel
theorem dX4_clause_27 : decode cX4_clause 27 = .ok (.iload 4, 2) := by decide +kernel
theorem dX4_clause_29 : decode cX4_clause 29 = .ok (.invokevirtual 63, 3) := by decide +kernel
theorem dX4_clause_32 : decode cX4_clause 32 = .ok (.ifCond .ne 12, 3) := by decide +kernel
theorem dX4_clause_35 : decode cX4_clause 35 = .ok (.aload_n 0, 1) := by decide +kernel
theorem dX4_clause_36 : decode cX4_clause 36 = .ok (.iload 5, 2) := by decide +kernel
theorem dX4_clause_38 : decode cX4_clause 38 = .ok (.invokevirtual 63, 3) := by decide +kernel
theorem dX4_clause_41 : decode cX4_clause 41 = .ok (.ifCond .eq 7, 3) := by decide +kernel
theorem dX4_clause_44 : decode cX4_clause 44 = .ok (.iconst 1, 1) := by decide +kernel
theorem dX4_clause_45 : decode cX4_clause 45 = .ok (.goto 4, 3) := by decide +kernel
theorem dX4_clause_48 : decode cX4_clause 48 = .ok (.iconst 0, 1) := by decide +kernel
theorem dX4_clause_49 : decode cX4_clause 49 = .ok (.istore 6, 2) := by decide +kernel
theorem dX4_clause_51 : decode cX4_clause 51 = .ok (.iload_n 2, 1) := by decide +kernel
theorem dX4_clause_52 : decode cX4_clause 52 = .ok (.ifCond .ge 7, 3) := by decide +kernel
theorem dX4_clause_55 : decode cX4_clause 55 = .ok (.iconst 0, 1) := by decide +kernel
theorem dX4_clause_56 : decode cX4_clause 56 = .ok (.goto 4, 3) := by decide +kernel
theorem dX4_clause_59 : decode cX4_clause 59 = .ok (.iconst 1, 1) := by decide +kernel
theorem dX4_clause_60 : decode cX4_clause 60 = .ok (.iload_n 3, 1) := by decide +kernel
theorem dX4_clause_61 : decode cX4_clause 61 = .ok (.ifCond .ge 7, 3) := by decide +kernel
theorem dX4_clause_64 : decode cX4_clause 64 = .ok (.iconst 0, 1) := by decide +kernel
theorem dX4_clause_65 : decode cX4_clause 65 = .ok (.goto 4, 3) := by decide +kernel
theorem dX4_clause_68 : decode cX4_clause 68 = .ok (.iconst 1, 1) := by decide +kernel
theorem dX4_clause_69 : decode cX4_clause 69 = .ok (.iadd, 1) := by decide +kernel
theorem dX4_clause_70 : decode cX4_clause 70 = .ok (.iload 4, 2) := by decide +kernel
theorem dX4_clause_72 : decode cX4_clause 72 = .ok (.ifCond .ge 7, 3) := by decide +kernel
theorem dX4_clause_75 : decode cX4_clause 75 = .ok (.iconst 0, 1) := by decide +kernel
theorem dX4_clause_76 : decode cX4_clause 76 = .ok (.goto 4, 3) := by decide +kernel
theorem dX4_clause_79 : decode cX4_clause 79 = .ok (.iconst 1, 1) := by decide +kernel
theorem dX4_clause_80 : decode cX4_clause 80 = .ok (.iadd, 1) := by decide +kernel
theorem dX4_clause_81 : decode cX4_clause 81 = .ok (.iload 5, 2) := by decide +kernel
theorem dX4_clause_83 : decode cX4_clause 83 = .ok (.ifCond .ge 7, 3) := by decide +kernel
theorem dX4_clause_86 : decode cX4_clause 86 = .ok (.iconst 0, 1) := by decide +kernel
theorem dX4_clause_87 : decode cX4_clause 87 = .ok (.goto 4, 3) := by decide +kernel
theorem dX4_clause_90 : decode cX4_clause 90 = .ok (.iconst 1, 1) := by decide +kernel
theorem dX4_clause_91 : decode cX4_clause 91 = .ok (.iadd, 1) := by decide +kernel
theorem dX4_clause_92 : decode cX4_clause 92 = .ok (.istore 7, 2) := by decide +kernel
theorem dX4_clause_94 : decode cX4_clause 94 = .ok (.iload 6, 2) := by decide +kernel
theorem dX4_clause_96 : decode cX4_clause 96 = .ok (.ifCond .eq 7, 3) := by decide +kernel
theorem dX4_clause_99 : decode cX4_clause 99 = .ok (.iconst 0, 1) := by decide +kernel
theorem dX4_clause_100 : decode cX4_clause 100 = .ok (.goto 28, 3) := by decide +kernel
theorem dX4_clause_103 : decode cX4_clause 103 = .ok (.iload_n 2, 1) := by decide +kernel
theorem dX4_clause_104 : decode cX4_clause 104 = .ok (.iconst 0, 1) := by decide +kernel
theorem dX4_clause_105 : decode cX4_clause 105 = .ok (.invokestatic 67, 3) := by decide +kernel
theorem dX4_clause_108 : decode cX4_clause 108 = .ok (.iload_n 3, 1) := by decide +kernel
theorem dX4_clause_109 : decode cX4_clause 109 = .ok (.iconst 0, 1) := by decide +kernel
theorem dX4_clause_110 : decode cX4_clause 110 = .ok (.invokestatic 67, 3) := by decide +kernel
theorem dX4_clause_113 : decode cX4_clause 113 = .ok (.ior, 1) := by decide +kernel
theorem dX4_clause_114 : decode cX4_clause 114 = .ok (.iload 4, 2) := by decide +kernel
theorem dX4_clause_116 : decode cX4_clause 116 = .ok (.iconst 0, 1) := by decide +kernel
