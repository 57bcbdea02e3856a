theorem dX0_init_0 : decode cX0_init 0 = .ok (.aload_n 0, 1) := by decide +kernel
theorem dX0_init_1 : decode cX0_init 1 = .ok (.invokespecial 3, 3) := by decide +kernel
theorem dX0_init_4 : decode cX0_init 4 = .ok (.aload_n 0, 1) := by decide +kernel
theorem dX0_init_5 : decode cX0_init 5 = .ok (.bipush 40, 2) := by decide +kernel
theorem dX0_init_7 : decode cX0_init 7 = .ok (.newarray .long, 2) := by decide +kernel
theorem dX0_init_9 : decode cX0_init 9 = .ok (.putfield 9, 3) := by decide +kernel
theorem dX0_init_12 : decode cX0_init 12 = .ok (.aload_n 0, 1) := by decide +kernel
theorem dX0_init_13 : decode cX0_init 13 = .ok (.bipush 10, 2) := by decide +kernel
theorem dX0_init_15 : decode cX0_init 15 = .ok (.newarray .int, 2) := by decide +kernel
theorem dX0_init_17 : decode cX0_init 17 = .ok (.putfield 15, 3) := by decide +kernel
theorem dX0_init_20 : decode cX0_init 20 = .ok (.aload_n 0, 1) := by decide +kernel
theorem dX0_init_21 : decode cX0_init 21 = .ok (.bipush 10, 2) := by decide +kernel
theorem dX0_init_23 : decode cX0_init 23 = .ok (.newarray .int, 2) := by decide +kernel
theorem dX0_init_25 : decode cX0_init 25 = .ok (.putfield 19, 3) := by decide +kernel
theorem dX0_init_28 : decode cX0_init 28 = .ok (.aload_n 0, 1) := by decide +kernel
theorem dX0_init_29 : decode cX0_init 29 = .ok (.aload_n 1, 1) := by decide +kernel
theorem dX0_init_30 : decode cX0_init 30 = .ok (.putfield 22, 3) := by decide +kernel
theorem dX0_init_33 : decode cX0_init 33 = .ok (.return_, 1) := by decide +kernel
theorem dX0_boundOf_0 : decode cX0_boundOf 0 = .ok (.aload_n 0, 1) := by decide +kernel
theorem dX0_boundOf_1 : decode cX0_boundOf 1 = .ok (.iconst 0, 1) := by decide +kernel
theorem dX0_boundOf_2 : decode cX0_boundOf 2 = .ok (.putfield 26, 3) := by decide +kernel
theorem dX0_boundOf_5 : decode cX0_boundOf 5 = .ok (.aload_n 0, 1) := by decide +kernel
theorem dX0_boundOf_6 : decode cX0_boundOf 6 = .ok (.getfield 22, 3) := by decide +kernel
theorem dX0_boundOf_9 : decode cX0_boundOf 9 = .ok (.iload_n 1, 1) := by decide +kernel
theorem dX0_boundOf_10 : decode cX0_boundOf 10 = .ok (.iload_n 2, 1) := by decide +kernel
theorem dX0_boundOf_11 : decode cX0_boundOf 11 = .ok (.invokevirtual 30, 3) := by decide +kernel
theorem dX0_boundOf_14 : decode cX0_boundOf 14 = .ok (.lstore_n 3, 1) := by decide +kernel
theorem dX0_boundOf_15 : decode cX0_boundOf 15 = .ok (.lload_n 3, 1) := by decide +kernel
theorem dX0_boundOf_16 : decode cX0_boundOf 16 = .ok (.ldc2_w 36, 3) := by decide +kernel
theorem dX0_boundOf_19 : decode cX0_boundOf 19 = .ok (.lcmp, 1) := by decide +kernel
theorem dX0_boundOf_20 : decode cX0_boundOf 20 = .ok (.ifCond .ne 7, 3) := by decide +kernel
theorem dX0_boundOf_23 : decode cX0_boundOf 23 = .ok (.ldc2_w 36, 3) := by decide +kernel
theorem dX0_boundOf_26 : decode cX0_boundOf 26 = .ok (.lreturn, 1) := by decide +kernel
theorem dX0_boundOf_27 : decode cX0_boundOf 27 = .ok (.aload_n 0, 1) := by decide +kernel
theorem dX0_boundOf_28 : decode cX0_boundOf 28 = .ok (.aload_n 0, 1) := by decide +kernel
theorem dX0_boundOf_29 : decode cX0_boundOf 29 = .ok (.getfield 22, 3) := by decide +kernel
theorem dX0_boundOf_32 : decode cX0_boundOf 32 = .ok (.iload_n 1, 1) := by decide +kernel
theorem dX0_boundOf_33 : decode cX0_boundOf 33 = .ok (.iload_n 2, 1) := by decide +kernel
theorem dX0_boundOf_34 : decode cX0_boundOf 34 = .ok (.invokevirtual 38, 3) := by decide +kernel
theorem dX0_boundOf_37 : decode cX0_boundOf 37 = .ok (.putfield 41, 3) := by decide +kernel
theorem dX0_boundOf_40 : decode cX0_boundOf 40 = .ok (.iconst 0, 1) := by decide +kernel
theorem dX0_boundOf_41 : decode cX0_boundOf 41 = .ok (.istore 5, 2) := by decide +kernel
theorem dX0_boundOf_43 : decode cX0_boundOf 43 = .ok (.iload 5, 2) := by decide +kernel
theorem dX0_boundOf_45 : decode cX0_boundOf 45 = .ok (.bipush 40, 2) := by decide +kernel
theorem dX0_boundOf_47 : decode cX0_boundOf 47 = .ok (.if_icmp .ge 84, 3) := by decide +kernel
theorem dX0_boundOf_50 : decode cX0_boundOf 50 = .ok (.aload_n 0, 1) := by decide +kernel
theorem dX0_boundOf_51 : decode cX0_boundOf 51 = .ok (.iload_n 1, 1) := by decide +kernel
theorem dX0_boundOf_52 : decode cX0_boundOf 52 = .ok (.iload_n 2, 1) := by decide +kernel
theorem dX0_boundOf_53 : decode cX0_boundOf 53 = .ok (.invokevirtual 45, 3) := by decide +kernel
theorem dX0_boundOf_56 : decode cX0_boundOf 56 = .ok (.lstore 6, 2) := by decide +kernel
theorem dX0_boundOf_58 : decode cX0_boundOf 58 = .ok (.lload 6, 2) := by decide +kernel
theorem dX0_boundOf_60 : decode cX0_boundOf 60 = .ok (.lconst 0, 1) := by decide +kernel
theorem dX0_boundOf_61 : decode cX0_boundOf 61 = .ok (.lcmp, 1) := by decide +kernel
theorem dX0_boundOf_62 : decode cX0_boundOf 62 = .ok (.ifCond .ne 5, 3) := by decide +kernel
theorem dX0_boundOf_65 : decode cX0_boundOf 65 = .ok (.lload_n 3, 1) := by decide +kernel
theorem dX0_boundOf_66 : decode cX0_boundOf 66 = .ok (.lreturn, 1) := by decide +kernel
theorem dX0_boundOf_67 : decode cX0_boundOf 67 = .ok (.aload_n 0, 1) := by decide +kernel
theorem dX0_boundOf_68 : decode cX0_boundOf 68 = .ok (.getfield 9, 3) := by decide +kernel
theorem dX0_boundOf_71 : decode cX0_boundOf 71 = .ok (.iload 5, 2) := by decide +kernel
theorem dX0_boundOf_73 : decode cX0_boundOf 73 = .ok (.lload 6, 2) := by decide +kernel
theorem dX0_boundOf_75 : decode cX0_boundOf 75 = .ok (.lastore, 1) := by decide +kernel
theorem dX0_boundOf_76 : decode cX0_boundOf 76 = .ok (.aload_n 0, 1) := by decide +kernel
theorem dX0_boundOf_77 : decode cX0_boundOf 77 = .ok (.iload 5, 2) := by decide +kernel
theorem dX0_boundOf_79 : decode cX0_boundOf 79 = .ok (.iconst 1, 1) := by decide +kernel
theorem dX0_boundOf_80 : decode cX0_boundOf 80 = .ok (.iadd, 1) := by decide +kernel
theorem dX0_boundOf_81 : decode cX0_boundOf 81 = .ok (.putfield 26, 3) := by decide +kernel
theorem dX0_boundOf_84 : decode cX0_boundOf 84 = .ok (.aload_n 0, 1) := by decide +kernel
theorem dX0_boundOf_85 : decode cX0_boundOf 85 = .ok (.getfield 22, 3) := by decide +kernel
theorem dX0_boundOf_88 : decode cX0_boundOf 88 = .ok (.lload 6, 2) := by decide +kernel
theorem dX0_boundOf_90 : decode cX0_boundOf 90 = .ok (.invokevirtual 48, 3) := by decide +kernel
theorem dX0_boundOf_93 : decode cX0_boundOf 93 = .ok (.istore 8, 2) := by decide +kernel
theorem dX0_boundOf_95 : decode cX0_boundOf 95 = .ok (.iload 8, 2) := by decide +kernel
theorem dX0_boundOf_97 : decode cX0_boundOf 97 = .ok (.ifCond .ne 7, 3) := by decide +kernel
theorem dX0_boundOf_100 : decode cX0_boundOf 100 = .ok (.ldc2_w 36, 3) := by decide +kernel
theorem dX0_boundOf_103 : decode cX0_boundOf 103 = .ok (.lreturn, 1) := by decide +kernel
theorem dX0_boundOf_104 : decode cX0_boundOf 104 = .ok (.lload_n 3, 1) := by decide +kernel
theorem dX0_boundOf_105 : decode cX0_boundOf 105 = .ok (.iload 8, 2) := by decide +kernel
theorem dX0_boundOf_107 : decode cX0_boundOf 107 = .ok (.i2l, 1) := by decide +kernel
theorem dX0_boundOf_108 : decode cX0_boundOf 108 = .ok (.ladd, 1) := by decide +kernel
theorem dX0_boundOf_109 : decode cX0_boundOf 109 = .ok (.lstore_n 3, 1) := by decide +kernel
theorem dX0_boundOf_110 : decode cX0_boundOf 110 = .ok (.aload_n 0, 1) := by decide +kernel
theorem dX0_boundOf_111 : decode cX0_boundOf 111 = .ok (.dup, 1) := by decide +kernel
theorem dX0_boundOf_112 : decode cX0_boundOf 112 = .ok (.getfield 41, 3) := by decide +kernel
theorem dX0_boundOf_115 : decode cX0_boundOf 115 = .ok (.lload 6, 2) := by decide +kernel
theorem dX0_boundOf_117 : decode cX0_boundOf 117 = .ok (.ldc2_w 52, 3) := by decide +kernel
theorem dX0_boundOf_120 : decode cX0_boundOf 120 = .ok (.lxor, 1) := by decide +kernel
theorem dX0_boundOf_121 : decode cX0_boundOf 121 = .ok (.land, 1) := by decide +kernel
theorem dX0_boundOf_122 : decode cX0_boundOf 122 = .ok (.putfield 41, 3) := by decide +kernel
theorem dX0_boundOf_125 : decode cX0_boundOf 125 = .ok (.iinc 5 1, 3) := by decide +kernel
theorem dX0_boundOf_128 : decode cX0_boundOf 128 = .ok (.goto (-85), 3) := by decide +kernel
theorem dX0_boundOf_131 : decode cX0_boundOf 131 = .ok (.lload_n 3, 1) := by decide +kernel
theorem dX0_boundOf_132 : decode cX0_boundOf 132 = .ok (.lreturn, 1) := by decide +kernel
theorem dX0_subsetAt_0 : decode cX0_subsetAt 0 = .ok (.iload_n 1, 1) := by decide +kernel
theorem dX0_subsetAt_1 : decode cX0_subsetAt 1 = .ok (.ifCond .lt 20, 3) := by decide +kernel
theorem dX0_subsetAt_4 : decode cX0_subsetAt 4 = .ok (.iload_n 1, 1) := by decide +kernel
theorem dX0_subsetAt_5 : decode cX0_subsetAt 5 = .ok (.aload_n 0, 1) := by decide +kernel
theorem dX0_subsetAt_6 : decode cX0_subsetAt 6 = .ok (.getfield 26, 3) := by decide +kernel
theorem dX0_subsetAt_9 : decode cX0_subsetAt 9 = .ok (.if_icmp .ge 12, 3) := by decide +kernel
theorem dX0_subsetAt_12 : decode cX0_subsetAt 12 = .ok (.aload_n 0, 1) := by decide +kernel
theorem dX0_subsetAt_13 : decode cX0_subsetAt 13 = .ok (.getfield 9, 3) := by decide +kernel
theorem dX0_subsetAt_16 : decode cX0_subsetAt 16 = .ok (.iload_n 1, 1) := by decide +kernel
theorem dX0_subsetAt_17 : decode cX0_subsetAt 17 = .ok (.laload, 1) := by decide +kernel
theorem dX0_subsetAt_18 : decode cX0_subsetAt 18 = .ok (.goto 4, 3) := by decide +kernel
theorem dX0_subsetAt_21 : decode cX0_subsetAt 21 = .ok (.lconst 0, 1) := by decide +kernel
theorem dX0_subsetAt_22 : decode cX0_subsetAt 22 = .ok (.lreturn, 1) := by decide +kernel
theorem dX0_nextSubset_0 : decode cX0_nextSubset 0 = .ok (.aload_n 0, 1) := by decide +kernel
theorem dX0_nextSubset_1 : decode cX0_nextSubset 1 = .ok (.iload_n 1, 1) := by decide +kernel
theorem dX0_nextSubset_2 : decode cX0_nextSubset 2 = .ok (.putfield 54, 3) := by decide +kernel
theorem dX0_nextSubset_5 : decode cX0_nextSubset 5 = .ok (.aload_n 0, 1) := by decide +kernel
theorem dX0_nextSubset_6 : decode cX0_nextSubset 6 = .ok (.iload_n 2, 1) := by decide +kernel
theorem dX0_nextSubset_7 : decode cX0_nextSubset 7 = .ok (.putfield 57, 3) := by decide +kernel
theorem dX0_nextSubset_10 : decode cX0_nextSubset 10 = .ok (.aload_n 0, 1) := by decide +kernel
theorem dX0_nextSubset_11 : decode cX0_nextSubset 11 = .ok (.iconst 0, 1) := by decide +kernel
theorem dX0_nextSubset_12 : decode cX0_nextSubset 12 = .ok (.putfield 60, 3) := by decide +kernel
theorem dX0_nextSubset_15 : decode cX0_nextSubset 15 = .ok (.iconst 0, 1) := by decide +kernel
theorem dX0_nextSubset_16 : decode cX0_nextSubset 16 = .ok (.istore_n 3, 1) := by decide +kernel
theorem dX0_nextSubset_17 : decode cX0_nextSubset 17 = .ok (.iload_n 3, 1) := by decide +kernel
theorem dX0_nextSubset_18 : decode cX0_nextSubset 18 = .ok (.bipush 10, 2) := by decide +kernel
theorem dX0_nextSubset_20 : decode cX0_nextSubset 20 = .ok (.if_icmp .gt 48, 3) := by decide +kernel
theorem dX0_nextSubset_23 : decode cX0_nextSubset 23 = .ok (.aload_n 0, 1) := by decide +kernel
theorem dX0_nextSubset_24 : decode cX0_nextSubset 24 = .ok (.invokevirtual 63, 3) := by decide +kernel
theorem dX0_nextSubset_27 : decode cX0_nextSubset 27 = .ok (.istore 4, 2) := by decide +kernel
theorem dX0_nextSubset_29 : decode cX0_nextSubset 29 = .ok (.iload 4, 2) := by decide +kernel
theorem dX0_nextSubset_31 : decode cX0_nextSubset 31 = .ok (.iconst (-1), 1) := by decide +kernel
theorem dX0_nextSubset_32 : decode cX0_nextSubset 32 = .ok (.if_icmp .eq 10, 3) := by decide +kernel
theorem dX0_nextSubset_35 : decode cX0_nextSubset 35 = .ok (.aload_n 0, 1) := by decide +kernel
theorem dX0_nextSubset_36 : decode cX0_nextSubset 36 = .ok (.iload 4, 2) := by decide +kernel
theorem dX0_nextSubset_38 : decode cX0_nextSubset 38 = .ok (.invokevirtual 67, 3) := by decide +kernel
theorem dX0_nextSubset_41 : decode cX0_nextSubset 41 = .ok (.lreturn, 1) := by decide +kernel
theorem dX0_nextSubset_42 : decode cX0_nextSubset 42 = .ok (.aload_n 0, 1) := by decide +kernel
theorem dX0_nextSubset_43 : decode cX0_nextSubset 43 = .ok (.invokevirtual 71, 3) := by decide +kernel
theorem dX0_nextSubset_46 : decode cX0_nextSubset 46 = .ok (.istore 5, 2) := by decide +kernel
theorem dX0_nextSubset_48 : decode cX0_nextSubset 48 = .ok (.iload 5, 2) := by decide +kernel
theorem dX0_nextSubset_50 : decode cX0_nextSubset 50 = .ok (.iconst (-1), 1) := by decide +kernel
theorem dX0_nextSubset_51 : decode cX0_nextSubset 51 = .ok (.if_icmp .ne 5, 3) := by decide +kernel
theorem dX0_nextSubset_54 : decode cX0_nextSubset 54 = .ok (.lconst 0, 1) := by decide +kernel
theorem dX0_nextSubset_55 : decode cX0_nextSubset 55 = .ok (.lreturn, 1) := by decide +kernel
theorem dX0_nextSubset_56 : decode cX0_nextSubset 56 = .ok (.aload_n 0, 1) := by decide +kernel
theorem dX0_nextSubset_57 : decode cX0_nextSubset 57 = .ok (.iload 5, 2) := by decide +kernel
theorem dX0_nextSubset_59 : decode cX0_nextSubset 59 = .ok (.invokevirtual 74, 3) := by decide +kernel
theorem dX0_nextSubset_62 : decode cX0_nextSubset 62 = .ok (.iinc 3 1, 3) := by decide +kernel
theorem dX0_nextSubset_65 : decode cX0_nextSubset 65 = .ok (.goto (-48), 3) := by decide +kernel
theorem dX0_nextSubset_68 : decode cX0_nextSubset 68 = .ok (.lconst 0, 1) := by decide +kernel
theorem dX0_nextSubset_69 : decode cX0_nextSubset 69 = .ok (.lreturn, 1) := by decide +kernel
theorem dX0_isAvailable_0 : decode cX0_isAvailable 0 = .ok (.aload_n 0, 1) := by decide +kernel
theorem dX0_isAvailable_1 : decode cX0_isAvailable 1 = .ok (.getfield 41, 3) := by decide +kernel
theorem dX0_isAvailable_4 : decode cX0_isAvailable 4 = .ok (.iload_n 1, 1) := by decide +kernel
theorem dX0_isAvailable_5 : decode cX0_isAvailable 5 = .ok (.lshr, 1) := by decide +kernel
theorem dX0_isAvailable_6 : decode cX0_isAvailable 6 = .ok (.lconst 1, 1) := by decide +kernel
theorem dX0_isAvailable_7 : decode cX0_isAvailable 7 = .ok (.land, 1) := by decide +kernel
theorem dX0_isAvailable_8 : decode cX0_isAvailable 8 = .ok (.lconst 0, 1) := by decide +kernel
theorem dX0_isAvailable_9 : decode cX0_isAvailable 9 = .ok (.lcmp, 1) := by decide +kernel
theorem dX0_isAvailable_10 : decode cX0_isAvailable 10 = .ok (.ifCond .eq 7, 3) := by decide +kernel
theorem dX0_isAvailable_13 : decode cX0_isAvailable 13 = .ok (.iconst 1, 1) := by decide +kernel
theorem dX0_isAvailable_14 : decode cX0_isAvailable 14 = .ok (.goto 4, 3) := by decide +kernel
theorem dX0_isAvailable_17 : decode cX0_isAvailable 17 = .ok (.iconst 0, 1) := by decide +kernel
theorem dX0_isAvailable_18 : decode cX0_isAvailable 18 = .ok (.ireturn, 1) := by decide +kernel
theorem dX0_firstFalseClause_0 : decode cX0_firstFalseClause 0 = .ok (.iconst 0, 1) := by decide +kernel
theorem dX0_firstFalseClause_1 : decode cX0_firstFalseClause 1 = .ok (.istore_n 1, 1) := by decide +kernel
theorem dX0_firstFalseClause_2 : decode cX0_firstFalseClause 2 = .ok (.iload_n 1, 1) := by decide +kernel
theorem dX0_firstFalseClause_3 : decode cX0_firstFalseClause 3 = .ok (.aload_n 0, 1) := by decide +kernel
theorem dX0_firstFalseClause_4 : decode cX0_firstFalseClause 4 = .ok (.getfield 22, 3) := by decide +kernel
theorem dX0_firstFalseClause_7 : decode cX0_firstFalseClause 7 = .ok (.getfield 78, 3) := by decide +kernel
theorem dX0_firstFalseClause_10 : decode cX0_firstFalseClause 10 = .ok (.if_icmp .ge 38, 3) := by decide +kernel
theorem dX0_firstFalseClause_13 : decode cX0_firstFalseClause 13 = .ok (.aload_n 0, 1) := by decide +kernel
theorem dX0_firstFalseClause_14 : decode cX0_firstFalseClause 14 = .ok (.iload_n 1, 1) := by decide +kernel
theorem dX0_firstFalseClause_15 : decode cX0_firstFalseClause 15 = .ok (.invokevirtual 81, 3) := by decide +kernel
theorem dX0_firstFalseClause_18 : decode cX0_firstFalseClause 18 = .ok (.ifCond .eq 24, 3) := by decide +kernel
theorem dX0_firstFalseClause_21 : decode cX0_firstFalseClause 21 = .ok (.aload_n 0, 1) := by decide +kernel
theorem dX0_firstFalseClause_22 : decode cX0_firstFalseClause 22 = .ok (.getfield 22, 3) := by decide +kernel
theorem dX0_firstFalseClause_25 : decode cX0_firstFalseClause 25 = .ok (.iload_n 1, 1) := by decide +kernel
theorem dX0_firstFalseClause_26 : decode cX0_firstFalseClause 26 = .ok (.aload_n 0, 1) := by decide +kernel
theorem dX0_firstFalseClause_27 : decode cX0_firstFalseClause 27 = .ok (.getfield 54, 3) := by decide +kernel
theorem dX0_firstFalseClause_30 : decode cX0_firstFalseClause 30 = .ok (.aload_n 0, 1) := by decide +kernel
theorem dX0_firstFalseClause_31 : decode cX0_firstFalseClause 31 = .ok (.getfield 57, 3) := by decide +kernel
theorem dX0_firstFalseClause_34 : decode cX0_firstFalseClause 34 = .ok (.invokevirtual 85, 3) := by decide +kernel
theorem dX0_firstFalseClause_37 : decode cX0_firstFalseClause 37 = .ok (.ifCond .eq 5, 3) := by decide +kernel
theorem dX0_firstFalseClause_40 : decode cX0_firstFalseClause 40 = .ok (.iload_n 1, 1) := by decide +kernel
theorem dX0_firstFalseClause_41 : decode cX0_firstFalseClause 41 = .ok (.ireturn, 1) := by decide +kernel
theorem dX0_firstFalseClause_42 : decode cX0_firstFalseClause 42 = .ok (.iinc 1 1, 3) := by decide +kernel
theorem dX0_firstFalseClause_45 : decode cX0_firstFalseClause 45 = .ok (.goto (-43), 3) := by decide +kernel
theorem dX0_firstFalseClause_48 : decode cX0_firstFalseClause 48 = .ok (.iconst (-1), 1) := by decide +kernel
theorem dX0_firstFalseClause_49 : decode cX0_firstFalseClause 49 = .ok (.ireturn, 1) := by decide +kernel
theorem dX0_firstUnitClause_0 : decode cX0_firstUnitClause 0 = .ok (.iconst 0, 1) := by decide +kernel
theorem dX0_firstUnitClause_1 : decode cX0_firstUnitClause 1 = .ok (.istore_n 1, 1) := by decide +kernel
theorem dX0_firstUnitClause_2 : decode cX0_firstUnitClause 2 = .ok (.iload_n 1, 1) := by decide +kernel
theorem dX0_firstUnitClause_3 : decode cX0_firstUnitClause 3 = .ok (.aload_n 0, 1) := by decide +kernel
theorem dX0_firstUnitClause_4 : decode cX0_firstUnitClause 4 = .ok (.getfield 22, 3) := by decide +kernel
theorem dX0_firstUnitClause_7 : decode cX0_firstUnitClause 7 = .ok (.getfield 78, 3) := by decide +kernel
theorem dX0_firstUnitClause_10 : decode cX0_firstUnitClause 10 = .ok (.if_icmp .ge 67, 3) := by decide +kernel
theorem dX0_firstUnitClause_13 : decode cX0_firstUnitClause 13 = .ok (.aload_n 0, 1) := by decide +kernel
theorem dX0_firstUnitClause_14 : decode cX0_firstUnitClause 14 = .ok (.getfield 22, 3) := by decide +kernel
theorem dX0_firstUnitClause_17 : decode cX0_firstUnitClause 17 = .ok (.iload_n 1, 1) := by decide +kernel
theorem dX0_firstUnitClause_18 : decode cX0_firstUnitClause 18 = .ok (.aload_n 0, 1) := by decide +kernel
theorem dX0_firstUnitClause_19 : decode cX0_firstUnitClause 19 = .ok (.getfield 54, 3) := by decide +kernel
theorem dX0_firstUnitClause_22 : decode cX0_firstUnitClause 22 = .ok (.invokevirtual 89, 3) := by decide +kernel
theorem dX0_firstUnitClause_25 : decode cX0_firstUnitClause 25 = .ok (.invokestatic 93, 3) := by decide +kernel
theorem dX0_firstUnitClause_28 : decode cX0_firstUnitClause 28 = .ok (.iconst 1, 1) := by decide +kernel
theorem dX0_firstUnitClause_29 : decode cX0_firstUnitClause 29 = .ok (.if_icmp .ne 7, 3) := by decide +kernel
theorem dX0_firstUnitClause_32 : decode cX0_firstUnitClause 32 = .ok (.iconst 1, 1) := by decide +kernel
theorem dX0_firstUnitClause_33 : decode cX0_firstUnitClause 33 = .ok (.goto 4, 3) := by decide +kernel
theorem dX0_firstUnitClause_36 : decode cX0_firstUnitClause 36 = .ok (.iconst 0, 1) := by decide +kernel
theorem dX0_firstUnitClause_37 : decode cX0_firstUnitClause 37 = .ok (.istore_n 2, 1) := by decide +kernel
theorem dX0_firstUnitClause_38 : decode cX0_firstUnitClause 38 = .ok (.iload_n 2, 1) := by decide +kernel
theorem dX0_firstUnitClause_39 : decode cX0_firstUnitClause 39 = .ok (.ifCond .eq 32, 3) := by decide +kernel
theorem dX0_firstUnitClause_42 : decode cX0_firstUnitClause 42 = .ok (.aload_n 0, 1) := by decide +kernel
theorem dX0_firstUnitClause_43 : decode cX0_firstUnitClause 43 = .ok (.iload_n 1, 1) := by decide +kernel
theorem dX0_firstUnitClause_44 : decode cX0_firstUnitClause 44 = .ok (.invokevirtual 81, 3) := by decide +kernel
theorem dX0_firstUnitClause_47 : decode cX0_firstUnitClause 47 = .ok (.ifCond .eq 24, 3) := by decide +kernel
theorem dX0_firstUnitClause_50 : decode cX0_firstUnitClause 50 = .ok (.aload_n 0, 1) := by decide +kernel
theorem dX0_firstUnitClause_51 : decode cX0_firstUnitClause 51 = .ok (.getfield 22, 3) := by decide +kernel
theorem dX0_firstUnitClause_54 : decode cX0_firstUnitClause 54 = .ok (.iload_n 1, 1) := by decide +kernel
theorem dX0_firstUnitClause_55 : decode cX0_firstUnitClause 55 = .ok (.aload_n 0, 1) := by decide +kernel
theorem dX0_firstUnitClause_56 : decode cX0_firstUnitClause 56 = .ok (.getfield 54, 3) := by decide +kernel
theorem dX0_firstUnitClause_59 : decode cX0_firstUnitClause 59 = .ok (.aload_n 0, 1) := by decide +kernel
theorem dX0_firstUnitClause_60 : decode cX0_firstUnitClause 60 = .ok (.getfield 57, 3) := by decide +kernel
theorem dX0_firstUnitClause_63 : decode cX0_firstUnitClause 63 = .ok (.invokevirtual 99, 3) := by decide +kernel
theorem dX0_firstUnitClause_66 : decode cX0_firstUnitClause 66 = .ok (.ifCond .ne 5, 3) := by decide +kernel
theorem dX0_firstUnitClause_69 : decode cX0_firstUnitClause 69 = .ok (.iload_n 1, 1) := by decide +kernel
theorem dX0_firstUnitClause_70 : decode cX0_firstUnitClause 70 = .ok (.ireturn, 1) := by decide +kernel
theorem dX0_firstUnitClause_71 : decode cX0_firstUnitClause 71 = .ok (.iinc 1 1, 3) := by decide +kernel
theorem dX0_firstUnitClause_74 : decode cX0_firstUnitClause 74 = .ok (.goto (-72), 3) := by decide +kernel
theorem dX0_firstUnitClause_77 : decode cX0_firstUnitClause 77 = .ok (.iconst (-1), 1) := by decide +kernel
theorem dX0_firstUnitClause_78 : decode cX0_firstUnitClause 78 = .ok (.ireturn, 1) := by decide +kernel
theorem dX0_growBy_0 : decode cX0_growBy 0 = .ok (.aload_n 0, 1) := by decide +kernel
theorem dX0_growBy_1 : decode cX0_growBy 1 = .ok (.getfield 60, 3) := by decide +kernel
theorem dX0_growBy_4 : decode cX0_growBy 4 = .ok (.bipush 10, 2) := by decide +kernel
theorem dX0_growBy_6 : decode cX0_growBy 6 = .ok (.if_icmp .lt 4, 3) := by decide +kernel
theorem dX0_growBy_9 : decode cX0_growBy 9 = .ok (.return_, 1) := by decide +kernel
theorem dX0_growBy_10 : decode cX0_growBy 10 = .ok (.aload_n 0, 1) := by decide +kernel
theorem dX0_growBy_11 : decode cX0_growBy 11 = .ok (.getfield 22, 3) := by decide +kernel
theorem dX0_growBy_14 : decode cX0_growBy 14 = .ok (.iload_n 1, 1) := by decide +kernel
theorem dX0_growBy_15 : decode cX0_growBy 15 = .ok (.aload_n 0, 1) := by decide +kernel
theorem dX0_growBy_16 : decode cX0_growBy 16 = .ok (.getfield 54, 3) := by decide +kernel
theorem dX0_growBy_19 : decode cX0_growBy 19 = .ok (.invokevirtual 89, 3) := by decide +kernel
theorem dX0_growBy_22 : decode cX0_growBy 22 = .ok (.istore_n 2, 1) := by decide +kernel
theorem dX0_growBy_23 : decode cX0_growBy 23 = .ok (.aload_n 0, 1) := by decide +kernel
theorem dX0_growBy_24 : decode cX0_growBy 24 = .ok (.dup, 1) := by decide +kernel
theorem dX0_growBy_25 : decode cX0_growBy 25 = .ok (.getfield 54, 3) := by decide +kernel
theorem dX0_growBy_28 : decode cX0_growBy 28 = .ok (.iload_n 2, 1) := by decide +kernel
theorem dX0_growBy_29 : decode cX0_growBy 29 = .ok (.ior, 1) := by decide +kernel
theorem dX0_growBy_30 : decode cX0_growBy 30 = .ok (.putfield 54, 3) := by decide +kernel
theorem dX0_growBy_33 : decode cX0_growBy 33 = .ok (.aload_n 0, 1) := by decide +kernel
theorem dX0_growBy_34 : decode cX0_growBy 34 = .ok (.dup, 1) := by decide +kernel
theorem dX0_growBy_35 : decode cX0_growBy 35 = .ok (.getfield 57, 3) := by decide +kernel
theorem dX0_growBy_38 : decode cX0_growBy 38 = .ok (.iload_n 2, 1) := by decide +kernel
theorem dX0_growBy_39 : decode cX0_growBy 39 = .ok (.aload_n 0, 1) := by decide +kernel
theorem dX0_growBy_40 : decode cX0_growBy 40 = .ok (.getfield 22, 3) := by decide +kernel
theorem dX0_growBy_43 : decode cX0_growBy 43 = .ok (.iload_n 1, 1) := by decide +kernel
theorem dX0_growBy_44 : decode cX0_growBy 44 = .ok (.invokevirtual 102, 3) := by decide +kernel
theorem dX0_growBy_47 : decode cX0_growBy 47 = .ok (.iand, 1) := by decide +kernel
theorem dX0_growBy_48 : decode cX0_growBy 48 = .ok (.ior, 1) := by decide +kernel
theorem dX0_growBy_49 : decode cX0_growBy 49 = .ok (.putfield 57, 3) := by decide +kernel
theorem dX0_growBy_52 : decode cX0_growBy 52 = .ok (.aload_n 0, 1) := by decide +kernel
theorem dX0_growBy_53 : decode cX0_growBy 53 = .ok (.getfield 15, 3) := by decide +kernel
theorem dX0_growBy_56 : decode cX0_growBy 56 = .ok (.aload_n 0, 1) := by decide +kernel
theorem dX0_growBy_57 : decode cX0_growBy 57 = .ok (.getfield 60, 3) := by decide +kernel
theorem dX0_growBy_60 : decode cX0_growBy 60 = .ok (.iload_n 2, 1) := by decide +kernel
theorem dX0_growBy_61 : decode cX0_growBy 61 = .ok (.iastore, 1) := by decide +kernel
theorem dX0_growBy_62 : decode cX0_growBy 62 = .ok (.aload_n 0, 1) := by decide +kernel
