theorem dX0_growBy_63 : decode cX0_growBy 63 = .ok (.getfield 19, 3) := by decide +kernel
theorem dX0_growBy_66 : decode cX0_growBy 66 = .ok (.aload_n 0, 1) := by decide +kernel
theorem dX0_growBy_67 : decode cX0_growBy 67 = .ok (.getfield 60, 3) := by decide +kernel
theorem dX0_growBy_70 : decode cX0_growBy 70 = .ok (.iload_n 1, 1) := by decide +kernel
theorem dX0_growBy_71 : decode cX0_growBy 71 = .ok (.iastore, 1) := by decide +kernel
theorem dX0_growBy_72 : decode cX0_growBy 72 = .ok (.aload_n 0, 1) := by decide +kernel
theorem dX0_growBy_73 : decode cX0_growBy 73 = .ok (.dup, 1) := by decide +kernel
theorem dX0_growBy_74 : decode cX0_growBy 74 = .ok (.getfield 60, 3) := by decide +kernel
theorem dX0_growBy_77 : decode cX0_growBy 77 = .ok (.iconst 1, 1) := by decide +kernel
theorem dX0_growBy_78 : decode cX0_growBy 78 = .ok (.iadd, 1) := by decide +kernel
theorem dX0_growBy_79 : decode cX0_growBy 79 = .ok (.putfield 60, 3) := by decide +kernel
theorem dX0_growBy_82 : decode cX0_growBy 82 = .ok (.return_, 1) := by decide +kernel
theorem dX0_subsetBehind_0 : decode cX0_subsetBehind 0 = .ok (.lconst 1, 1) := by decide +kernel
theorem dX0_subsetBehind_1 : decode cX0_subsetBehind 1 = .ok (.iload_n 1, 1) := by decide +kernel
theorem dX0_subsetBehind_2 : decode cX0_subsetBehind 2 = .ok (.lshl, 1) := by decide +kernel
theorem dX0_subsetBehind_3 : decode cX0_subsetBehind 3 = .ok (.lstore_n 2, 1) := by decide +kernel
theorem dX0_subsetBehind_4 : decode cX0_subsetBehind 4 = .ok (.aload_n 0, 1) := by decide +kernel
theorem dX0_subsetBehind_5 : decode cX0_subsetBehind 5 = .ok (.getfield 22, 3) := by decide +kernel
theorem dX0_subsetBehind_8 : decode cX0_subsetBehind 8 = .ok (.iload_n 1, 1) := by decide +kernel
theorem dX0_subsetBehind_9 : decode cX0_subsetBehind 9 = .ok (.invokevirtual 105, 3) := by decide +kernel
theorem dX0_subsetBehind_12 : decode cX0_subsetBehind 12 = .ok (.istore 4, 2) := by decide +kernel
theorem dX0_subsetBehind_14 : decode cX0_subsetBehind 14 = .ok (.aload_n 0, 1) := by decide +kernel
theorem dX0_subsetBehind_15 : decode cX0_subsetBehind 15 = .ok (.getfield 60, 3) := by decide +kernel
theorem dX0_subsetBehind_18 : decode cX0_subsetBehind 18 = .ok (.iconst 1, 1) := by decide +kernel
theorem dX0_subsetBehind_19 : decode cX0_subsetBehind 19 = .ok (.isub, 1) := by decide +kernel
theorem dX0_subsetBehind_20 : decode cX0_subsetBehind 20 = .ok (.istore 5, 2) := by decide +kernel
theorem dX0_subsetBehind_22 : decode cX0_subsetBehind 22 = .ok (.iload 5, 2) := by decide +kernel
theorem dX0_subsetBehind_24 : decode cX0_subsetBehind 24 = .ok (.ifCond .lt 53, 3) := by decide +kernel
theorem dX0_subsetBehind_27 : decode cX0_subsetBehind 27 = .ok (.iload 4, 2) := by decide +kernel
theorem dX0_subsetBehind_29 : decode cX0_subsetBehind 29 = .ok (.aload_n 0, 1) := by decide +kernel
theorem dX0_subsetBehind_30 : decode cX0_subsetBehind 30 = .ok (.getfield 15, 3) := by decide +kernel
theorem dX0_subsetBehind_33 : decode cX0_subsetBehind 33 = .ok (.iload 5, 2) := by decide +kernel
theorem dX0_subsetBehind_35 : decode cX0_subsetBehind 35 = .ok (.iaload, 1) := by decide +kernel
theorem dX0_subsetBehind_36 : decode cX0_subsetBehind 36 = .ok (.iand, 1) := by decide +kernel
theorem dX0_subsetBehind_37 : decode cX0_subsetBehind 37 = .ok (.ifCond .eq 34, 3) := by decide +kernel
theorem dX0_subsetBehind_40 : decode cX0_subsetBehind 40 = .ok (.lload_n 2, 1) := by decide +kernel
theorem dX0_subsetBehind_41 : decode cX0_subsetBehind 41 = .ok (.lconst 1, 1) := by decide +kernel
theorem dX0_subsetBehind_42 : decode cX0_subsetBehind 42 = .ok (.aload_n 0, 1) := by decide +kernel
theorem dX0_subsetBehind_43 : decode cX0_subsetBehind 43 = .ok (.getfield 19, 3) := by decide +kernel
theorem dX0_subsetBehind_46 : decode cX0_subsetBehind 46 = .ok (.iload 5, 2) := by decide +kernel
theorem dX0_subsetBehind_48 : decode cX0_subsetBehind 48 = .ok (.iaload, 1) := by decide +kernel
theorem dX0_subsetBehind_49 : decode cX0_subsetBehind 49 = .ok (.lshl, 1) := by decide +kernel
theorem dX0_subsetBehind_50 : decode cX0_subsetBehind 50 = .ok (.lor, 1) := by decide +kernel
theorem dX0_subsetBehind_51 : decode cX0_subsetBehind 51 = .ok (.lstore_n 2, 1) := by decide +kernel
theorem dX0_subsetBehind_52 : decode cX0_subsetBehind 52 = .ok (.iload 4, 2) := by decide +kernel
theorem dX0_subsetBehind_54 : decode cX0_subsetBehind 54 = .ok (.aload_n 0, 1) := by decide +kernel
theorem dX0_subsetBehind_55 : decode cX0_subsetBehind 55 = .ok (.getfield 22, 3) := by decide +kernel
theorem dX0_subsetBehind_58 : decode cX0_subsetBehind 58 = .ok (.aload_n 0, 1) := by decide +kernel
theorem dX0_subsetBehind_59 : decode cX0_subsetBehind 59 = .ok (.getfield 19, 3) := by decide +kernel
theorem dX0_subsetBehind_62 : decode cX0_subsetBehind 62 = .ok (.iload 5, 2) := by decide +kernel
theorem dX0_subsetBehind_64 : decode cX0_subsetBehind 64 = .ok (.iaload, 1) := by decide +kernel
theorem dX0_subsetBehind_65 : decode cX0_subsetBehind 65 = .ok (.invokevirtual 105, 3) := by decide +kernel
theorem dX0_subsetBehind_68 : decode cX0_subsetBehind 68 = .ok (.ior, 1) := by decide +kernel
theorem dX0_subsetBehind_69 : decode cX0_subsetBehind 69 = .ok (.istore 4, 2) := by decide +kernel
theorem dX0_subsetBehind_71 : decode cX0_subsetBehind 71 = .ok (.iinc 5 (-1), 3) := by decide +kernel
theorem dX0_subsetBehind_74 : decode cX0_subsetBehind 74 = .ok (.goto (-52), 3) := by decide +kernel
theorem dX0_subsetBehind_77 : decode cX0_subsetBehind 77 = .ok (.lload_n 2, 1) := by decide +kernel
theorem dX0_subsetBehind_78 : decode cX0_subsetBehind 78 = .ok (.lreturn, 1) := by decide +kernel
theorem dX1_init_0 : decode cX1_init 0 = .ok (.aload_n 0, 1) := by decide +kernel
theorem dX1_init_1 : decode cX1_init 1 = .ok (.invokespecial 3, 3) := by decide +kernel
theorem dX1_init_4 : decode cX1_init 4 = .ok (.aload_n 0, 1) := by decide +kernel
theorem dX1_init_5 : decode cX1_init 5 = .ok (.bipush 40, 2) := by decide +kernel
theorem dX1_init_7 : decode cX1_init 7 = .ok (.newarray .int, 2) := by decide +kernel
theorem dX1_init_9 : decode cX1_init 9 = .ok (.putfield 9, 3) := by decide +kernel
theorem dX1_init_12 : decode cX1_init 12 = .ok (.aload_n 0, 1) := by decide +kernel
theorem dX1_init_13 : decode cX1_init 13 = .ok (.bipush 40, 2) := by decide +kernel
theorem dX1_init_15 : decode cX1_init 15 = .ok (.newarray .int, 2) := by decide +kernel
theorem dX1_init_17 : decode cX1_init 17 = .ok (.putfield 15, 3) := by decide +kernel
theorem dX1_init_20 : decode cX1_init 20 = .ok (.aload_n 0, 1) := by decide +kernel
theorem dX1_init_21 : decode cX1_init 21 = .ok (.bipush 40, 2) := by decide +kernel
theorem dX1_init_23 : decode cX1_init 23 = .ok (.newarray .int, 2) := by decide +kernel
theorem dX1_init_25 : decode cX1_init 25 = .ok (.putfield 18, 3) := by decide +kernel
theorem dX1_init_28 : decode cX1_init 28 = .ok (.aload_n 0, 1) := by decide +kernel
theorem dX1_init_29 : decode cX1_init 29 = .ok (.iload_n 1, 1) := by decide +kernel
theorem dX1_init_30 : decode cX1_init 30 = .ok (.putfield 21, 3) := by decide +kernel
theorem dX1_init_33 : decode cX1_init 33 = .ok (.aload_n 0, 1) := by decide +kernel
theorem dX1_init_34 : decode cX1_init 34 = .ok (.iconst 1, 1) := by decide +kernel
theorem dX1_init_35 : decode cX1_init 35 = .ok (.iload_n 1, 1) := by decide +kernel
theorem dX1_init_36 : decode cX1_init 36 = .ok (.ishl, 1) := by decide +kernel
theorem dX1_init_37 : decode cX1_init 37 = .ok (.iconst 1, 1) := by decide +kernel
theorem dX1_init_38 : decode cX1_init 38 = .ok (.isub, 1) := by decide +kernel
theorem dX1_init_39 : decode cX1_init 39 = .ok (.putfield 25, 3) := by decide +kernel
theorem dX1_init_42 : decode cX1_init 42 = .ok (.return_, 1) := by decide +kernel
theorem dX1_add_0 : decode cX1_add 0 = .ok (.aload_n 0, 1) := by decide +kernel
theorem dX1_add_1 : decode cX1_add 1 = .ok (.getfield 28, 3) := by decide +kernel
theorem dX1_add_4 : decode cX1_add 4 = .ok (.istore 4, 2) := by decide +kernel
theorem dX1_add_6 : decode cX1_add 6 = .ok (.iload 4, 2) := by decide +kernel
theorem dX1_add_8 : decode cX1_add 8 = .ok (.bipush 40, 2) := by decide +kernel
theorem dX1_add_10 : decode cX1_add 10 = .ok (.if_icmp .lt 5, 3) := by decide +kernel
theorem dX1_add_13 : decode cX1_add 13 = .ok (.iconst (-1), 1) := by decide +kernel
theorem dX1_add_14 : decode cX1_add 14 = .ok (.ireturn, 1) := by decide +kernel
theorem dX1_add_15 : decode cX1_add 15 = .ok (.aload_n 0, 1) := by decide +kernel
theorem dX1_add_16 : decode cX1_add 16 = .ok (.getfield 18, 3) := by decide +kernel
theorem dX1_add_19 : decode cX1_add 19 = .ok (.iload 4, 2) := by decide +kernel
theorem dX1_add_21 : decode cX1_add 21 = .ok (.iload_n 1, 1) := by decide +kernel
theorem dX1_add_22 : decode cX1_add 22 = .ok (.iastore, 1) := by decide +kernel
theorem dX1_add_23 : decode cX1_add 23 = .ok (.aload_n 0, 1) := by decide +kernel
theorem dX1_add_24 : decode cX1_add 24 = .ok (.getfield 9, 3) := by decide +kernel
theorem dX1_add_27 : decode cX1_add 27 = .ok (.iload 4, 2) := by decide +kernel
theorem dX1_add_29 : decode cX1_add 29 = .ok (.iload_n 2, 1) := by decide +kernel
theorem dX1_add_30 : decode cX1_add 30 = .ok (.iastore, 1) := by decide +kernel
theorem dX1_add_31 : decode cX1_add 31 = .ok (.aload_n 0, 1) := by decide +kernel
theorem dX1_add_32 : decode cX1_add 32 = .ok (.getfield 15, 3) := by decide +kernel
theorem dX1_add_35 : decode cX1_add 35 = .ok (.iload 4, 2) := by decide +kernel
theorem dX1_add_37 : decode cX1_add 37 = .ok (.iload_n 3, 1) := by decide +kernel
theorem dX1_add_38 : decode cX1_add 38 = .ok (.iastore, 1) := by decide +kernel
theorem dX1_add_39 : decode cX1_add 39 = .ok (.aload_n 0, 1) := by decide +kernel
theorem dX1_add_40 : decode cX1_add 40 = .ok (.iload 4, 2) := by decide +kernel
theorem dX1_add_42 : decode cX1_add 42 = .ok (.iconst 1, 1) := by decide +kernel
theorem dX1_add_43 : decode cX1_add 43 = .ok (.iadd, 1) := by decide +kernel
theorem dX1_add_44 : decode cX1_add 44 = .ok (.putfield 28, 3) := by decide +kernel
theorem dX1_add_47 : decode cX1_add 47 = .ok (.iload 4, 2) := by decide +kernel
theorem dX1_add_49 : decode cX1_add 49 = .ok (.ireturn, 1) := by decide +kernel
theorem dX1_removeLast_0 : decode cX1_removeLast 0 = .ok (.aload_n 0, 1) := by decide +kernel
theorem dX1_removeLast_1 : decode cX1_removeLast 1 = .ok (.iconst 0, 1) := by decide +kernel
theorem dX1_removeLast_2 : decode cX1_removeLast 2 = .ok (.aload_n 0, 1) := by decide +kernel
theorem dX1_removeLast_3 : decode cX1_removeLast 3 = .ok (.getfield 28, 3) := by decide +kernel
theorem dX1_removeLast_6 : decode cX1_removeLast 6 = .ok (.iconst 1, 1) := by decide +kernel
theorem dX1_removeLast_7 : decode cX1_removeLast 7 = .ok (.isub, 1) := by decide +kernel
theorem dX1_removeLast_8 : decode cX1_removeLast 8 = .ok (.invokestatic 31, 3) := by decide +kernel
theorem dX1_removeLast_11 : decode cX1_removeLast 11 = .ok (.putfield 28, 3) := by decide +kernel
theorem dX1_removeLast_14 : decode cX1_removeLast 14 = .ok (.aload_n 0, 1) := by decide +kernel
theorem dX1_removeLast_15 : decode cX1_removeLast 15 = .ok (.getfield 28, 3) := by decide +kernel
theorem dX1_removeLast_18 : decode cX1_removeLast 18 = .ok (.ireturn, 1) := by decide +kernel
theorem dX1_replaceWeight_0 : decode cX1_replaceWeight 0 = .ok (.aload_n 0, 1) := by decide +kernel
theorem dX1_replaceWeight_1 : decode cX1_replaceWeight 1 = .ok (.getfield 18, 3) := by decide +kernel
theorem dX1_replaceWeight_4 : decode cX1_replaceWeight 4 = .ok (.iload_n 1, 1) := by decide +kernel
theorem dX1_replaceWeight_5 : decode cX1_replaceWeight 5 = .ok (.iaload, 1) := by decide +kernel
theorem dX1_replaceWeight_6 : decode cX1_replaceWeight 6 = .ok (.istore_n 3, 1) := by decide +kernel
theorem dX1_replaceWeight_7 : decode cX1_replaceWeight 7 = .ok (.aload_n 0, 1) := by decide +kernel
theorem dX1_replaceWeight_8 : decode cX1_replaceWeight 8 = .ok (.getfield 18, 3) := by decide +kernel
theorem dX1_replaceWeight_11 : decode cX1_replaceWeight 11 = .ok (.iload_n 1, 1) := by decide +kernel
theorem dX1_replaceWeight_12 : decode cX1_replaceWeight 12 = .ok (.iload_n 2, 1) := by decide +kernel
theorem dX1_replaceWeight_13 : decode cX1_replaceWeight 13 = .ok (.iastore, 1) := by decide +kernel
theorem dX1_replaceWeight_14 : decode cX1_replaceWeight 14 = .ok (.iload_n 3, 1) := by decide +kernel
theorem dX1_replaceWeight_15 : decode cX1_replaceWeight 15 = .ok (.ireturn, 1) := by decide +kernel
theorem dX1_variablesOf_0 : decode cX1_variablesOf 0 = .ok (.aload_n 0, 1) := by decide +kernel
theorem dX1_variablesOf_1 : decode cX1_variablesOf 1 = .ok (.getfield 9, 3) := by decide +kernel
theorem dX1_variablesOf_4 : decode cX1_variablesOf 4 = .ok (.iload_n 1, 1) := by decide +kernel
theorem dX1_variablesOf_5 : decode cX1_variablesOf 5 = .ok (.iaload, 1) := by decide +kernel
theorem dX1_variablesOf_6 : decode cX1_variablesOf 6 = .ok (.aload_n 0, 1) := by decide +kernel
theorem dX1_variablesOf_7 : decode cX1_variablesOf 7 = .ok (.getfield 15, 3) := by decide +kernel
theorem dX1_variablesOf_10 : decode cX1_variablesOf 10 = .ok (.iload_n 1, 1) := by decide +kernel
theorem dX1_variablesOf_11 : decode cX1_variablesOf 11 = .ok (.iaload, 1) := by decide +kernel
theorem dX1_variablesOf_12 : decode cX1_variablesOf 12 = .ok (.ior, 1) := by decide +kernel
theorem dX1_variablesOf_13 : decode cX1_variablesOf 13 = .ok (.ireturn, 1) := by decide +kernel
theorem dX1_withoutValue_0 : decode cX1_withoutValue 0 = .ok (.aload_n 0, 1) := by decide +kernel
theorem dX1_withoutValue_1 : decode cX1_withoutValue 1 = .ok (.getfield 9, 3) := by decide +kernel
theorem dX1_withoutValue_4 : decode cX1_withoutValue 4 = .ok (.iload_n 1, 1) := by decide +kernel
theorem dX1_withoutValue_5 : decode cX1_withoutValue 5 = .ok (.iaload, 1) := by decide +kernel
theorem dX1_withoutValue_6 : decode cX1_withoutValue 6 = .ok (.aload_n 0, 1) := by decide +kernel
theorem dX1_withoutValue_7 : decode cX1_withoutValue 7 = .ok (.getfield 15, 3) := by decide +kernel
theorem dX1_withoutValue_10 : decode cX1_withoutValue 10 = .ok (.iload_n 1, 1) := by decide +kernel
theorem dX1_withoutValue_11 : decode cX1_withoutValue 11 = .ok (.iaload, 1) := by decide +kernel
theorem dX1_withoutValue_12 : decode cX1_withoutValue 12 = .ok (.ior, 1) := by decide +kernel
theorem dX1_withoutValue_13 : decode cX1_withoutValue 13 = .ok (.iload_n 2, 1) := by decide +kernel
theorem dX1_withoutValue_14 : decode cX1_withoutValue 14 = .ok (.iconst (-1), 1) := by decide +kernel
theorem dX1_withoutValue_15 : decode cX1_withoutValue 15 = .ok (.ixor, 1) := by decide +kernel
theorem dX1_withoutValue_16 : decode cX1_withoutValue 16 = .ok (.iand, 1) := by decide +kernel
theorem dX1_withoutValue_17 : decode cX1_withoutValue 17 = .ok (.ireturn, 1) := by decide +kernel
theorem dX1_literalsSayingTrue_0 : decode cX1_literalsSayingTrue 0 = .ok (.aload_n 0, 1) := by decide +kernel
theorem dX1_literalsSayingTrue_1 : decode cX1_literalsSayingTrue 1 = .ok (.getfield 9, 3) := by decide +kernel
theorem dX1_literalsSayingTrue_4 : decode cX1_literalsSayingTrue 4 = .ok (.iload_n 1, 1) := by decide +kernel
theorem dX1_literalsSayingTrue_5 : decode cX1_literalsSayingTrue 5 = .ok (.iaload, 1) := by decide +kernel
theorem dX1_literalsSayingTrue_6 : decode cX1_literalsSayingTrue 6 = .ok (.ireturn, 1) := by decide +kernel
theorem dX1_isTrue_0 : decode cX1_isTrue 0 = .ok (.aload_n 0, 1) := by decide +kernel
theorem dX1_isTrue_1 : decode cX1_isTrue 1 = .ok (.getfield 9, 3) := by decide +kernel
theorem dX1_isTrue_4 : decode cX1_isTrue 4 = .ok (.iload_n 1, 1) := by decide +kernel
theorem dX1_isTrue_5 : decode cX1_isTrue 5 = .ok (.iaload, 1) := by decide +kernel
theorem dX1_isTrue_6 : decode cX1_isTrue 6 = .ok (.iload_n 3, 1) := by decide +kernel
theorem dX1_isTrue_7 : decode cX1_isTrue 7 = .ok (.iand, 1) := by decide +kernel
theorem dX1_isTrue_8 : decode cX1_isTrue 8 = .ok (.ifCond .ne 18, 3) := by decide +kernel
theorem dX1_isTrue_11 : decode cX1_isTrue 11 = .ok (.aload_n 0, 1) := by decide +kernel
theorem dX1_isTrue_12 : decode cX1_isTrue 12 = .ok (.getfield 15, 3) := by decide +kernel
theorem dX1_isTrue_15 : decode cX1_isTrue 15 = .ok (.iload_n 1, 1) := by decide +kernel
theorem dX1_isTrue_16 : decode cX1_isTrue 16 = .ok (.iaload, 1) := by decide +kernel
theorem dX1_isTrue_17 : decode cX1_isTrue 17 = .ok (.iload_n 2, 1) := by decide +kernel
theorem dX1_isTrue_18 : decode cX1_isTrue 18 = .ok (.iand, 1) := by decide +kernel
theorem dX1_isTrue_19 : decode cX1_isTrue 19 = .ok (.iload_n 3, 1) := by decide +kernel
theorem dX1_isTrue_20 : decode cX1_isTrue 20 = .ok (.iconst (-1), 1) := by decide +kernel
theorem dX1_isTrue_21 : decode cX1_isTrue 21 = .ok (.ixor, 1) := by decide +kernel
theorem dX1_isTrue_22 : decode cX1_isTrue 22 = .ok (.iand, 1) := by decide +kernel
theorem dX1_isTrue_23 : decode cX1_isTrue 23 = .ok (.ifCond .eq 7, 3) := by decide +kernel
theorem dX1_isTrue_26 : decode cX1_isTrue 26 = .ok (.iconst 1, 1) := by decide +kernel
theorem dX1_isTrue_27 : decode cX1_isTrue 27 = .ok (.goto 4, 3) := by decide +kernel
theorem dX1_isTrue_30 : decode cX1_isTrue 30 = .ok (.iconst 0, 1) := by decide +kernel
theorem dX1_isTrue_31 : decode cX1_isTrue 31 = .ok (.ireturn, 1) := by decide +kernel
theorem dX1_isFalse_0 : decode cX1_isFalse 0 = .ok (.aload_n 0, 1) := by decide +kernel
theorem dX1_isFalse_1 : decode cX1_isFalse 1 = .ok (.getfield 9, 3) := by decide +kernel
theorem dX1_isFalse_4 : decode cX1_isFalse 4 = .ok (.iload_n 1, 1) := by decide +kernel
theorem dX1_isFalse_5 : decode cX1_isFalse 5 = .ok (.iaload, 1) := by decide +kernel
theorem dX1_isFalse_6 : decode cX1_isFalse 6 = .ok (.aload_n 0, 1) := by decide +kernel
theorem dX1_isFalse_7 : decode cX1_isFalse 7 = .ok (.getfield 15, 3) := by decide +kernel
theorem dX1_isFalse_10 : decode cX1_isFalse 10 = .ok (.iload_n 1, 1) := by decide +kernel
theorem dX1_isFalse_11 : decode cX1_isFalse 11 = .ok (.iaload, 1) := by decide +kernel
theorem dX1_isFalse_12 : decode cX1_isFalse 12 = .ok (.ior, 1) := by decide +kernel
theorem dX1_isFalse_13 : decode cX1_isFalse 13 = .ok (.istore 4, 2) := by decide +kernel
theorem dX1_isFalse_15 : decode cX1_isFalse 15 = .ok (.iload 4, 2) := by decide +kernel
theorem dX1_isFalse_17 : decode cX1_isFalse 17 = .ok (.iload_n 2, 1) := by decide +kernel
theorem dX1_isFalse_18 : decode cX1_isFalse 18 = .ok (.iconst (-1), 1) := by decide +kernel
theorem dX1_isFalse_19 : decode cX1_isFalse 19 = .ok (.ixor, 1) := by decide +kernel
theorem dX1_isFalse_20 : decode cX1_isFalse 20 = .ok (.iand, 1) := by decide +kernel
theorem dX1_isFalse_21 : decode cX1_isFalse 21 = .ok (.ifCond .ne 20, 3) := by decide +kernel
theorem dX1_isFalse_24 : decode cX1_isFalse 24 = .ok (.iload 4, 2) := by decide +kernel
theorem dX1_isFalse_26 : decode cX1_isFalse 26 = .ok (.iload_n 3, 1) := by decide +kernel
theorem dX1_isFalse_27 : decode cX1_isFalse 27 = .ok (.iand, 1) := by decide +kernel
theorem dX1_isFalse_28 : decode cX1_isFalse 28 = .ok (.aload_n 0, 1) := by decide +kernel
theorem dX1_isFalse_29 : decode cX1_isFalse 29 = .ok (.getfield 15, 3) := by decide +kernel
theorem dX1_isFalse_32 : decode cX1_isFalse 32 = .ok (.iload_n 1, 1) := by decide +kernel
theorem dX1_isFalse_33 : decode cX1_isFalse 33 = .ok (.iaload, 1) := by decide +kernel
theorem dX1_isFalse_34 : decode cX1_isFalse 34 = .ok (.if_icmp .ne 7, 3) := by decide +kernel
theorem dX1_isFalse_37 : decode cX1_isFalse 37 = .ok (.iconst 1, 1) := by decide +kernel
theorem dX1_isFalse_38 : decode cX1_isFalse 38 = .ok (.goto 4, 3) := by decide +kernel
theorem dX1_isFalse_41 : decode cX1_isFalse 41 = .ok (.iconst 0, 1) := by decide +kernel
theorem dX1_isFalse_42 : decode cX1_isFalse 42 = .ok (.ireturn, 1) := by decide +kernel
theorem dX1_openClauses_0 : decode cX1_openClauses 0 = .ok (.lconst 0, 1) := by decide +kernel
theorem dX1_openClauses_1 : decode cX1_openClauses 1 = .ok (.lstore_n 3, 1) := by decide +kernel
theorem dX1_openClauses_2 : decode cX1_openClauses 2 = .ok (.iconst 0, 1) := by decide +kernel
theorem dX1_openClauses_3 : decode cX1_openClauses 3 = .ok (.istore 5, 2) := by decide +kernel
theorem dX1_openClauses_5 : decode cX1_openClauses 5 = .ok (.iload 5, 2) := by decide +kernel
theorem dX1_openClauses_7 : decode cX1_openClauses 7 = .ok (.aload_n 0, 1) := by decide +kernel
theorem dX1_openClauses_8 : decode cX1_openClauses 8 = .ok (.getfield 28, 3) := by decide +kernel
theorem dX1_openClauses_11 : decode cX1_openClauses 11 = .ok (.if_icmp .ge 37, 3) := by decide +kernel
theorem dX1_openClauses_14 : decode cX1_openClauses 14 = .ok (.aload_n 0, 1) := by decide +kernel
theorem dX1_openClauses_15 : decode cX1_openClauses 15 = .ok (.iload 5, 2) := by decide +kernel
theorem dX1_openClauses_17 : decode cX1_openClauses 17 = .ok (.iload_n 1, 1) := by decide +kernel
theorem dX1_openClauses_18 : decode cX1_openClauses 18 = .ok (.invokevirtual 37, 3) := by decide +kernel
theorem dX1_openClauses_21 : decode cX1_openClauses 21 = .ok (.ifCond .eq 21, 3) := by decide +kernel
theorem dX1_openClauses_24 : decode cX1_openClauses 24 = .ok (.aload_n 0, 1) := by decide +kernel
theorem dX1_openClauses_25 : decode cX1_openClauses 25 = .ok (.iload 5, 2) := by decide +kernel
theorem dX1_openClauses_27 : decode cX1_openClauses 27 = .ok (.iload_n 1, 1) := by decide +kernel
theorem dX1_openClauses_28 : decode cX1_openClauses 28 = .ok (.iload_n 2, 1) := by decide +kernel
theorem dX1_openClauses_29 : decode cX1_openClauses 29 = .ok (.invokevirtual 40, 3) := by decide +kernel
theorem dX1_openClauses_32 : decode cX1_openClauses 32 = .ok (.ifCond .ne 10, 3) := by decide +kernel
theorem dX1_openClauses_35 : decode cX1_openClauses 35 = .ok (.lload_n 3, 1) := by decide +kernel
theorem dX1_openClauses_36 : decode cX1_openClauses 36 = .ok (.lconst 1, 1) := by decide +kernel
theorem dX1_openClauses_37 : decode cX1_openClauses 37 = .ok (.iload 5, 2) := by decide +kernel
theorem dX1_openClauses_39 : decode cX1_openClauses 39 = .ok (.lshl, 1) := by decide +kernel
theorem dX1_openClauses_40 : decode cX1_openClauses 40 = .ok (.lor, 1) := by decide +kernel
theorem dX1_openClauses_41 : decode cX1_openClauses 41 = .ok (.lstore_n 3, 1) := by decide +kernel
theorem dX1_openClauses_42 : decode cX1_openClauses 42 = .ok (.iinc 5 1, 3) := by decide +kernel
theorem dX1_openClauses_45 : decode cX1_openClauses 45 = .ok (.goto (-40), 3) := by decide +kernel
theorem dX1_openClauses_48 : decode cX1_openClauses 48 = .ok (.lload_n 3, 1) := by decide +kernel
theorem dX1_openClauses_49 : decode cX1_openClauses 49 = .ok (.lreturn, 1) := by decide +kernel
theorem dX1_costOf_0 : decode cX1_costOf 0 = .ok (.lconst 0, 1) := by decide +kernel
theorem dX1_costOf_1 : decode cX1_costOf 1 = .ok (.lstore_n 3, 1) := by decide +kernel
theorem dX1_costOf_2 : decode cX1_costOf 2 = .ok (.iconst 0, 1) := by decide +kernel
theorem dX1_costOf_3 : decode cX1_costOf 3 = .ok (.istore 5, 2) := by decide +kernel
theorem dX1_costOf_5 : decode cX1_costOf 5 = .ok (.iload 5, 2) := by decide +kernel
theorem dX1_costOf_7 : decode cX1_costOf 7 = .ok (.aload_n 0, 1) := by decide +kernel
theorem dX1_costOf_8 : decode cX1_costOf 8 = .ok (.getfield 28, 3) := by decide +kernel
theorem dX1_costOf_11 : decode cX1_costOf 11 = .ok (.if_icmp .ge 45, 3) := by decide +kernel
theorem dX1_costOf_14 : decode cX1_costOf 14 = .ok (.aload_n 0, 1) := by decide +kernel
theorem dX1_costOf_15 : decode cX1_costOf 15 = .ok (.iload 5, 2) := by decide +kernel
theorem dX1_costOf_17 : decode cX1_costOf 17 = .ok (.iload_n 1, 1) := by decide +kernel
theorem dX1_costOf_18 : decode cX1_costOf 18 = .ok (.iload_n 2, 1) := by decide +kernel
theorem dX1_costOf_19 : decode cX1_costOf 19 = .ok (.invokevirtual 44, 3) := by decide +kernel
theorem dX1_costOf_22 : decode cX1_costOf 22 = .ok (.ifCond .eq 28, 3) := by decide +kernel
theorem dX1_costOf_25 : decode cX1_costOf 25 = .ok (.aload_n 0, 1) := by decide +kernel
theorem dX1_costOf_26 : decode cX1_costOf 26 = .ok (.getfield 18, 3) := by decide +kernel
