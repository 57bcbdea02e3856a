theorem dX1_costOf_29 : decode cX1_costOf 29 = .ok (.iload 5, 2) := by decide +kernel
theorem dX1_costOf_31 : decode cX1_costOf 31 = .ok (.iaload, 1) := by decide +kernel
theorem dX1_costOf_32 : decode cX1_costOf 32 = .ok (.ifCond .ne 7, 3) := by decide +kernel
theorem dX1_costOf_35 : decode cX1_costOf 35 = .ok (.ldc2_w 47, 3) := by decide +kernel
theorem dX1_costOf_38 : decode cX1_costOf 38 = .ok (.lreturn, 1) := by decide +kernel
theorem dX1_costOf_39 : decode cX1_costOf 39 = .ok (.lload_n 3, 1) := by decide +kernel
theorem dX1_costOf_40 : decode cX1_costOf 40 = .ok (.aload_n 0, 1) := by decide +kernel
theorem dX1_costOf_41 : decode cX1_costOf 41 = .ok (.getfield 18, 3) := by decide +kernel
theorem dX1_costOf_44 : decode cX1_costOf 44 = .ok (.iload 5, 2) := by decide +kernel
theorem dX1_costOf_46 : decode cX1_costOf 46 = .ok (.iaload, 1) := by decide +kernel
theorem dX1_costOf_47 : decode cX1_costOf 47 = .ok (.i2l, 1) := by decide +kernel
theorem dX1_costOf_48 : decode cX1_costOf 48 = .ok (.ladd, 1) := by decide +kernel
theorem dX1_costOf_49 : decode cX1_costOf 49 = .ok (.lstore_n 3, 1) := by decide +kernel
theorem dX1_costOf_50 : decode cX1_costOf 50 = .ok (.iinc 5 1, 3) := by decide +kernel
theorem dX1_costOf_53 : decode cX1_costOf 53 = .ok (.goto (-48), 3) := by decide +kernel
theorem dX1_costOf_56 : decode cX1_costOf 56 = .ok (.lload_n 3, 1) := by decide +kernel
theorem dX1_costOf_57 : decode cX1_costOf 57 = .ok (.lreturn, 1) := by decide +kernel
theorem dX1_lightestWeight_0 : decode cX1_lightestWeight 0 = .ok (.iconst 0, 1) := by decide +kernel
theorem dX1_lightestWeight_1 : decode cX1_lightestWeight 1 = .ok (.istore_n 3, 1) := by decide +kernel
theorem dX1_lightestWeight_2 : decode cX1_lightestWeight 2 = .ok (.iconst 0, 1) := by decide +kernel
theorem dX1_lightestWeight_3 : decode cX1_lightestWeight 3 = .ok (.istore 4, 2) := by decide +kernel
theorem dX1_lightestWeight_5 : decode cX1_lightestWeight 5 = .ok (.iload 4, 2) := by decide +kernel
theorem dX1_lightestWeight_7 : decode cX1_lightestWeight 7 = .ok (.aload_n 0, 1) := by decide +kernel
theorem dX1_lightestWeight_8 : decode cX1_lightestWeight 8 = .ok (.getfield 28, 3) := by decide +kernel
theorem dX1_lightestWeight_11 : decode cX1_lightestWeight 11 = .ok (.if_icmp .ge 65, 3) := by decide +kernel
theorem dX1_lightestWeight_14 : decode cX1_lightestWeight 14 = .ok (.lload_n 1, 1) := by decide +kernel
theorem dX1_lightestWeight_15 : decode cX1_lightestWeight 15 = .ok (.iload 4, 2) := by decide +kernel
theorem dX1_lightestWeight_17 : decode cX1_lightestWeight 17 = .ok (.lshr, 1) := by decide +kernel
theorem dX1_lightestWeight_18 : decode cX1_lightestWeight 18 = .ok (.lconst 1, 1) := by decide +kernel
theorem dX1_lightestWeight_19 : decode cX1_lightestWeight 19 = .ok (.land, 1) := by decide +kernel
theorem dX1_lightestWeight_20 : decode cX1_lightestWeight 20 = .ok (.lconst 0, 1) := by decide +kernel
theorem dX1_lightestWeight_21 : decode cX1_lightestWeight 21 = .ok (.lcmp, 1) := by decide +kernel
theorem dX1_lightestWeight_22 : decode cX1_lightestWeight 22 = .ok (.ifCond .eq 17, 3) := by decide +kernel
theorem dX1_lightestWeight_25 : decode cX1_lightestWeight 25 = .ok (.aload_n 0, 1) := by decide +kernel
theorem dX1_lightestWeight_26 : decode cX1_lightestWeight 26 = .ok (.getfield 18, 3) := by decide +kernel
theorem dX1_lightestWeight_29 : decode cX1_lightestWeight 29 = .ok (.iload 4, 2) := by decide +kernel
theorem dX1_lightestWeight_31 : decode cX1_lightestWeight 31 = .ok (.iaload, 1) := by decide +kernel
theorem dX1_lightestWeight_32 : decode cX1_lightestWeight 32 = .ok (.ifCond .eq 7, 3) := by decide +kernel
theorem dX1_lightestWeight_35 : decode cX1_lightestWeight 35 = .ok (.iconst 1, 1) := by decide +kernel
theorem dX1_lightestWeight_36 : decode cX1_lightestWeight 36 = .ok (.goto 4, 3) := by decide +kernel
theorem dX1_lightestWeight_39 : decode cX1_lightestWeight 39 = .ok (.iconst 0, 1) := by decide +kernel
theorem dX1_lightestWeight_40 : decode cX1_lightestWeight 40 = .ok (.istore 5, 2) := by decide +kernel
theorem dX1_lightestWeight_42 : decode cX1_lightestWeight 42 = .ok (.iload 5, 2) := by decide +kernel
theorem dX1_lightestWeight_44 : decode cX1_lightestWeight 44 = .ok (.ifCond .eq 26, 3) := by decide +kernel
theorem dX1_lightestWeight_47 : decode cX1_lightestWeight 47 = .ok (.iload_n 3, 1) := by decide +kernel
theorem dX1_lightestWeight_48 : decode cX1_lightestWeight 48 = .ok (.ifCond .eq 14, 3) := by decide +kernel
theorem dX1_lightestWeight_51 : decode cX1_lightestWeight 51 = .ok (.aload_n 0, 1) := by decide +kernel
theorem dX1_lightestWeight_52 : decode cX1_lightestWeight 52 = .ok (.getfield 18, 3) := by decide +kernel
theorem dX1_lightestWeight_55 : decode cX1_lightestWeight 55 = .ok (.iload 4, 2) := by decide +kernel
theorem dX1_lightestWeight_57 : decode cX1_lightestWeight 57 = .ok (.iaload, 1) := by decide +kernel
theorem dX1_lightestWeight_58 : decode cX1_lightestWeight 58 = .ok (.iload_n 3, 1) := by decide +kernel
theorem dX1_lightestWeight_59 : decode cX1_lightestWeight 59 = .ok (.if_icmp .ge 11, 3) := by decide +kernel
theorem dX1_lightestWeight_62 : decode cX1_lightestWeight 62 = .ok (.aload_n 0, 1) := by decide +kernel
theorem dX1_lightestWeight_63 : decode cX1_lightestWeight 63 = .ok (.getfield 18, 3) := by decide +kernel
theorem dX1_lightestWeight_66 : decode cX1_lightestWeight 66 = .ok (.iload 4, 2) := by decide +kernel
theorem dX1_lightestWeight_68 : decode cX1_lightestWeight 68 = .ok (.iaload, 1) := by decide +kernel
theorem dX1_lightestWeight_69 : decode cX1_lightestWeight 69 = .ok (.istore_n 3, 1) := by decide +kernel
theorem dX1_lightestWeight_70 : decode cX1_lightestWeight 70 = .ok (.iinc 4 1, 3) := by decide +kernel
theorem dX1_lightestWeight_73 : decode cX1_lightestWeight 73 = .ok (.goto (-68), 3) := by decide +kernel
theorem dX1_lightestWeight_76 : decode cX1_lightestWeight 76 = .ok (.iload_n 3, 1) := by decide +kernel
theorem dX1_lightestWeight_77 : decode cX1_lightestWeight 77 = .ok (.ireturn, 1) := by decide +kernel
theorem dX1_firstLiteral_0 : decode cX1_firstLiteral 0 = .ok (.aload_n 0, 1) := by decide +kernel
theorem dX1_firstLiteral_1 : decode cX1_firstLiteral 1 = .ok (.iload_n 1, 1) := by decide +kernel
theorem dX1_firstLiteral_2 : decode cX1_firstLiteral 2 = .ok (.iload_n 2, 1) := by decide +kernel
theorem dX1_firstLiteral_3 : decode cX1_firstLiteral 3 = .ok (.invokevirtual 49, 3) := by decide +kernel
theorem dX1_firstLiteral_6 : decode cX1_firstLiteral 6 = .ok (.lstore_n 3, 1) := by decide +kernel
theorem dX1_firstLiteral_7 : decode cX1_firstLiteral 7 = .ok (.iconst (-1), 1) := by decide +kernel
theorem dX1_firstLiteral_8 : decode cX1_firstLiteral 8 = .ok (.istore 5, 2) := by decide +kernel
theorem dX1_firstLiteral_10 : decode cX1_firstLiteral 10 = .ok (.iconst (-1), 1) := by decide +kernel
theorem dX1_firstLiteral_11 : decode cX1_firstLiteral 11 = .ok (.istore 6, 2) := by decide +kernel
theorem dX1_firstLiteral_13 : decode cX1_firstLiteral 13 = .ok (.iconst 0, 1) := by decide +kernel
theorem dX1_firstLiteral_14 : decode cX1_firstLiteral 14 = .ok (.istore 7, 2) := by decide +kernel
theorem dX1_firstLiteral_16 : decode cX1_firstLiteral 16 = .ok (.iload 7, 2) := by decide +kernel
theorem dX1_firstLiteral_18 : decode cX1_firstLiteral 18 = .ok (.aload_n 0, 1) := by decide +kernel
theorem dX1_firstLiteral_19 : decode cX1_firstLiteral 19 = .ok (.getfield 21, 3) := by decide +kernel
theorem dX1_firstLiteral_22 : decode cX1_firstLiteral 22 = .ok (.if_icmp .ge 83, 3) := by decide +kernel
theorem dX1_firstLiteral_25 : decode cX1_firstLiteral 25 = .ok (.aload_n 0, 1) := by decide +kernel
theorem dX1_firstLiteral_26 : decode cX1_firstLiteral 26 = .ok (.aload_n 0, 1) := by decide +kernel
theorem dX1_firstLiteral_27 : decode cX1_firstLiteral 27 = .ok (.getfield 9, 3) := by decide +kernel
theorem dX1_firstLiteral_30 : decode cX1_firstLiteral 30 = .ok (.iload 7, 2) := by decide +kernel
theorem dX1_firstLiteral_32 : decode cX1_firstLiteral 32 = .ok (.lload_n 3, 1) := by decide +kernel
theorem dX1_firstLiteral_33 : decode cX1_firstLiteral 33 = .ok (.invokevirtual 53, 3) := by decide +kernel
theorem dX1_firstLiteral_36 : decode cX1_firstLiteral 36 = .ok (.istore 8, 2) := by decide +kernel
theorem dX1_firstLiteral_38 : decode cX1_firstLiteral 38 = .ok (.aload_n 0, 1) := by decide +kernel
theorem dX1_firstLiteral_39 : decode cX1_firstLiteral 39 = .ok (.aload_n 0, 1) := by decide +kernel
theorem dX1_firstLiteral_40 : decode cX1_firstLiteral 40 = .ok (.getfield 15, 3) := by decide +kernel
theorem dX1_firstLiteral_43 : decode cX1_firstLiteral 43 = .ok (.iload 7, 2) := by decide +kernel
theorem dX1_firstLiteral_45 : decode cX1_firstLiteral 45 = .ok (.lload_n 3, 1) := by decide +kernel
theorem dX1_firstLiteral_46 : decode cX1_firstLiteral 46 = .ok (.invokevirtual 53, 3) := by decide +kernel
theorem dX1_firstLiteral_49 : decode cX1_firstLiteral 49 = .ok (.istore 9, 2) := by decide +kernel
theorem dX1_firstLiteral_51 : decode cX1_firstLiteral 51 = .ok (.iload_n 1, 1) := by decide +kernel
theorem dX1_firstLiteral_52 : decode cX1_firstLiteral 52 = .ok (.iload 7, 2) := by decide +kernel
theorem dX1_firstLiteral_54 : decode cX1_firstLiteral 54 = .ok (.ishr, 1) := by decide +kernel
theorem dX1_firstLiteral_55 : decode cX1_firstLiteral 55 = .ok (.iconst 1, 1) := by decide +kernel
theorem dX1_firstLiteral_56 : decode cX1_firstLiteral 56 = .ok (.iand, 1) := by decide +kernel
theorem dX1_firstLiteral_57 : decode cX1_firstLiteral 57 = .ok (.ifCond .ne 42, 3) := by decide +kernel
theorem dX1_firstLiteral_60 : decode cX1_firstLiteral 60 = .ok (.iload 8, 2) := by decide +kernel
theorem dX1_firstLiteral_62 : decode cX1_firstLiteral 62 = .ok (.iload 9, 2) := by decide +kernel
theorem dX1_firstLiteral_64 : decode cX1_firstLiteral 64 = .ok (.iadd, 1) := by decide +kernel
theorem dX1_firstLiteral_65 : decode cX1_firstLiteral 65 = .ok (.iload 6, 2) := by decide +kernel
theorem dX1_firstLiteral_67 : decode cX1_firstLiteral 67 = .ok (.if_icmp .le 32, 3) := by decide +kernel
theorem dX1_firstLiteral_70 : decode cX1_firstLiteral 70 = .ok (.iload 8, 2) := by decide +kernel
theorem dX1_firstLiteral_72 : decode cX1_firstLiteral 72 = .ok (.iload 9, 2) := by decide +kernel
theorem dX1_firstLiteral_74 : decode cX1_firstLiteral 74 = .ok (.iadd, 1) := by decide +kernel
theorem dX1_firstLiteral_75 : decode cX1_firstLiteral 75 = .ok (.istore 6, 2) := by decide +kernel
theorem dX1_firstLiteral_77 : decode cX1_firstLiteral 77 = .ok (.iload 9, 2) := by decide +kernel
theorem dX1_firstLiteral_79 : decode cX1_firstLiteral 79 = .ok (.iload 8, 2) := by decide +kernel
theorem dX1_firstLiteral_81 : decode cX1_firstLiteral 81 = .ok (.if_icmp .le 12, 3) := by decide +kernel
theorem dX1_firstLiteral_84 : decode cX1_firstLiteral 84 = .ok (.iconst 2, 1) := by decide +kernel
theorem dX1_firstLiteral_85 : decode cX1_firstLiteral 85 = .ok (.iload 7, 2) := by decide +kernel
theorem dX1_firstLiteral_87 : decode cX1_firstLiteral 87 = .ok (.imul, 1) := by decide +kernel
theorem dX1_firstLiteral_88 : decode cX1_firstLiteral 88 = .ok (.iconst 1, 1) := by decide +kernel
theorem dX1_firstLiteral_89 : decode cX1_firstLiteral 89 = .ok (.iadd, 1) := by decide +kernel
theorem dX1_firstLiteral_90 : decode cX1_firstLiteral 90 = .ok (.goto 7, 3) := by decide +kernel
theorem dX1_firstLiteral_93 : decode cX1_firstLiteral 93 = .ok (.iconst 2, 1) := by decide +kernel
theorem dX1_firstLiteral_94 : decode cX1_firstLiteral 94 = .ok (.iload 7, 2) := by decide +kernel
theorem dX1_firstLiteral_96 : decode cX1_firstLiteral 96 = .ok (.imul, 1) := by decide +kernel
theorem dX1_firstLiteral_97 : decode cX1_firstLiteral 97 = .ok (.istore 5, 2) := by decide +kernel
theorem dX1_firstLiteral_99 : decode cX1_firstLiteral 99 = .ok (.iinc 7 1, 3) := by decide +kernel
theorem dX1_firstLiteral_102 : decode cX1_firstLiteral 102 = .ok (.goto (-86), 3) := by decide +kernel
theorem dX1_firstLiteral_105 : decode cX1_firstLiteral 105 = .ok (.iload 5, 2) := by decide +kernel
theorem dX1_firstLiteral_107 : decode cX1_firstLiteral 107 = .ok (.ireturn, 1) := by decide +kernel
theorem dX1_countHolding_0 : decode cX1_countHolding 0 = .ok (.iconst 0, 1) := by decide +kernel
theorem dX1_countHolding_1 : decode cX1_countHolding 1 = .ok (.istore 5, 2) := by decide +kernel
theorem dX1_countHolding_3 : decode cX1_countHolding 3 = .ok (.iconst 0, 1) := by decide +kernel
theorem dX1_countHolding_4 : decode cX1_countHolding 4 = .ok (.istore 6, 2) := by decide +kernel
theorem dX1_countHolding_6 : decode cX1_countHolding 6 = .ok (.iload 6, 2) := by decide +kernel
theorem dX1_countHolding_8 : decode cX1_countHolding 8 = .ok (.aload_n 0, 1) := by decide +kernel
theorem dX1_countHolding_9 : decode cX1_countHolding 9 = .ok (.getfield 28, 3) := by decide +kernel
theorem dX1_countHolding_12 : decode cX1_countHolding 12 = .ok (.if_icmp .ge 34, 3) := by decide +kernel
theorem dX1_countHolding_15 : decode cX1_countHolding 15 = .ok (.lload_n 3, 1) := by decide +kernel
theorem dX1_countHolding_16 : decode cX1_countHolding 16 = .ok (.iload 6, 2) := by decide +kernel
theorem dX1_countHolding_18 : decode cX1_countHolding 18 = .ok (.lshr, 1) := by decide +kernel
theorem dX1_countHolding_19 : decode cX1_countHolding 19 = .ok (.lconst 1, 1) := by decide +kernel
theorem dX1_countHolding_20 : decode cX1_countHolding 20 = .ok (.land, 1) := by decide +kernel
theorem dX1_countHolding_21 : decode cX1_countHolding 21 = .ok (.lconst 0, 1) := by decide +kernel
theorem dX1_countHolding_22 : decode cX1_countHolding 22 = .ok (.lcmp, 1) := by decide +kernel
theorem dX1_countHolding_23 : decode cX1_countHolding 23 = .ok (.ifCond .eq 17, 3) := by decide +kernel
theorem dX1_countHolding_26 : decode cX1_countHolding 26 = .ok (.aload_n 1, 1) := by decide +kernel
theorem dX1_countHolding_27 : decode cX1_countHolding 27 = .ok (.iload 6, 2) := by decide +kernel
theorem dX1_countHolding_29 : decode cX1_countHolding 29 = .ok (.iaload, 1) := by decide +kernel
theorem dX1_countHolding_30 : decode cX1_countHolding 30 = .ok (.iload_n 2, 1) := by decide +kernel
theorem dX1_countHolding_31 : decode cX1_countHolding 31 = .ok (.ishr, 1) := by decide +kernel
theorem dX1_countHolding_32 : decode cX1_countHolding 32 = .ok (.iconst 1, 1) := by decide +kernel
theorem dX1_countHolding_33 : decode cX1_countHolding 33 = .ok (.iand, 1) := by decide +kernel
theorem dX1_countHolding_34 : decode cX1_countHolding 34 = .ok (.ifCond .eq 6, 3) := by decide +kernel
theorem dX1_countHolding_37 : decode cX1_countHolding 37 = .ok (.iinc 5 1, 3) := by decide +kernel
theorem dX1_countHolding_40 : decode cX1_countHolding 40 = .ok (.iinc 6 1, 3) := by decide +kernel
theorem dX1_countHolding_43 : decode cX1_countHolding 43 = .ok (.goto (-37), 3) := by decide +kernel
theorem dX1_countHolding_46 : decode cX1_countHolding 46 = .ok (.iload 5, 2) := by decide +kernel
theorem dX1_countHolding_48 : decode cX1_countHolding 48 = .ok (.ireturn, 1) := by decide +kernel
theorem dX2_init_0 : decode cX2_init 0 = .ok (.aload_n 0, 1) := by decide +kernel
theorem dX2_init_1 : decode cX2_init 1 = .ok (.invokespecial 3, 3) := by decide +kernel
theorem dX2_init_4 : decode cX2_init 4 = .ok (.aload_n 0, 1) := by decide +kernel
theorem dX2_init_5 : decode cX2_init 5 = .ok (.ldc2_w 9, 3) := by decide +kernel
theorem dX2_init_8 : decode cX2_init 8 = .ok (.putfield 11, 3) := by decide +kernel
theorem dX2_init_11 : decode cX2_init 11 = .ok (.aload_n 0, 1) := by decide +kernel
theorem dX2_init_12 : decode cX2_init 12 = .ok (.bipush 11, 2) := by decide +kernel
theorem dX2_init_14 : decode cX2_init 14 = .ok (.newarray .int, 2) := by decide +kernel
theorem dX2_init_16 : decode cX2_init 16 = .ok (.putfield 17, 3) := by decide +kernel
theorem dX2_init_19 : decode cX2_init 19 = .ok (.aload_n 0, 1) := by decide +kernel
theorem dX2_init_20 : decode cX2_init 20 = .ok (.bipush 11, 2) := by decide +kernel
theorem dX2_init_22 : decode cX2_init 22 = .ok (.newarray .int, 2) := by decide +kernel
theorem dX2_init_24 : decode cX2_init 24 = .ok (.putfield 21, 3) := by decide +kernel
theorem dX2_init_27 : decode cX2_init 27 = .ok (.aload_n 0, 1) := by decide +kernel
theorem dX2_init_28 : decode cX2_init 28 = .ok (.aload_n 1, 1) := by decide +kernel
theorem dX2_init_29 : decode cX2_init 29 = .ok (.putfield 24, 3) := by decide +kernel
theorem dX2_init_32 : decode cX2_init 32 = .ok (.aload_n 0, 1) := by decide +kernel
theorem dX2_init_33 : decode cX2_init 33 = .ok (.aload_n 2, 1) := by decide +kernel
theorem dX2_init_34 : decode cX2_init 34 = .ok (.putfield 28, 3) := by decide +kernel
theorem dX2_init_37 : decode cX2_init 37 = .ok (.iconst 1, 1) := by decide +kernel
theorem dX2_init_38 : decode cX2_init 38 = .ok (.aload_n 1, 1) := by decide +kernel
theorem dX2_init_39 : decode cX2_init 39 = .ok (.getfield 32, 3) := by decide +kernel
theorem dX2_init_42 : decode cX2_init 42 = .ok (.iconst 1, 1) := by decide +kernel
theorem dX2_init_43 : decode cX2_init 43 = .ok (.isub, 1) := by decide +kernel
theorem dX2_init_44 : decode cX2_init 44 = .ok (.ishl, 1) := by decide +kernel
theorem dX2_init_45 : decode cX2_init 45 = .ok (.istore_n 3, 1) := by decide +kernel
theorem dX2_init_46 : decode cX2_init 46 = .ok (.aload_n 0, 1) := by decide +kernel
theorem dX2_init_47 : decode cX2_init 47 = .ok (.iload_n 3, 1) := by decide +kernel
theorem dX2_init_48 : decode cX2_init 48 = .ok (.newarray .int, 2) := by decide +kernel
theorem dX2_init_50 : decode cX2_init 50 = .ok (.putfield 38, 3) := by decide +kernel
theorem dX2_init_53 : decode cX2_init 53 = .ok (.aload_n 0, 1) := by decide +kernel
theorem dX2_init_54 : decode cX2_init 54 = .ok (.iload_n 3, 1) := by decide +kernel
theorem dX2_init_55 : decode cX2_init 55 = .ok (.newarray .int, 2) := by decide +kernel
theorem dX2_init_57 : decode cX2_init 57 = .ok (.putfield 41, 3) := by decide +kernel
theorem dX2_init_60 : decode cX2_init 60 = .ok (.aload_n 0, 1) := by decide +kernel
theorem dX2_init_61 : decode cX2_init 61 = .ok (.iload_n 3, 1) := by decide +kernel
theorem dX2_init_62 : decode cX2_init 62 = .ok (.newarray .long, 2) := by decide +kernel
theorem dX2_init_64 : decode cX2_init 64 = .ok (.putfield 44, 3) := by decide +kernel
theorem dX2_init_67 : decode cX2_init 67 = .ok (.return_, 1) := by decide +kernel
theorem dX2_forget_0 : decode cX2_forget 0 = .ok (.aload_n 0, 1) := by decide +kernel
theorem dX2_forget_1 : decode cX2_forget 1 = .ok (.iconst 0, 1) := by decide +kernel
theorem dX2_forget_2 : decode cX2_forget 2 = .ok (.putfield 48, 3) := by decide +kernel
theorem dX2_forget_5 : decode cX2_forget 5 = .ok (.aload_n 0, 1) := by decide +kernel
theorem dX2_forget_6 : decode cX2_forget 6 = .ok (.iconst 0, 1) := by decide +kernel
theorem dX2_forget_7 : decode cX2_forget 7 = .ok (.putfield 51, 3) := by decide +kernel
theorem dX2_forget_10 : decode cX2_forget 10 = .ok (.aload_n 0, 1) := by decide +kernel
theorem dX2_forget_11 : decode cX2_forget 11 = .ok (.ldc2_w 9, 3) := by decide +kernel
theorem dX2_forget_14 : decode cX2_forget 14 = .ok (.putfield 11, 3) := by decide +kernel
theorem dX2_forget_17 : decode cX2_forget 17 = .ok (.aload_n 0, 1) := by decide +kernel
theorem dX2_forget_18 : decode cX2_forget 18 = .ok (.iconst 0, 1) := by decide +kernel
theorem dX2_forget_19 : decode cX2_forget 19 = .ok (.putfield 54, 3) := by decide +kernel
theorem dX2_forget_22 : decode cX2_forget 22 = .ok (.aload_n 0, 1) := by decide +kernel
theorem dX2_forget_23 : decode cX2_forget 23 = .ok (.iconst 0, 1) := by decide +kernel
theorem dX2_forget_24 : decode cX2_forget 24 = .ok (.putfield 57, 3) := by decide +kernel
theorem dX2_forget_27 : decode cX2_forget 27 = .ok (.return_, 1) := by decide +kernel
theorem dX2_run_0 : decode cX2_run 0 = .ok (.aload_n 0, 1) := by decide +kernel
theorem dX2_run_1 : decode cX2_run 1 = .ok (.invokevirtual 60, 3) := by decide +kernel
theorem dX2_run_4 : decode cX2_run 4 = .ok (.aload_n 0, 1) := by decide +kernel
theorem dX2_run_5 : decode cX2_run 5 = .ok (.iconst 0, 1) := by decide +kernel
theorem dX2_run_6 : decode cX2_run 6 = .ok (.iconst 0, 1) := by decide +kernel
theorem dX2_run_7 : decode cX2_run 7 = .ok (.invokevirtual 63, 3) := by decide +kernel
theorem dX2_run_10 : decode cX2_run 10 = .ok (.iconst 0, 1) := by decide +kernel
theorem dX2_run_11 : decode cX2_run 11 = .ok (.istore_n 1, 1) := by decide +kernel
theorem dX2_run_12 : decode cX2_run 12 = .ok (.iload_n 1, 1) := by decide +kernel
theorem dX2_run_13 : decode cX2_run 13 = .ok (.sipush 2048, 3) := by decide +kernel
theorem dX2_run_16 : decode cX2_run 16 = .ok (.if_icmp .ge 48, 3) := by decide +kernel
theorem dX2_run_19 : decode cX2_run 19 = .ok (.aload_n 0, 1) := by decide +kernel
theorem dX2_run_20 : decode cX2_run 20 = .ok (.getfield 57, 3) := by decide +kernel
theorem dX2_run_23 : decode cX2_run 23 = .ok (.ifCond .le 41, 3) := by decide +kernel
theorem dX2_run_26 : decode cX2_run 26 = .ok (.aload_n 0, 1) := by decide +kernel
theorem dX2_run_27 : decode cX2_run 27 = .ok (.dup, 1) := by decide +kernel
theorem dX2_run_28 : decode cX2_run 28 = .ok (.getfield 57, 3) := by decide +kernel
theorem dX2_run_31 : decode cX2_run 31 = .ok (.iconst 1, 1) := by decide +kernel
theorem dX2_run_32 : decode cX2_run 32 = .ok (.isub, 1) := by decide +kernel
theorem dX2_run_33 : decode cX2_run 33 = .ok (.putfield 57, 3) := by decide +kernel
theorem dX2_run_36 : decode cX2_run 36 = .ok (.aload_n 0, 1) := by decide +kernel
theorem dX2_run_37 : decode cX2_run 37 = .ok (.aload_n 0, 1) := by decide +kernel
theorem dX2_run_38 : decode cX2_run 38 = .ok (.getfield 17, 3) := by decide +kernel
theorem dX2_run_41 : decode cX2_run 41 = .ok (.aload_n 0, 1) := by decide +kernel
theorem dX2_run_42 : decode cX2_run 42 = .ok (.getfield 57, 3) := by decide +kernel
theorem dX2_run_45 : decode cX2_run 45 = .ok (.iaload, 1) := by decide +kernel
theorem dX2_run_46 : decode cX2_run 46 = .ok (.aload_n 0, 1) := by decide +kernel
theorem dX2_run_47 : decode cX2_run 47 = .ok (.getfield 21, 3) := by decide +kernel
theorem dX2_run_50 : decode cX2_run 50 = .ok (.aload_n 0, 1) := by decide +kernel
theorem dX2_run_51 : decode cX2_run 51 = .ok (.getfield 57, 3) := by decide +kernel
theorem dX2_run_54 : decode cX2_run 54 = .ok (.iaload, 1) := by decide +kernel
theorem dX2_run_55 : decode cX2_run 55 = .ok (.invokevirtual 67, 3) := by decide +kernel
theorem dX2_run_58 : decode cX2_run 58 = .ok (.iinc 1 1, 3) := by decide +kernel
theorem dX2_run_61 : decode cX2_run 61 = .ok (.goto (-49), 3) := by decide +kernel
theorem dX2_run_64 : decode cX2_run 64 = .ok (.return_, 1) := by decide +kernel
theorem dX2_hasBest_0 : decode cX2_hasBest 0 = .ok (.aload_n 0, 1) := by decide +kernel
theorem dX2_hasBest_1 : decode cX2_hasBest 1 = .ok (.getfield 11, 3) := by decide +kernel
theorem dX2_hasBest_4 : decode cX2_hasBest 4 = .ok (.ldc2_w 9, 3) := by decide +kernel
theorem dX2_hasBest_7 : decode cX2_hasBest 7 = .ok (.lcmp, 1) := by decide +kernel
theorem dX2_hasBest_8 : decode cX2_hasBest 8 = .ok (.ifCond .eq 7, 3) := by decide +kernel
theorem dX2_hasBest_11 : decode cX2_hasBest 11 = .ok (.iconst 1, 1) := by decide +kernel
theorem dX2_hasBest_12 : decode cX2_hasBest 12 = .ok (.goto 4, 3) := by decide +kernel
theorem dX2_hasBest_15 : decode cX2_hasBest 15 = .ok (.iconst 0, 1) := by decide +kernel
theorem dX2_hasBest_16 : decode cX2_hasBest 16 = .ok (.ireturn, 1) := by decide +kernel
theorem dX2_isLogged_0 : decode cX2_isLogged 0 = .ok (.iload_n 1, 1) := by decide +kernel
theorem dX2_isLogged_1 : decode cX2_isLogged 1 = .ok (.ifCond .lt 15, 3) := by decide +kernel
theorem dX2_isLogged_4 : decode cX2_isLogged 4 = .ok (.iload_n 1, 1) := by decide +kernel
theorem dX2_isLogged_5 : decode cX2_isLogged 5 = .ok (.aload_n 0, 1) := by decide +kernel
theorem dX2_isLogged_6 : decode cX2_isLogged 6 = .ok (.getfield 51, 3) := by decide +kernel
theorem dX2_isLogged_9 : decode cX2_isLogged 9 = .ok (.if_icmp .ge 7, 3) := by decide +kernel
theorem dX2_isLogged_12 : decode cX2_isLogged 12 = .ok (.iconst 1, 1) := by decide +kernel
theorem dX2_isLogged_13 : decode cX2_isLogged 13 = .ok (.goto 4, 3) := by decide +kernel
theorem dX2_isLogged_16 : decode cX2_isLogged 16 = .ok (.iconst 0, 1) := by decide +kernel
theorem dX2_isLogged_17 : decode cX2_isLogged 17 = .ok (.ireturn, 1) := by decide +kernel
