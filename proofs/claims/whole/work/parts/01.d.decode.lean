theorem dX2_putWaiting_0 : decode cX2_putWaiting 0 = .ok (.aload_n 0, 1) := by decide +kernel
theorem dX2_putWaiting_1 : decode cX2_putWaiting 1 = .ok (.getfield 57, 3) := by decide +kernel
theorem dX2_putWaiting_4 : decode cX2_putWaiting 4 = .ok (.aload_n 0, 1) := by decide +kernel
theorem dX2_putWaiting_5 : decode cX2_putWaiting 5 = .ok (.getfield 17, 3) := by decide +kernel
theorem dX2_putWaiting_8 : decode cX2_putWaiting 8 = .ok (.arraylength, 1) := by decide +kernel
theorem dX2_putWaiting_9 : decode cX2_putWaiting 9 = .ok (.if_icmp .ge 33, 3) := by decide +kernel
theorem dX2_putWaiting_12 : decode cX2_putWaiting 12 = .ok (.aload_n 0, 1) := by decide +kernel
theorem dX2_putWaiting_13 : decode cX2_putWaiting 13 = .ok (.getfield 17, 3) := by decide +kernel
theorem dX2_putWaiting_16 : decode cX2_putWaiting 16 = .ok (.aload_n 0, 1) := by decide +kernel
theorem dX2_putWaiting_17 : decode cX2_putWaiting 17 = .ok (.getfield 57, 3) := by decide +kernel
theorem dX2_putWaiting_20 : decode cX2_putWaiting 20 = .ok (.iload_n 1, 1) := by decide +kernel
theorem dX2_putWaiting_21 : decode cX2_putWaiting 21 = .ok (.iastore, 1) := by decide +kernel
theorem dX2_putWaiting_22 : decode cX2_putWaiting 22 = .ok (.aload_n 0, 1) := by decide +kernel
theorem dX2_putWaiting_23 : decode cX2_putWaiting 23 = .ok (.getfield 21, 3) := by decide +kernel
theorem dX2_putWaiting_26 : decode cX2_putWaiting 26 = .ok (.aload_n 0, 1) := by decide +kernel
theorem dX2_putWaiting_27 : decode cX2_putWaiting 27 = .ok (.getfield 57, 3) := by decide +kernel
theorem dX2_putWaiting_30 : decode cX2_putWaiting 30 = .ok (.iload_n 2, 1) := by decide +kernel
theorem dX2_putWaiting_31 : decode cX2_putWaiting 31 = .ok (.iastore, 1) := by decide +kernel
theorem dX2_putWaiting_32 : decode cX2_putWaiting 32 = .ok (.aload_n 0, 1) := by decide +kernel
theorem dX2_putWaiting_33 : decode cX2_putWaiting 33 = .ok (.dup, 1) := by decide +kernel
theorem dX2_putWaiting_34 : decode cX2_putWaiting 34 = .ok (.getfield 57, 3) := by decide +kernel
theorem dX2_putWaiting_37 : decode cX2_putWaiting 37 = .ok (.iconst 1, 1) := by decide +kernel
theorem dX2_putWaiting_38 : decode cX2_putWaiting 38 = .ok (.iadd, 1) := by decide +kernel
theorem dX2_putWaiting_39 : decode cX2_putWaiting 39 = .ok (.putfield 57, 3) := by decide +kernel
theorem dX2_putWaiting_42 : decode cX2_putWaiting 42 = .ok (.return_, 1) := by decide +kernel
theorem dX2_visit_0 : decode cX2_visit 0 = .ok (.aload_n 0, 1) := by decide +kernel
theorem dX2_visit_1 : decode cX2_visit 1 = .ok (.dup, 1) := by decide +kernel
theorem dX2_visit_2 : decode cX2_visit 2 = .ok (.getfield 48, 3) := by decide +kernel
theorem dX2_visit_5 : decode cX2_visit 5 = .ok (.iconst 1, 1) := by decide +kernel
theorem dX2_visit_6 : decode cX2_visit 6 = .ok (.iadd, 1) := by decide +kernel
theorem dX2_visit_7 : decode cX2_visit 7 = .ok (.putfield 48, 3) := by decide +kernel
theorem dX2_visit_10 : decode cX2_visit 10 = .ok (.iload_n 1, 1) := by decide +kernel
theorem dX2_visit_11 : decode cX2_visit 11 = .ok (.aload_n 0, 1) := by decide +kernel
theorem dX2_visit_12 : decode cX2_visit 12 = .ok (.getfield 24, 3) := by decide +kernel
theorem dX2_visit_15 : decode cX2_visit 15 = .ok (.getfield 70, 3) := by decide +kernel
theorem dX2_visit_18 : decode cX2_visit 18 = .ok (.if_icmp .ne 11, 3) := by decide +kernel
theorem dX2_visit_21 : decode cX2_visit 21 = .ok (.aload_n 0, 1) := by decide +kernel
theorem dX2_visit_22 : decode cX2_visit 22 = .ok (.iload_n 2, 1) := by decide +kernel
theorem dX2_visit_23 : decode cX2_visit 23 = .ok (.invokevirtual 73, 3) := by decide +kernel
theorem dX2_visit_26 : decode cX2_visit 26 = .ok (.goto 34, 3) := by decide +kernel
theorem dX2_visit_29 : decode cX2_visit 29 = .ok (.aload_n 0, 1) := by decide +kernel
theorem dX2_visit_30 : decode cX2_visit 30 = .ok (.aload_n 0, 1) := by decide +kernel
theorem dX2_visit_31 : decode cX2_visit 31 = .ok (.getfield 28, 3) := by decide +kernel
theorem dX2_visit_34 : decode cX2_visit 34 = .ok (.iload_n 1, 1) := by decide +kernel
theorem dX2_visit_35 : decode cX2_visit 35 = .ok (.iload_n 2, 1) := by decide +kernel
theorem dX2_visit_36 : decode cX2_visit 36 = .ok (.invokevirtual 77, 3) := by decide +kernel
theorem dX2_visit_39 : decode cX2_visit 39 = .ok (.invokevirtual 83, 3) := by decide +kernel
theorem dX2_visit_42 : decode cX2_visit 42 = .ok (.ifCond .eq 12, 3) := by decide +kernel
theorem dX2_visit_45 : decode cX2_visit 45 = .ok (.aload_n 0, 1) := by decide +kernel
theorem dX2_visit_46 : decode cX2_visit 46 = .ok (.iload_n 1, 1) := by decide +kernel
theorem dX2_visit_47 : decode cX2_visit 47 = .ok (.iload_n 2, 1) := by decide +kernel
theorem dX2_visit_48 : decode cX2_visit 48 = .ok (.invokevirtual 87, 3) := by decide +kernel
theorem dX2_visit_51 : decode cX2_visit 51 = .ok (.goto 9, 3) := by decide +kernel
theorem dX2_visit_54 : decode cX2_visit 54 = .ok (.aload_n 0, 1) := by decide +kernel
theorem dX2_visit_55 : decode cX2_visit 55 = .ok (.iload_n 1, 1) := by decide +kernel
theorem dX2_visit_56 : decode cX2_visit 56 = .ok (.iload_n 2, 1) := by decide +kernel
theorem dX2_visit_57 : decode cX2_visit 57 = .ok (.invokevirtual 90, 3) := by decide +kernel
theorem dX2_visit_60 : decode cX2_visit 60 = .ok (.return_, 1) := by decide +kernel
theorem dX2_visitLeaf_0 : decode cX2_visitLeaf 0 = .ok (.aload_n 0, 1) := by decide +kernel
theorem dX2_visitLeaf_1 : decode cX2_visitLeaf 1 = .ok (.getfield 24, 3) := by decide +kernel
theorem dX2_visitLeaf_4 : decode cX2_visitLeaf 4 = .ok (.aload_n 0, 1) := by decide +kernel
theorem dX2_visitLeaf_5 : decode cX2_visitLeaf 5 = .ok (.getfield 24, 3) := by decide +kernel
theorem dX2_visitLeaf_8 : decode cX2_visitLeaf 8 = .ok (.getfield 70, 3) := by decide +kernel
theorem dX2_visitLeaf_11 : decode cX2_visitLeaf 11 = .ok (.iload_n 1, 1) := by decide +kernel
theorem dX2_visitLeaf_12 : decode cX2_visitLeaf 12 = .ok (.invokevirtual 93, 3) := by decide +kernel
theorem dX2_visitLeaf_15 : decode cX2_visitLeaf 15 = .ok (.lstore_n 2, 1) := by decide +kernel
theorem dX2_visitLeaf_16 : decode cX2_visitLeaf 16 = .ok (.lload_n 2, 1) := by decide +kernel
theorem dX2_visitLeaf_17 : decode cX2_visitLeaf 17 = .ok (.ldc2_w 96, 3) := by decide +kernel
theorem dX2_visitLeaf_20 : decode cX2_visitLeaf 20 = .ok (.lcmp, 1) := by decide +kernel
theorem dX2_visitLeaf_21 : decode cX2_visitLeaf 21 = .ok (.ifCond .eq 29, 3) := by decide +kernel
theorem dX2_visitLeaf_24 : decode cX2_visitLeaf 24 = .ok (.aload_n 0, 1) := by decide +kernel
theorem dX2_visitLeaf_25 : decode cX2_visitLeaf 25 = .ok (.invokevirtual 98, 3) := by decide +kernel
theorem dX2_visitLeaf_28 : decode cX2_visitLeaf 28 = .ok (.ifCond .eq 12, 3) := by decide +kernel
theorem dX2_visitLeaf_31 : decode cX2_visitLeaf 31 = .ok (.lload_n 2, 1) := by decide +kernel
theorem dX2_visitLeaf_32 : decode cX2_visitLeaf 32 = .ok (.aload_n 0, 1) := by decide +kernel
theorem dX2_visitLeaf_33 : decode cX2_visitLeaf 33 = .ok (.getfield 11, 3) := by decide +kernel
theorem dX2_visitLeaf_36 : decode cX2_visitLeaf 36 = .ok (.lcmp, 1) := by decide +kernel
theorem dX2_visitLeaf_37 : decode cX2_visitLeaf 37 = .ok (.ifCond .ge 13, 3) := by decide +kernel
theorem dX2_visitLeaf_40 : decode cX2_visitLeaf 40 = .ok (.aload_n 0, 1) := by decide +kernel
theorem dX2_visitLeaf_41 : decode cX2_visitLeaf 41 = .ok (.lload_n 2, 1) := by decide +kernel
theorem dX2_visitLeaf_42 : decode cX2_visitLeaf 42 = .ok (.putfield 11, 3) := by decide +kernel
theorem dX2_visitLeaf_45 : decode cX2_visitLeaf 45 = .ok (.aload_n 0, 1) := by decide +kernel
theorem dX2_visitLeaf_46 : decode cX2_visitLeaf 46 = .ok (.iload_n 1, 1) := by decide +kernel
theorem dX2_visitLeaf_47 : decode cX2_visitLeaf 47 = .ok (.putfield 54, 3) := by decide +kernel
theorem dX2_visitLeaf_50 : decode cX2_visitLeaf 50 = .ok (.return_, 1) := by decide +kernel
theorem dX2_isGivenUp_0 : decode cX2_isGivenUp 0 = .ok (.lload_n 1, 1) := by decide +kernel
theorem dX2_isGivenUp_1 : decode cX2_isGivenUp 1 = .ok (.ldc2_w 96, 3) := by decide +kernel
theorem dX2_isGivenUp_4 : decode cX2_isGivenUp 4 = .ok (.lcmp, 1) := by decide +kernel
theorem dX2_isGivenUp_5 : decode cX2_isGivenUp 5 = .ok (.ifCond .eq 19, 3) := by decide +kernel
theorem dX2_isGivenUp_8 : decode cX2_isGivenUp 8 = .ok (.aload_n 0, 1) := by decide +kernel
theorem dX2_isGivenUp_9 : decode cX2_isGivenUp 9 = .ok (.invokevirtual 98, 3) := by decide +kernel
theorem dX2_isGivenUp_12 : decode cX2_isGivenUp 12 = .ok (.ifCond .eq 16, 3) := by decide +kernel
theorem dX2_isGivenUp_15 : decode cX2_isGivenUp 15 = .ok (.aload_n 0, 1) := by decide +kernel
theorem dX2_isGivenUp_16 : decode cX2_isGivenUp 16 = .ok (.getfield 11, 3) := by decide +kernel
theorem dX2_isGivenUp_19 : decode cX2_isGivenUp 19 = .ok (.lload_n 1, 1) := by decide +kernel
theorem dX2_isGivenUp_20 : decode cX2_isGivenUp 20 = .ok (.lcmp, 1) := by decide +kernel
theorem dX2_isGivenUp_21 : decode cX2_isGivenUp 21 = .ok (.ifCond .gt 7, 3) := by decide +kernel
theorem dX2_isGivenUp_24 : decode cX2_isGivenUp 24 = .ok (.iconst 1, 1) := by decide +kernel
theorem dX2_isGivenUp_25 : decode cX2_isGivenUp 25 = .ok (.goto 4, 3) := by decide +kernel
theorem dX2_isGivenUp_28 : decode cX2_isGivenUp 28 = .ok (.iconst 0, 1) := by decide +kernel
theorem dX2_isGivenUp_29 : decode cX2_isGivenUp 29 = .ok (.ireturn, 1) := by decide +kernel
theorem dX2_putIntoLog_0 : decode cX2_putIntoLog 0 = .ok (.aload_n 0, 1) := by decide +kernel
theorem dX2_putIntoLog_1 : decode cX2_putIntoLog 1 = .ok (.getfield 51, 3) := by decide +kernel
theorem dX2_putIntoLog_4 : decode cX2_putIntoLog 4 = .ok (.aload_n 0, 1) := by decide +kernel
theorem dX2_putIntoLog_5 : decode cX2_putIntoLog 5 = .ok (.getfield 38, 3) := by decide +kernel
theorem dX2_putIntoLog_8 : decode cX2_putIntoLog 8 = .ok (.arraylength, 1) := by decide +kernel
theorem dX2_putIntoLog_9 : decode cX2_putIntoLog 9 = .ok (.if_icmp .ge 46, 3) := by decide +kernel
theorem dX2_putIntoLog_12 : decode cX2_putIntoLog 12 = .ok (.aload_n 0, 1) := by decide +kernel
theorem dX2_putIntoLog_13 : decode cX2_putIntoLog 13 = .ok (.getfield 38, 3) := by decide +kernel
theorem dX2_putIntoLog_16 : decode cX2_putIntoLog 16 = .ok (.aload_n 0, 1) := by decide +kernel
theorem dX2_putIntoLog_17 : decode cX2_putIntoLog 17 = .ok (.getfield 51, 3) := by decide +kernel
theorem dX2_putIntoLog_20 : decode cX2_putIntoLog 20 = .ok (.iload_n 1, 1) := by decide +kernel
theorem dX2_putIntoLog_21 : decode cX2_putIntoLog 21 = .ok (.iastore, 1) := by decide +kernel
theorem dX2_putIntoLog_22 : decode cX2_putIntoLog 22 = .ok (.aload_n 0, 1) := by decide +kernel
theorem dX2_putIntoLog_23 : decode cX2_putIntoLog 23 = .ok (.getfield 41, 3) := by decide +kernel
theorem dX2_putIntoLog_26 : decode cX2_putIntoLog 26 = .ok (.aload_n 0, 1) := by decide +kernel
theorem dX2_putIntoLog_27 : decode cX2_putIntoLog 27 = .ok (.getfield 51, 3) := by decide +kernel
theorem dX2_putIntoLog_30 : decode cX2_putIntoLog 30 = .ok (.iload_n 2, 1) := by decide +kernel
theorem dX2_putIntoLog_31 : decode cX2_putIntoLog 31 = .ok (.iastore, 1) := by decide +kernel
theorem dX2_putIntoLog_32 : decode cX2_putIntoLog 32 = .ok (.aload_n 0, 1) := by decide +kernel
theorem dX2_putIntoLog_33 : decode cX2_putIntoLog 33 = .ok (.getfield 44, 3) := by decide +kernel
theorem dX2_putIntoLog_36 : decode cX2_putIntoLog 36 = .ok (.aload_n 0, 1) := by decide +kernel
theorem dX2_putIntoLog_37 : decode cX2_putIntoLog 37 = .ok (.getfield 51, 3) := by decide +kernel
theorem dX2_putIntoLog_40 : decode cX2_putIntoLog 40 = .ok (.aload_n 0, 1) := by decide +kernel
theorem dX2_putIntoLog_41 : decode cX2_putIntoLog 41 = .ok (.getfield 11, 3) := by decide +kernel
theorem dX2_putIntoLog_44 : decode cX2_putIntoLog 44 = .ok (.lastore, 1) := by decide +kernel
theorem dX2_putIntoLog_45 : decode cX2_putIntoLog 45 = .ok (.aload_n 0, 1) := by decide +kernel
theorem dX2_putIntoLog_46 : decode cX2_putIntoLog 46 = .ok (.dup, 1) := by decide +kernel
theorem dX2_putIntoLog_47 : decode cX2_putIntoLog 47 = .ok (.getfield 51, 3) := by decide +kernel
theorem dX2_putIntoLog_50 : decode cX2_putIntoLog 50 = .ok (.iconst 1, 1) := by decide +kernel
theorem dX2_putIntoLog_51 : decode cX2_putIntoLog 51 = .ok (.iadd, 1) := by decide +kernel
theorem dX2_putIntoLog_52 : decode cX2_putIntoLog 52 = .ok (.putfield 51, 3) := by decide +kernel
theorem dX2_putIntoLog_55 : decode cX2_putIntoLog 55 = .ok (.return_, 1) := by decide +kernel
theorem dX2_branch_0 : decode cX2_branch 0 = .ok (.aload_n 0, 1) := by decide +kernel
theorem dX2_branch_1 : decode cX2_branch 1 = .ok (.getfield 24, 3) := by decide +kernel
theorem dX2_branch_4 : decode cX2_branch 4 = .ok (.iload_n 1, 1) := by decide +kernel
theorem dX2_branch_5 : decode cX2_branch 5 = .ok (.iload_n 2, 1) := by decide +kernel
theorem dX2_branch_6 : decode cX2_branch 6 = .ok (.invokevirtual 102, 3) := by decide +kernel
theorem dX2_branch_9 : decode cX2_branch 9 = .ok (.istore_n 3, 1) := by decide +kernel
theorem dX2_branch_10 : decode cX2_branch 10 = .ok (.iload_n 3, 1) := by decide +kernel
theorem dX2_branch_11 : decode cX2_branch 11 = .ok (.iconst (-1), 1) := by decide +kernel
theorem dX2_branch_12 : decode cX2_branch 12 = .ok (.if_icmp .ne 4, 3) := by decide +kernel
theorem dX2_branch_15 : decode cX2_branch 15 = .ok (.return_, 1) := by decide +kernel
theorem dX2_branch_16 : decode cX2_branch 16 = .ok (.iconst 1, 1) := by decide +kernel
theorem dX2_branch_17 : decode cX2_branch 17 = .ok (.iload_n 3, 1) := by decide +kernel
theorem dX2_branch_18 : decode cX2_branch 18 = .ok (.iconst 1, 1) := by decide +kernel
theorem dX2_branch_19 : decode cX2_branch 19 = .ok (.ishr, 1) := by decide +kernel
theorem dX2_branch_20 : decode cX2_branch 20 = .ok (.ishl, 1) := by decide +kernel
theorem dX2_branch_21 : decode cX2_branch 21 = .ok (.istore 4, 2) := by decide +kernel
theorem dX2_branch_23 : decode cX2_branch 23 = .ok (.iload_n 2, 1) := by decide +kernel
theorem dX2_branch_24 : decode cX2_branch 24 = .ok (.iload 4, 2) := by decide +kernel
theorem dX2_branch_26 : decode cX2_branch 26 = .ok (.ior, 1) := by decide +kernel
theorem dX2_branch_27 : decode cX2_branch 27 = .ok (.istore 5, 2) := by decide +kernel
theorem dX2_branch_29 : decode cX2_branch 29 = .ok (.iload_n 3, 1) := by decide +kernel
theorem dX2_branch_30 : decode cX2_branch 30 = .ok (.iconst 1, 1) := by decide +kernel
theorem dX2_branch_31 : decode cX2_branch 31 = .ok (.iand, 1) := by decide +kernel
theorem dX2_branch_32 : decode cX2_branch 32 = .ok (.ifCond .ne 7, 3) := by decide +kernel
theorem dX2_branch_35 : decode cX2_branch 35 = .ok (.iconst 1, 1) := by decide +kernel
theorem dX2_branch_36 : decode cX2_branch 36 = .ok (.goto 4, 3) := by decide +kernel
theorem dX2_branch_39 : decode cX2_branch 39 = .ok (.iconst 0, 1) := by decide +kernel
theorem dX2_branch_40 : decode cX2_branch 40 = .ok (.istore 6, 2) := by decide +kernel
theorem dX2_branch_42 : decode cX2_branch 42 = .ok (.aload_n 0, 1) := by decide +kernel
theorem dX2_branch_43 : decode cX2_branch 43 = .ok (.iload_n 1, 1) := by decide +kernel
theorem dX2_branch_44 : decode cX2_branch 44 = .ok (.iload 4, 2) := by decide +kernel
theorem dX2_branch_46 : decode cX2_branch 46 = .ok (.ior, 1) := by decide +kernel
theorem dX2_branch_47 : decode cX2_branch 47 = .ok (.iload 6, 2) := by decide +kernel
theorem dX2_branch_49 : decode cX2_branch 49 = .ok (.ifCond .eq 7, 3) := by decide +kernel
theorem dX2_branch_52 : decode cX2_branch 52 = .ok (.iload_n 2, 1) := by decide +kernel
theorem dX2_branch_53 : decode cX2_branch 53 = .ok (.goto 5, 3) := by decide +kernel
theorem dX2_branch_56 : decode cX2_branch 56 = .ok (.iload 5, 2) := by decide +kernel
theorem dX2_branch_58 : decode cX2_branch 58 = .ok (.invokevirtual 63, 3) := by decide +kernel
theorem dX2_branch_61 : decode cX2_branch 61 = .ok (.aload_n 0, 1) := by decide +kernel
theorem dX2_branch_62 : decode cX2_branch 62 = .ok (.iload_n 1, 1) := by decide +kernel
theorem dX2_branch_63 : decode cX2_branch 63 = .ok (.iload 4, 2) := by decide +kernel
theorem dX2_branch_65 : decode cX2_branch 65 = .ok (.ior, 1) := by decide +kernel
theorem dX2_branch_66 : decode cX2_branch 66 = .ok (.iload 6, 2) := by decide +kernel
theorem dX2_branch_68 : decode cX2_branch 68 = .ok (.ifCond .eq 8, 3) := by decide +kernel
theorem dX2_branch_71 : decode cX2_branch 71 = .ok (.iload 5, 2) := by decide +kernel
theorem dX2_branch_73 : decode cX2_branch 73 = .ok (.goto 4, 3) := by decide +kernel
theorem dX2_branch_76 : decode cX2_branch 76 = .ok (.iload_n 2, 1) := by decide +kernel
theorem dX2_branch_77 : decode cX2_branch 77 = .ok (.invokevirtual 63, 3) := by decide +kernel
theorem dX2_branch_80 : decode cX2_branch 80 = .ok (.return_, 1) := by decide +kernel
theorem dX3_init_0 : decode cX3_init 0 = .ok (.aload_n 0, 1) := by decide +kernel
theorem dX3_init_1 : decode cX3_init 1 = .ok (.invokespecial 1, 3) := by decide +kernel
theorem dX3_init_4 : decode cX3_init 4 = .ok (.aload_n 0, 1) := by decide +kernel
theorem dX3_init_5 : decode cX3_init 5 = .ok (.new 7, 3) := by decide +kernel
theorem dX3_init_8 : decode cX3_init 8 = .ok (.dup, 1) := by decide +kernel
theorem dX3_init_9 : decode cX3_init 9 = .ok (.iconst 1, 1) := by decide +kernel
theorem dX3_init_10 : decode cX3_init 10 = .ok (.bipush 10, 2) := by decide +kernel
theorem dX3_init_12 : decode cX3_init 12 = .ok (.iload_n 1, 1) := by decide +kernel
theorem dX3_init_13 : decode cX3_init 13 = .ok (.invokestatic 11, 3) := by decide +kernel
theorem dX3_init_16 : decode cX3_init 16 = .ok (.invokestatic 17, 3) := by decide +kernel
theorem dX3_init_19 : decode cX3_init 19 = .ok (.invokespecial 20, 3) := by decide +kernel
theorem dX3_init_22 : decode cX3_init 22 = .ok (.putfield 23, 3) := by decide +kernel
theorem dX3_init_25 : decode cX3_init 25 = .ok (.aload_n 0, 1) := by decide +kernel
theorem dX3_init_26 : decode cX3_init 26 = .ok (.new 27, 3) := by decide +kernel
theorem dX3_init_29 : decode cX3_init 29 = .ok (.dup, 1) := by decide +kernel
theorem dX3_init_30 : decode cX3_init 30 = .ok (.aload_n 0, 1) := by decide +kernel
theorem dX3_init_31 : decode cX3_init 31 = .ok (.getfield 23, 3) := by decide +kernel
theorem dX3_init_34 : decode cX3_init 34 = .ok (.invokespecial 29, 3) := by decide +kernel
theorem dX3_init_37 : decode cX3_init 37 = .ok (.putfield 32, 3) := by decide +kernel
theorem dX3_init_40 : decode cX3_init 40 = .ok (.aload_n 0, 1) := by decide +kernel
theorem dX3_init_41 : decode cX3_init 41 = .ok (.new 36, 3) := by decide +kernel
theorem dX3_init_44 : decode cX3_init 44 = .ok (.dup, 1) := by decide +kernel
theorem dX3_init_45 : decode cX3_init 45 = .ok (.aload_n 0, 1) := by decide +kernel
theorem dX3_init_46 : decode cX3_init 46 = .ok (.getfield 23, 3) := by decide +kernel
theorem dX3_init_49 : decode cX3_init 49 = .ok (.aload_n 0, 1) := by decide +kernel
theorem dX3_init_50 : decode cX3_init 50 = .ok (.getfield 32, 3) := by decide +kernel
theorem dX3_init_53 : decode cX3_init 53 = .ok (.invokespecial 38, 3) := by decide +kernel
theorem dX3_init_56 : decode cX3_init 56 = .ok (.putfield 41, 3) := by decide +kernel
theorem dX3_init_59 : decode cX3_init 59 = .ok (.return_, 1) := by decide +kernel
theorem dX3_variables_0 : decode cX3_variables 0 = .ok (.aload_n 0, 1) := by decide +kernel
theorem dX3_variables_1 : decode cX3_variables 1 = .ok (.getfield 23, 3) := by decide +kernel
theorem dX3_variables_4 : decode cX3_variables 4 = .ok (.getfield 45, 3) := by decide +kernel
theorem dX3_variables_7 : decode cX3_variables 7 = .ok (.ireturn, 1) := by decide +kernel
theorem dX3_clause_0 : decode cX3_clause 0 = .ok (.iload_n 1, 1) := by decide +kernel
theorem dX3_clause_1 : decode cX3_clause 1 = .ok (.invokestatic 49, 3) := by decide +kernel
theorem dX3_clause_4 : decode cX3_clause 4 = .ok (.ifCond .eq 16, 3) := by decide +kernel
theorem dX3_clause_7 : decode cX3_clause 7 = .ok (.aload_n 0, 1) := by decide +kernel
theorem dX3_clause_8 : decode cX3_clause 8 = .ok (.iload_n 2, 1) := by decide +kernel
theorem dX3_clause_9 : decode cX3_clause 9 = .ok (.iload_n 3, 1) := by decide +kernel
theorem dX3_clause_10 : decode cX3_clause 10 = .ok (.iload 4, 2) := by decide +kernel
theorem dX3_clause_12 : decode cX3_clause 12 = .ok (.iload 5, 2) := by decide +kernel
theorem dX3_clause_14 : decode cX3_clause 14 = .ok (.invokevirtual 53, 3) := by decide +kernel
theorem dX3_clause_17 : decode cX3_clause 17 = .ok (.ifCond .ne 11, 3) := by decide +kernel
theorem dX3_clause_20 : decode cX3_clause 20 = .ok (.new 57, 3) := by decide +kernel
theorem dX3_clause_23 : decode cX3_clause 23 = .ok (.dup, 1) := by decide +kernel
theorem dX3_clause_24 : decode cX3_clause 24 = .ok (.invokespecial 59, 3) := by decide +kernel
theorem dX3_clause_27 : decode cX3_clause 27 = .ok (.athrow, 1) := by decide +kernel
theorem dX3_clause_28 : decode cX3_clause 28 = .ok (.aload_n 0, 1) := by decide +kernel
theorem dX3_clause_29 : decode cX3_clause 29 = .ok (.getfield 23, 3) := by decide +kernel
theorem dX3_clause_32 : decode cX3_clause 32 = .ok (.getfield 60, 3) := by decide +kernel
theorem dX3_clause_35 : decode cX3_clause 35 = .ok (.bipush 40, 2) := by decide +kernel
theorem dX3_clause_37 : decode cX3_clause 37 = .ok (.if_icmp .lt 11, 3) := by decide +kernel
theorem dX3_clause_40 : decode cX3_clause 40 = .ok (.new 63, 3) := by decide +kernel
theorem dX3_clause_43 : decode cX3_clause 43 = .ok (.dup, 1) := by decide +kernel
theorem dX3_clause_44 : decode cX3_clause 44 = .ok (.invokespecial 65, 3) := by decide +kernel
theorem dX3_clause_47 : decode cX3_clause 47 = .ok (.athrow, 1) := by decide +kernel
theorem dX3_clause_48 : decode cX3_clause 48 = .ok (.aload_n 0, 1) := by decide +kernel
theorem dX3_clause_49 : decode cX3_clause 49 = .ok (.getfield 41, 3) := by decide +kernel
theorem dX3_clause_52 : decode cX3_clause 52 = .ok (.invokevirtual 66, 3) := by decide +kernel
theorem dX3_clause_55 : decode cX3_clause 55 = .ok (.iload_n 2, 1) := by decide +kernel
theorem dX3_clause_56 : decode cX3_clause 56 = .ok (.invokestatic 69, 3) := by decide +kernel
theorem dX3_clause_59 : decode cX3_clause 59 = .ok (.iload_n 3, 1) := by decide +kernel
theorem dX3_clause_60 : decode cX3_clause 60 = .ok (.invokestatic 69, 3) := by decide +kernel
theorem dX3_clause_63 : decode cX3_clause 63 = .ok (.ior, 1) := by decide +kernel
theorem dX3_clause_64 : decode cX3_clause 64 = .ok (.iload 4, 2) := by decide +kernel
theorem dX3_clause_66 : decode cX3_clause 66 = .ok (.invokestatic 69, 3) := by decide +kernel
theorem dX3_clause_69 : decode cX3_clause 69 = .ok (.ior, 1) := by decide +kernel
theorem dX3_clause_70 : decode cX3_clause 70 = .ok (.iload 5, 2) := by decide +kernel
theorem dX3_clause_72 : decode cX3_clause 72 = .ok (.invokestatic 69, 3) := by decide +kernel
theorem dX3_clause_75 : decode cX3_clause 75 = .ok (.ior, 1) := by decide +kernel
theorem dX3_clause_76 : decode cX3_clause 76 = .ok (.istore 6, 2) := by decide +kernel
theorem dX3_clause_78 : decode cX3_clause 78 = .ok (.iload_n 2, 1) := by decide +kernel
theorem dX3_clause_79 : decode cX3_clause 79 = .ok (.invokestatic 73, 3) := by decide +kernel
theorem dX3_clause_82 : decode cX3_clause 82 = .ok (.iload_n 3, 1) := by decide +kernel
theorem dX3_clause_83 : decode cX3_clause 83 = .ok (.invokestatic 73, 3) := by decide +kernel
theorem dX3_clause_86 : decode cX3_clause 86 = .ok (.ior, 1) := by decide +kernel
theorem dX3_clause_87 : decode cX3_clause 87 = .ok (.iload 4, 2) := by decide +kernel
theorem dX3_clause_89 : decode cX3_clause 89 = .ok (.invokestatic 73, 3) := by decide +kernel
