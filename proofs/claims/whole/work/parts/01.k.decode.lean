theorem dX4_solve_48 : decode cX4_solve 48 = .ok (.getfield 42, 3) := by decide +kernel
theorem dX4_solve_51 : decode cX4_solve 51 = .ok (.aload_n 0, 1) := by decide +kernel
theorem dX4_solve_52 : decode cX4_solve 52 = .ok (.getfield 141, 3) := by decide +kernel
theorem dX4_solve_55 : decode cX4_solve 55 = .ok (.iaload, 1) := by decide +kernel
theorem dX4_solve_56 : decode cX4_solve 56 = .ok (.invokevirtual 155, 3) := by decide +kernel
theorem dX4_solve_59 : decode cX4_solve 59 = .ok (.goto (-39), 3) := by decide +kernel
theorem dX4_solve_62 : decode cX4_solve 62 = .ok (.aload_n 0, 1) := by decide +kernel
theorem dX4_solve_63 : decode cX4_solve 63 = .ok (.getfield 52, 3) := by decide +kernel
theorem dX4_solve_66 : decode cX4_solve 66 = .ok (.ifCond .eq 10, 3) := by decide +kernel
theorem dX4_solve_69 : decode cX4_solve 69 = .ok (.aload_n 0, 1) := by decide +kernel
theorem dX4_solve_70 : decode cX4_solve 70 = .ok (.getfield 144, 3) := by decide +kernel
theorem dX4_solve_73 : decode cX4_solve 73 = .ok (.goto 6, 3) := by decide +kernel
theorem dX4_solve_76 : decode cX4_solve 76 = .ok (.ldc2_w 95, 3) := by decide +kernel
theorem dX4_solve_79 : decode cX4_solve 79 = .ok (.lreturn, 1) := by decide +kernel
theorem dX4_value_0 : decode cX4_value 0 = .ok (.aload_n 0, 1) := by decide +kernel
theorem dX4_value_1 : decode cX4_value 1 = .ok (.iconst 0, 1) := by decide +kernel
theorem dX4_value_2 : decode cX4_value 2 = .ok (.putfield 49, 3) := by decide +kernel
theorem dX4_value_5 : decode cX4_value 5 = .ok (.iload_n 1, 1) := by decide +kernel
theorem dX4_value_6 : decode cX4_value 6 = .ok (.ifCond .lt 18, 3) := by decide +kernel
theorem dX4_value_9 : decode cX4_value 9 = .ok (.iload_n 1, 1) := by decide +kernel
theorem dX4_value_10 : decode cX4_value 10 = .ok (.aload_n 0, 1) := by decide +kernel
theorem dX4_value_11 : decode cX4_value 11 = .ok (.getfield 45, 3) := by decide +kernel
theorem dX4_value_14 : decode cX4_value 14 = .ok (.if_icmp .ge 10, 3) := by decide +kernel
theorem dX4_value_17 : decode cX4_value 17 = .ok (.aload_n 0, 1) := by decide +kernel
theorem dX4_value_18 : decode cX4_value 18 = .ok (.getfield 52, 3) := by decide +kernel
theorem dX4_value_21 : decode cX4_value 21 = .ok (.ifCond .ne 7, 3) := by decide +kernel
theorem dX4_value_24 : decode cX4_value 24 = .ok (.iconst (-1), 1) := by decide +kernel
theorem dX4_value_25 : decode cX4_value 25 = .ok (.goto 11, 3) := by decide +kernel
theorem dX4_value_28 : decode cX4_value 28 = .ok (.aload_n 0, 1) := by decide +kernel
theorem dX4_value_29 : decode cX4_value 29 = .ok (.getfield 147, 3) := by decide +kernel
theorem dX4_value_32 : decode cX4_value 32 = .ok (.iload_n 1, 1) := by decide +kernel
theorem dX4_value_33 : decode cX4_value 33 = .ok (.ishr, 1) := by decide +kernel
theorem dX4_value_34 : decode cX4_value 34 = .ok (.iconst 1, 1) := by decide +kernel
theorem dX4_value_35 : decode cX4_value 35 = .ok (.iand, 1) := by decide +kernel
theorem dX4_value_36 : decode cX4_value 36 = .ok (.ireturn, 1) := by decide +kernel
theorem dX4_nodes_0 : decode cX4_nodes 0 = .ok (.aload_n 0, 1) := by decide +kernel
theorem dX4_nodes_1 : decode cX4_nodes 1 = .ok (.iconst 0, 1) := by decide +kernel
theorem dX4_nodes_2 : decode cX4_nodes 2 = .ok (.putfield 49, 3) := by decide +kernel
theorem dX4_nodes_5 : decode cX4_nodes 5 = .ok (.aload_n 0, 1) := by decide +kernel
theorem dX4_nodes_6 : decode cX4_nodes 6 = .ok (.getfield 56, 3) := by decide +kernel
theorem dX4_nodes_9 : decode cX4_nodes 9 = .ok (.ireturn, 1) := by decide +kernel
theorem dX4_logged_0 : decode cX4_logged 0 = .ok (.aload_n 0, 1) := by decide +kernel
theorem dX4_logged_1 : decode cX4_logged 1 = .ok (.iconst 0, 1) := by decide +kernel
theorem dX4_logged_2 : decode cX4_logged 2 = .ok (.putfield 49, 3) := by decide +kernel
theorem dX4_logged_5 : decode cX4_logged 5 = .ok (.aload_n 0, 1) := by decide +kernel
theorem dX4_logged_6 : decode cX4_logged 6 = .ok (.getfield 59, 3) := by decide +kernel
theorem dX4_logged_9 : decode cX4_logged 9 = .ok (.ireturn, 1) := by decide +kernel
theorem dX4_log_0 : decode cX4_log 0 = .ok (.aload_n 0, 1) := by decide +kernel
theorem dX4_log_1 : decode cX4_log 1 = .ok (.iconst 0, 1) := by decide +kernel
theorem dX4_log_2 : decode cX4_log 2 = .ok (.putfield 49, 3) := by decide +kernel
theorem dX4_log_5 : decode cX4_log 5 = .ok (.iload_n 1, 1) := by decide +kernel
theorem dX4_log_6 : decode cX4_log 6 = .ok (.ifCond .lt 20, 3) := by decide +kernel
theorem dX4_log_9 : decode cX4_log 9 = .ok (.iload_n 1, 1) := by decide +kernel
theorem dX4_log_10 : decode cX4_log 10 = .ok (.aload_n 0, 1) := by decide +kernel
theorem dX4_log_11 : decode cX4_log 11 = .ok (.getfield 59, 3) := by decide +kernel
theorem dX4_log_14 : decode cX4_log 14 = .ok (.if_icmp .ge 12, 3) := by decide +kernel
theorem dX4_log_17 : decode cX4_log 17 = .ok (.iload_n 2, 1) := by decide +kernel
theorem dX4_log_18 : decode cX4_log 18 = .ok (.ifCond .lt 8, 3) := by decide +kernel
theorem dX4_log_21 : decode cX4_log 21 = .ok (.iload_n 2, 1) := by decide +kernel
theorem dX4_log_22 : decode cX4_log 22 = .ok (.iconst 1, 1) := by decide +kernel
theorem dX4_log_23 : decode cX4_log 23 = .ok (.if_icmp .le 7, 3) := by decide +kernel
theorem dX4_log_26 : decode cX4_log 26 = .ok (.iconst (-1), 1) := by decide +kernel
theorem dX4_log_27 : decode cX4_log 27 = .ok (.goto 22, 3) := by decide +kernel
theorem dX4_log_30 : decode cX4_log 30 = .ok (.iload_n 2, 1) := by decide +kernel
theorem dX4_log_31 : decode cX4_log 31 = .ok (.ifCond .ne 12, 3) := by decide +kernel
theorem dX4_log_34 : decode cX4_log 34 = .ok (.aload_n 0, 1) := by decide +kernel
theorem dX4_log_35 : decode cX4_log 35 = .ok (.getfield 30, 3) := by decide +kernel
theorem dX4_log_38 : decode cX4_log 38 = .ok (.iload_n 1, 1) := by decide +kernel
theorem dX4_log_39 : decode cX4_log 39 = .ok (.iaload, 1) := by decide +kernel
theorem dX4_log_40 : decode cX4_log 40 = .ok (.goto 9, 3) := by decide +kernel
theorem dX4_log_43 : decode cX4_log 43 = .ok (.aload_n 0, 1) := by decide +kernel
theorem dX4_log_44 : decode cX4_log 44 = .ok (.getfield 33, 3) := by decide +kernel
theorem dX4_log_47 : decode cX4_log 47 = .ok (.iload_n 1, 1) := by decide +kernel
theorem dX4_log_48 : decode cX4_log 48 = .ok (.iaload, 1) := by decide +kernel
theorem dX4_log_49 : decode cX4_log 49 = .ok (.ireturn, 1) := by decide +kernel
theorem dX4_best_0 : decode cX4_best 0 = .ok (.aload_n 0, 1) := by decide +kernel
theorem dX4_best_1 : decode cX4_best 1 = .ok (.iconst 0, 1) := by decide +kernel
theorem dX4_best_2 : decode cX4_best 2 = .ok (.putfield 49, 3) := by decide +kernel
theorem dX4_best_5 : decode cX4_best 5 = .ok (.iload_n 1, 1) := by decide +kernel
theorem dX4_best_6 : decode cX4_best 6 = .ok (.ifCond .lt 11, 3) := by decide +kernel
theorem dX4_best_9 : decode cX4_best 9 = .ok (.iload_n 1, 1) := by decide +kernel
theorem dX4_best_10 : decode cX4_best 10 = .ok (.aload_n 0, 1) := by decide +kernel
theorem dX4_best_11 : decode cX4_best 11 = .ok (.getfield 59, 3) := by decide +kernel
theorem dX4_best_14 : decode cX4_best 14 = .ok (.if_icmp .lt 9, 3) := by decide +kernel
theorem dX4_best_17 : decode cX4_best 17 = .ok (.ldc2_w 150, 3) := by decide +kernel
theorem dX4_best_20 : decode cX4_best 20 = .ok (.goto 9, 3) := by decide +kernel
theorem dX4_best_23 : decode cX4_best 23 = .ok (.aload_n 0, 1) := by decide +kernel
theorem dX4_best_24 : decode cX4_best 24 = .ok (.getfield 36, 3) := by decide +kernel
theorem dX4_best_27 : decode cX4_best 27 = .ok (.iload_n 1, 1) := by decide +kernel
theorem dX4_best_28 : decode cX4_best 28 = .ok (.laload, 1) := by decide +kernel
theorem dX4_best_29 : decode cX4_best 29 = .ok (.lreturn, 1) := by decide +kernel
theorem dL_cell_0 : decode cL_cell 0 = .ok (.iload_n 1, 1) := by decide +kernel
theorem dL_cell_1 : decode cL_cell 1 = .ok (.aload_n 0, 1) := by decide +kernel
theorem dL_cell_2 : decode cL_cell 2 = .ok (.arraylength, 1) := by decide +kernel
theorem dL_cell_3 : decode cL_cell 3 = .ok (.if_icmp .ge 9, 3) := by decide +kernel
theorem dL_cell_6 : decode cL_cell 6 = .ok (.aload_n 0, 1) := by decide +kernel
theorem dL_cell_7 : decode cL_cell 7 = .ok (.iload_n 1, 1) := by decide +kernel
theorem dL_cell_8 : decode cL_cell 8 = .ok (.iaload, 1) := by decide +kernel
theorem dL_cell_9 : decode cL_cell 9 = .ok (.goto 4, 3) := by decide +kernel
theorem dL_cell_12 : decode cL_cell 12 = .ok (.iconst 0, 1) := by decide +kernel
theorem dL_cell_13 : decode cL_cell 13 = .ok (.ireturn, 1) := by decide +kernel
theorem dL_clause_0 : decode cL_clause 0 = .ok (.aload 6, 2) := by decide +kernel
theorem dL_clause_2 : decode cL_clause 2 = .ok (.iconst 0, 1) := by decide +kernel
theorem dL_clause_3 : decode cL_clause 3 = .ok (.aload_n 0, 1) := by decide +kernel
theorem dL_clause_4 : decode cL_clause 4 = .ok (.iload_n 1, 1) := by decide +kernel
theorem dL_clause_5 : decode cL_clause 5 = .ok (.iload_n 2, 1) := by decide +kernel
theorem dL_clause_6 : decode cL_clause 6 = .ok (.iload_n 3, 1) := by decide +kernel
theorem dL_clause_7 : decode cL_clause 7 = .ok (.iload 4, 2) := by decide +kernel
theorem dL_clause_9 : decode cL_clause 9 = .ok (.iload 5, 2) := by decide +kernel
theorem dL_clause_11 : decode cL_clause 11 = .ok (.invokevirtual 7, 3) := by decide +kernel
theorem dL_clause_14 : decode cL_clause 14 = .ok (.i2l, 1) := by decide +kernel
theorem dL_clause_15 : decode cL_clause 15 = .ok (.lastore, 1) := by decide +kernel
theorem dL_clause_16 : decode cL_clause 16 = .ok (.goto 11, 3) := by decide +kernel
theorem dL_clause_19 : decode cL_clause 19 = .ok (.astore 7, 2) := by decide +kernel
theorem dL_clause_21 : decode cL_clause 21 = .ok (.iconst 1, 1) := by decide +kernel
theorem dL_clause_22 : decode cL_clause 22 = .ok (.ireturn, 1) := by decide +kernel
theorem dL_clause_23 : decode cL_clause 23 = .ok (.astore 7, 2) := by decide +kernel
theorem dL_clause_25 : decode cL_clause 25 = .ok (.iconst 2, 1) := by decide +kernel
theorem dL_clause_26 : decode cL_clause 26 = .ok (.ireturn, 1) := by decide +kernel
theorem dL_clause_27 : decode cL_clause 27 = .ok (.iconst 0, 1) := by decide +kernel
theorem dL_clause_28 : decode cL_clause 28 = .ok (.ireturn, 1) := by decide +kernel
theorem dL_weigh_0 : decode cL_weigh 0 = .ok (.aload_n 3, 1) := by decide +kernel
theorem dL_weigh_1 : decode cL_weigh 1 = .ok (.iconst 0, 1) := by decide +kernel
theorem dL_weigh_2 : decode cL_weigh 2 = .ok (.aload_n 0, 1) := by decide +kernel
theorem dL_weigh_3 : decode cL_weigh 3 = .ok (.iload_n 1, 1) := by decide +kernel
theorem dL_weigh_4 : decode cL_weigh 4 = .ok (.iload_n 2, 1) := by decide +kernel
theorem dL_weigh_5 : decode cL_weigh 5 = .ok (.invokevirtual 17, 3) := by decide +kernel
theorem dL_weigh_8 : decode cL_weigh 8 = .ok (.i2l, 1) := by decide +kernel
theorem dL_weigh_9 : decode cL_weigh 9 = .ok (.lastore, 1) := by decide +kernel
theorem dL_weigh_10 : decode cL_weigh 10 = .ok (.goto 7, 3) := by decide +kernel
theorem dL_weigh_13 : decode cL_weigh 13 = .ok (.astore 4, 2) := by decide +kernel
theorem dL_weigh_15 : decode cL_weigh 15 = .ok (.iconst 1, 1) := by decide +kernel
theorem dL_weigh_16 : decode cL_weigh 16 = .ok (.ireturn, 1) := by decide +kernel
theorem dL_weigh_17 : decode cL_weigh 17 = .ok (.iconst 0, 1) := by decide +kernel
theorem dL_weigh_18 : decode cL_weigh 18 = .ok (.ireturn, 1) := by decide +kernel
theorem dL_cost_0 : decode cL_cost 0 = .ok (.aload_n 3, 1) := by decide +kernel
theorem dL_cost_1 : decode cL_cost 1 = .ok (.iconst 0, 1) := by decide +kernel
theorem dL_cost_2 : decode cL_cost 2 = .ok (.aload_n 0, 1) := by decide +kernel
theorem dL_cost_3 : decode cL_cost 3 = .ok (.iload_n 1, 1) := by decide +kernel
theorem dL_cost_4 : decode cL_cost 4 = .ok (.iload_n 2, 1) := by decide +kernel
theorem dL_cost_5 : decode cL_cost 5 = .ok (.invokevirtual 21, 3) := by decide +kernel
theorem dL_cost_8 : decode cL_cost 8 = .ok (.lastore, 1) := by decide +kernel
theorem dL_cost_9 : decode cL_cost 9 = .ok (.goto 7, 3) := by decide +kernel
theorem dL_cost_12 : decode cL_cost 12 = .ok (.astore 4, 2) := by decide +kernel
theorem dL_cost_14 : decode cL_cost 14 = .ok (.iconst 1, 1) := by decide +kernel
theorem dL_cost_15 : decode cL_cost 15 = .ok (.ireturn, 1) := by decide +kernel
theorem dL_cost_16 : decode cL_cost 16 = .ok (.iconst 0, 1) := by decide +kernel
theorem dL_cost_17 : decode cL_cost 17 = .ok (.ireturn, 1) := by decide +kernel
theorem dL_bound_0 : decode cL_bound 0 = .ok (.aload_n 3, 1) := by decide +kernel
theorem dL_bound_1 : decode cL_bound 1 = .ok (.iconst 0, 1) := by decide +kernel
theorem dL_bound_2 : decode cL_bound 2 = .ok (.aload_n 0, 1) := by decide +kernel
theorem dL_bound_3 : decode cL_bound 3 = .ok (.iload_n 1, 1) := by decide +kernel
theorem dL_bound_4 : decode cL_bound 4 = .ok (.iload_n 2, 1) := by decide +kernel
theorem dL_bound_5 : decode cL_bound 5 = .ok (.invokevirtual 25, 3) := by decide +kernel
theorem dL_bound_8 : decode cL_bound 8 = .ok (.lastore, 1) := by decide +kernel
theorem dL_bound_9 : decode cL_bound 9 = .ok (.goto 7, 3) := by decide +kernel
theorem dL_bound_12 : decode cL_bound 12 = .ok (.astore 4, 2) := by decide +kernel
theorem dL_bound_14 : decode cL_bound 14 = .ok (.iconst 1, 1) := by decide +kernel
theorem dL_bound_15 : decode cL_bound 15 = .ok (.ireturn, 1) := by decide +kernel
theorem dL_bound_16 : decode cL_bound 16 = .ok (.iconst 0, 1) := by decide +kernel
theorem dL_bound_17 : decode cL_bound 17 = .ok (.ireturn, 1) := by decide +kernel
theorem dL_subset_0 : decode cL_subset 0 = .ok (.aload 4, 2) := by decide +kernel
theorem dL_subset_2 : decode cL_subset 2 = .ok (.iconst 0, 1) := by decide +kernel
theorem dL_subset_3 : decode cL_subset 3 = .ok (.aload_n 0, 1) := by decide +kernel
theorem dL_subset_4 : decode cL_subset 4 = .ok (.iload_n 1, 1) := by decide +kernel
theorem dL_subset_5 : decode cL_subset 5 = .ok (.iload_n 2, 1) := by decide +kernel
theorem dL_subset_6 : decode cL_subset 6 = .ok (.iload_n 3, 1) := by decide +kernel
theorem dL_subset_7 : decode cL_subset 7 = .ok (.invokevirtual 28, 3) := by decide +kernel
theorem dL_subset_10 : decode cL_subset 10 = .ok (.lastore, 1) := by decide +kernel
theorem dL_subset_11 : decode cL_subset 11 = .ok (.goto 7, 3) := by decide +kernel
theorem dL_subset_14 : decode cL_subset 14 = .ok (.astore 5, 2) := by decide +kernel
theorem dL_subset_16 : decode cL_subset 16 = .ok (.iconst 1, 1) := by decide +kernel
theorem dL_subset_17 : decode cL_subset 17 = .ok (.ireturn, 1) := by decide +kernel
theorem dL_subset_18 : decode cL_subset 18 = .ok (.iconst 0, 1) := by decide +kernel
theorem dL_subset_19 : decode cL_subset 19 = .ok (.ireturn, 1) := by decide +kernel
theorem dL_first_0 : decode cL_first 0 = .ok (.aload_n 3, 1) := by decide +kernel
theorem dL_first_1 : decode cL_first 1 = .ok (.iconst 0, 1) := by decide +kernel
theorem dL_first_2 : decode cL_first 2 = .ok (.aload_n 0, 1) := by decide +kernel
theorem dL_first_3 : decode cL_first 3 = .ok (.iload_n 1, 1) := by decide +kernel
theorem dL_first_4 : decode cL_first 4 = .ok (.iload_n 2, 1) := by decide +kernel
theorem dL_first_5 : decode cL_first 5 = .ok (.invokevirtual 32, 3) := by decide +kernel
theorem dL_first_8 : decode cL_first 8 = .ok (.i2l, 1) := by decide +kernel
theorem dL_first_9 : decode cL_first 9 = .ok (.lastore, 1) := by decide +kernel
theorem dL_first_10 : decode cL_first 10 = .ok (.goto 7, 3) := by decide +kernel
theorem dL_first_13 : decode cL_first 13 = .ok (.astore 4, 2) := by decide +kernel
theorem dL_first_15 : decode cL_first 15 = .ok (.iconst 1, 1) := by decide +kernel
theorem dL_first_16 : decode cL_first 16 = .ok (.ireturn, 1) := by decide +kernel
theorem dL_first_17 : decode cL_first 17 = .ok (.iconst 0, 1) := by decide +kernel
theorem dL_first_18 : decode cL_first 18 = .ok (.ireturn, 1) := by decide +kernel
theorem dL_law_0 : decode cL_law 0 = .ok (.new 8, 3) := by decide +kernel
theorem dL_law_3 : decode cL_law 3 = .ok (.dup, 1) := by decide +kernel
theorem dL_law_4 : decode cL_law 4 = .ok (.aload_n 0, 1) := by decide +kernel
theorem dL_law_5 : decode cL_law 5 = .ok (.iconst 0, 1) := by decide +kernel
theorem dL_law_6 : decode cL_law 6 = .ok (.invokestatic 35, 3) := by decide +kernel
theorem dL_law_9 : decode cL_law 9 = .ok (.invokespecial 41, 3) := by decide +kernel
theorem dL_law_12 : decode cL_law 12 = .ok (.astore_n 1, 1) := by decide +kernel
theorem dL_law_13 : decode cL_law 13 = .ok (.new 44, 3) := by decide +kernel
theorem dL_law_16 : decode cL_law 16 = .ok (.dup, 1) := by decide +kernel
theorem dL_law_17 : decode cL_law 17 = .ok (.aload_n 0, 1) := by decide +kernel
theorem dL_law_18 : decode cL_law 18 = .ok (.iconst 0, 1) := by decide +kernel
theorem dL_law_19 : decode cL_law 19 = .ok (.invokestatic 35, 3) := by decide +kernel
theorem dL_law_22 : decode cL_law 22 = .ok (.invokespecial 46, 3) := by decide +kernel
theorem dL_law_25 : decode cL_law 25 = .ok (.astore_n 2, 1) := by decide +kernel
theorem dL_law_26 : decode cL_law 26 = .ok (.iconst 1, 1) := by decide +kernel
theorem dL_law_27 : decode cL_law 27 = .ok (.newarray .long, 2) := by decide +kernel
theorem dL_law_29 : decode cL_law 29 = .ok (.astore_n 3, 1) := by decide +kernel
theorem dL_law_30 : decode cL_law 30 = .ok (.iconst 1, 1) := by decide +kernel
theorem dL_law_31 : decode cL_law 31 = .ok (.istore 4, 2) := by decide +kernel
theorem dL_law_33 : decode cL_law 33 = .ok (.iload 4, 2) := by decide +kernel
theorem dL_law_35 : decode cL_law 35 = .ok (.aload_n 0, 1) := by decide +kernel
theorem dL_law_36 : decode cL_law 36 = .ok (.arraylength, 1) := by decide +kernel
theorem dL_law_37 : decode cL_law 37 = .ok (.bipush 6, 2) := by decide +kernel
theorem dL_law_39 : decode cL_law 39 = .ok (.isub, 1) := by decide +kernel
theorem dL_law_40 : decode cL_law 40 = .ok (.if_icmp .gt 710, 3) := by decide +kernel
theorem dL_law_43 : decode cL_law 43 = .ok (.aload_n 0, 1) := by decide +kernel
theorem dL_law_44 : decode cL_law 44 = .ok (.iload 4, 2) := by decide +kernel
theorem dL_law_46 : decode cL_law 46 = .ok (.iaload, 1) := by decide +kernel
theorem dL_law_47 : decode cL_law 47 = .ok (.bipush 15, 2) := by decide +kernel
theorem dL_law_49 : decode cL_law 49 = .ok (.iand, 1) := by decide +kernel
theorem dL_law_50 : decode cL_law 50 = .ok (.tableswitch 694 0 14 #[74, 87, 191, 204, 272, 285, 352, 419, 498, 566, 580, 605, 618, 631, 668], 74) := by decide +kernel
theorem dL_law_124 : decode cL_law 124 = .ok (.aload_n 1, 1) := by decide +kernel
theorem dL_law_125 : decode cL_law 125 = .ok (.invokevirtual 47, 3) := by decide +kernel
theorem dL_law_128 : decode cL_law 128 = .ok (.aload_n 2, 1) := by decide +kernel
theorem dL_law_129 : decode cL_law 129 = .ok (.invokevirtual 51, 3) := by decide +kernel
theorem dL_law_132 : decode cL_law 132 = .ok (.if_icmp .eq 612, 3) := by decide +kernel
theorem dL_law_135 : decode cL_law 135 = .ok (.iconst 0, 1) := by decide +kernel
theorem dL_law_136 : decode cL_law 136 = .ok (.ireturn, 1) := by decide +kernel
theorem dL_law_137 : decode cL_law 137 = .ok (.aload_n 1, 1) := by decide +kernel
theorem dL_law_138 : decode cL_law 138 = .ok (.aload_n 0, 1) := by decide +kernel
theorem dL_law_139 : decode cL_law 139 = .ok (.iload 4, 2) := by decide +kernel
theorem dL_law_141 : decode cL_law 141 = .ok (.iconst 1, 1) := by decide +kernel
theorem dL_law_142 : decode cL_law 142 = .ok (.iadd, 1) := by decide +kernel
theorem dL_law_143 : decode cL_law 143 = .ok (.iaload, 1) := by decide +kernel
theorem dL_law_144 : decode cL_law 144 = .ok (.aload_n 0, 1) := by decide +kernel
theorem dL_law_145 : decode cL_law 145 = .ok (.iload 4, 2) := by decide +kernel
theorem dL_law_147 : decode cL_law 147 = .ok (.iconst 2, 1) := by decide +kernel
theorem dL_law_148 : decode cL_law 148 = .ok (.iadd, 1) := by decide +kernel
theorem dL_law_149 : decode cL_law 149 = .ok (.iaload, 1) := by decide +kernel
theorem dL_law_150 : decode cL_law 150 = .ok (.aload_n 0, 1) := by decide +kernel
theorem dL_law_151 : decode cL_law 151 = .ok (.iload 4, 2) := by decide +kernel
theorem dL_law_153 : decode cL_law 153 = .ok (.iconst 3, 1) := by decide +kernel
theorem dL_law_154 : decode cL_law 154 = .ok (.iadd, 1) := by decide +kernel
theorem dL_law_155 : decode cL_law 155 = .ok (.iaload, 1) := by decide +kernel
theorem dL_law_156 : decode cL_law 156 = .ok (.aload_n 0, 1) := by decide +kernel
theorem dL_law_157 : decode cL_law 157 = .ok (.iload 4, 2) := by decide +kernel
theorem dL_law_159 : decode cL_law 159 = .ok (.iconst 4, 1) := by decide +kernel
theorem dL_law_160 : decode cL_law 160 = .ok (.iadd, 1) := by decide +kernel
theorem dL_law_161 : decode cL_law 161 = .ok (.iaload, 1) := by decide +kernel
theorem dL_law_162 : decode cL_law 162 = .ok (.aload_n 0, 1) := by decide +kernel
theorem dL_law_163 : decode cL_law 163 = .ok (.iload 4, 2) := by decide +kernel
theorem dL_law_165 : decode cL_law 165 = .ok (.iconst 5, 1) := by decide +kernel
theorem dL_law_166 : decode cL_law 166 = .ok (.iadd, 1) := by decide +kernel
theorem dL_law_167 : decode cL_law 167 = .ok (.iaload, 1) := by decide +kernel
theorem dL_law_168 : decode cL_law 168 = .ok (.aload_n 3, 1) := by decide +kernel
theorem dL_law_169 : decode cL_law 169 = .ok (.invokestatic 52, 3) := by decide +kernel
theorem dL_law_172 : decode cL_law 172 = .ok (.istore 5, 2) := by decide +kernel
theorem dL_law_174 : decode cL_law 174 = .ok (.aload_n 2, 1) := by decide +kernel
theorem dL_law_175 : decode cL_law 175 = .ok (.aload_n 0, 1) := by decide +kernel
theorem dL_law_176 : decode cL_law 176 = .ok (.iload 4, 2) := by decide +kernel
theorem dL_law_178 : decode cL_law 178 = .ok (.iconst 1, 1) := by decide +kernel
