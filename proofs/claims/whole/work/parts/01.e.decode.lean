theorem dX3_clause_92 : decode cX3_clause 92 = .ok (.ior, 1) := by decide +kernel
theorem dX3_clause_93 : decode cX3_clause 93 = .ok (.iload 5, 2) := by decide +kernel
theorem dX3_clause_95 : decode cX3_clause 95 = .ok (.invokestatic 73, 3) := by decide +kernel
theorem dX3_clause_98 : decode cX3_clause 98 = .ok (.ior, 1) := by decide +kernel
theorem dX3_clause_99 : decode cX3_clause 99 = .ok (.istore 7, 2) := by decide +kernel
theorem dX3_clause_101 : decode cX3_clause 101 = .ok (.aload_n 0, 1) := by decide +kernel
theorem dX3_clause_102 : decode cX3_clause 102 = .ok (.getfield 23, 3) := by decide +kernel
theorem dX3_clause_105 : decode cX3_clause 105 = .ok (.iload_n 1, 1) := by decide +kernel
theorem dX3_clause_106 : decode cX3_clause 106 = .ok (.iload 6, 2) := by decide +kernel
theorem dX3_clause_108 : decode cX3_clause 108 = .ok (.iload 7, 2) := by decide +kernel
theorem dX3_clause_110 : decode cX3_clause 110 = .ok (.invokevirtual 76, 3) := by decide +kernel
theorem dX3_clause_113 : decode cX3_clause 113 = .ok (.ireturn, 1) := by decide +kernel
theorem dX3_drop_0 : decode cX3_drop 0 = .ok (.aload_n 0, 1) := by decide +kernel
theorem dX3_drop_1 : decode cX3_drop 1 = .ok (.getfield 23, 3) := by decide +kernel
theorem dX3_drop_4 : decode cX3_drop 4 = .ok (.getfield 60, 3) := by decide +kernel
theorem dX3_drop_7 : decode cX3_drop 7 = .ok (.ifCond .ne 5, 3) := by decide +kernel
theorem dX3_drop_10 : decode cX3_drop 10 = .ok (.iconst (-1), 1) := by decide +kernel
theorem dX3_drop_11 : decode cX3_drop 11 = .ok (.ireturn, 1) := by decide +kernel
theorem dX3_drop_12 : decode cX3_drop 12 = .ok (.aload_n 0, 1) := by decide +kernel
theorem dX3_drop_13 : decode cX3_drop 13 = .ok (.getfield 41, 3) := by decide +kernel
theorem dX3_drop_16 : decode cX3_drop 16 = .ok (.invokevirtual 66, 3) := by decide +kernel
theorem dX3_drop_19 : decode cX3_drop 19 = .ok (.aload_n 0, 1) := by decide +kernel
theorem dX3_drop_20 : decode cX3_drop 20 = .ok (.getfield 23, 3) := by decide +kernel
theorem dX3_drop_23 : decode cX3_drop 23 = .ok (.invokevirtual 80, 3) := by decide +kernel
theorem dX3_drop_26 : decode cX3_drop 26 = .ok (.ireturn, 1) := by decide +kernel
theorem dX3_weigh_0 : decode cX3_weigh 0 = .ok (.iload_n 1, 1) := by decide +kernel
theorem dX3_weigh_1 : decode cX3_weigh 1 = .ok (.ifCond .lt 21, 3) := by decide +kernel
theorem dX3_weigh_4 : decode cX3_weigh 4 = .ok (.iload_n 1, 1) := by decide +kernel
theorem dX3_weigh_5 : decode cX3_weigh 5 = .ok (.aload_n 0, 1) := by decide +kernel
theorem dX3_weigh_6 : decode cX3_weigh 6 = .ok (.getfield 23, 3) := by decide +kernel
theorem dX3_weigh_9 : decode cX3_weigh 9 = .ok (.getfield 60, 3) := by decide +kernel
theorem dX3_weigh_12 : decode cX3_weigh 12 = .ok (.if_icmp .ge 10, 3) := by decide +kernel
theorem dX3_weigh_15 : decode cX3_weigh 15 = .ok (.iload_n 2, 1) := by decide +kernel
theorem dX3_weigh_16 : decode cX3_weigh 16 = .ok (.invokestatic 49, 3) := by decide +kernel
theorem dX3_weigh_19 : decode cX3_weigh 19 = .ok (.ifCond .ne 11, 3) := by decide +kernel
theorem dX3_weigh_22 : decode cX3_weigh 22 = .ok (.new 57, 3) := by decide +kernel
theorem dX3_weigh_25 : decode cX3_weigh 25 = .ok (.dup, 1) := by decide +kernel
theorem dX3_weigh_26 : decode cX3_weigh 26 = .ok (.invokespecial 59, 3) := by decide +kernel
theorem dX3_weigh_29 : decode cX3_weigh 29 = .ok (.athrow, 1) := by decide +kernel
theorem dX3_weigh_30 : decode cX3_weigh 30 = .ok (.aload_n 0, 1) := by decide +kernel
theorem dX3_weigh_31 : decode cX3_weigh 31 = .ok (.getfield 41, 3) := by decide +kernel
theorem dX3_weigh_34 : decode cX3_weigh 34 = .ok (.invokevirtual 66, 3) := by decide +kernel
theorem dX3_weigh_37 : decode cX3_weigh 37 = .ok (.aload_n 0, 1) := by decide +kernel
theorem dX3_weigh_38 : decode cX3_weigh 38 = .ok (.getfield 23, 3) := by decide +kernel
theorem dX3_weigh_41 : decode cX3_weigh 41 = .ok (.iload_n 1, 1) := by decide +kernel
theorem dX3_weigh_42 : decode cX3_weigh 42 = .ok (.iload_n 2, 1) := by decide +kernel
theorem dX3_weigh_43 : decode cX3_weigh 43 = .ok (.invokevirtual 84, 3) := by decide +kernel
theorem dX3_weigh_46 : decode cX3_weigh 46 = .ok (.ireturn, 1) := by decide +kernel
theorem dX3_clauses_0 : decode cX3_clauses 0 = .ok (.aload_n 0, 1) := by decide +kernel
theorem dX3_clauses_1 : decode cX3_clauses 1 = .ok (.getfield 23, 3) := by decide +kernel
theorem dX3_clauses_4 : decode cX3_clauses 4 = .ok (.getfield 60, 3) := by decide +kernel
theorem dX3_clauses_7 : decode cX3_clauses 7 = .ok (.ireturn, 1) := by decide +kernel
theorem dX3_cost_0 : decode cX3_cost 0 = .ok (.aload_n 0, 1) := by decide +kernel
theorem dX3_cost_1 : decode cX3_cost 1 = .ok (.iload_n 1, 1) := by decide +kernel
theorem dX3_cost_2 : decode cX3_cost 2 = .ok (.iload_n 2, 1) := by decide +kernel
theorem dX3_cost_3 : decode cX3_cost 3 = .ok (.invokevirtual 87, 3) := by decide +kernel
theorem dX3_cost_6 : decode cX3_cost 6 = .ok (.ifCond .ne 11, 3) := by decide +kernel
theorem dX3_cost_9 : decode cX3_cost 9 = .ok (.new 57, 3) := by decide +kernel
theorem dX3_cost_12 : decode cX3_cost 12 = .ok (.dup, 1) := by decide +kernel
theorem dX3_cost_13 : decode cX3_cost 13 = .ok (.invokespecial 59, 3) := by decide +kernel
theorem dX3_cost_16 : decode cX3_cost 16 = .ok (.athrow, 1) := by decide +kernel
theorem dX3_cost_17 : decode cX3_cost 17 = .ok (.aload_n 0, 1) := by decide +kernel
theorem dX3_cost_18 : decode cX3_cost 18 = .ok (.getfield 23, 3) := by decide +kernel
theorem dX3_cost_21 : decode cX3_cost 21 = .ok (.iload_n 1, 1) := by decide +kernel
theorem dX3_cost_22 : decode cX3_cost 22 = .ok (.iload_n 2, 1) := by decide +kernel
theorem dX3_cost_23 : decode cX3_cost 23 = .ok (.invokevirtual 91, 3) := by decide +kernel
theorem dX3_cost_26 : decode cX3_cost 26 = .ok (.lreturn, 1) := by decide +kernel
theorem dX3_bound_0 : decode cX3_bound 0 = .ok (.aload_n 0, 1) := by decide +kernel
theorem dX3_bound_1 : decode cX3_bound 1 = .ok (.iload_n 1, 1) := by decide +kernel
theorem dX3_bound_2 : decode cX3_bound 2 = .ok (.iload_n 2, 1) := by decide +kernel
theorem dX3_bound_3 : decode cX3_bound 3 = .ok (.invokevirtual 87, 3) := by decide +kernel
theorem dX3_bound_6 : decode cX3_bound 6 = .ok (.ifCond .ne 11, 3) := by decide +kernel
theorem dX3_bound_9 : decode cX3_bound 9 = .ok (.new 57, 3) := by decide +kernel
theorem dX3_bound_12 : decode cX3_bound 12 = .ok (.dup, 1) := by decide +kernel
theorem dX3_bound_13 : decode cX3_bound 13 = .ok (.invokespecial 59, 3) := by decide +kernel
theorem dX3_bound_16 : decode cX3_bound 16 = .ok (.athrow, 1) := by decide +kernel
theorem dX3_bound_17 : decode cX3_bound 17 = .ok (.aload_n 0, 1) := by decide +kernel
theorem dX3_bound_18 : decode cX3_bound 18 = .ok (.getfield 32, 3) := by decide +kernel
theorem dX3_bound_21 : decode cX3_bound 21 = .ok (.iload_n 1, 1) := by decide +kernel
theorem dX3_bound_22 : decode cX3_bound 22 = .ok (.iload_n 2, 1) := by decide +kernel
theorem dX3_bound_23 : decode cX3_bound 23 = .ok (.invokevirtual 95, 3) := by decide +kernel
theorem dX3_bound_26 : decode cX3_bound 26 = .ok (.lreturn, 1) := by decide +kernel
theorem dX3_subset_0 : decode cX3_subset 0 = .ok (.aload_n 0, 1) := by decide +kernel
theorem dX3_subset_1 : decode cX3_subset 1 = .ok (.iload_n 1, 1) := by decide +kernel
theorem dX3_subset_2 : decode cX3_subset 2 = .ok (.iload_n 2, 1) := by decide +kernel
theorem dX3_subset_3 : decode cX3_subset 3 = .ok (.invokevirtual 87, 3) := by decide +kernel
theorem dX3_subset_6 : decode cX3_subset 6 = .ok (.ifCond .ne 11, 3) := by decide +kernel
theorem dX3_subset_9 : decode cX3_subset 9 = .ok (.new 57, 3) := by decide +kernel
theorem dX3_subset_12 : decode cX3_subset 12 = .ok (.dup, 1) := by decide +kernel
theorem dX3_subset_13 : decode cX3_subset 13 = .ok (.invokespecial 59, 3) := by decide +kernel
theorem dX3_subset_16 : decode cX3_subset 16 = .ok (.athrow, 1) := by decide +kernel
theorem dX3_subset_17 : decode cX3_subset 17 = .ok (.aload_n 0, 1) := by decide +kernel
theorem dX3_subset_18 : decode cX3_subset 18 = .ok (.getfield 32, 3) := by decide +kernel
theorem dX3_subset_21 : decode cX3_subset 21 = .ok (.iload_n 1, 1) := by decide +kernel
theorem dX3_subset_22 : decode cX3_subset 22 = .ok (.iload_n 2, 1) := by decide +kernel
theorem dX3_subset_23 : decode cX3_subset 23 = .ok (.invokevirtual 95, 3) := by decide +kernel
theorem dX3_subset_26 : decode cX3_subset 26 = .ok (.pop2, 1) := by decide +kernel
theorem dX3_subset_27 : decode cX3_subset 27 = .ok (.aload_n 0, 1) := by decide +kernel
theorem dX3_subset_28 : decode cX3_subset 28 = .ok (.getfield 32, 3) := by decide +kernel
theorem dX3_subset_31 : decode cX3_subset 31 = .ok (.iload_n 3, 1) := by decide +kernel
theorem dX3_subset_32 : decode cX3_subset 32 = .ok (.invokevirtual 98, 3) := by decide +kernel
theorem dX3_subset_35 : decode cX3_subset 35 = .ok (.lreturn, 1) := by decide +kernel
theorem dX3_first_0 : decode cX3_first 0 = .ok (.aload_n 0, 1) := by decide +kernel
theorem dX3_first_1 : decode cX3_first 1 = .ok (.iload_n 1, 1) := by decide +kernel
theorem dX3_first_2 : decode cX3_first 2 = .ok (.iload_n 2, 1) := by decide +kernel
theorem dX3_first_3 : decode cX3_first 3 = .ok (.invokevirtual 87, 3) := by decide +kernel
theorem dX3_first_6 : decode cX3_first 6 = .ok (.ifCond .ne 11, 3) := by decide +kernel
theorem dX3_first_9 : decode cX3_first 9 = .ok (.new 57, 3) := by decide +kernel
theorem dX3_first_12 : decode cX3_first 12 = .ok (.dup, 1) := by decide +kernel
theorem dX3_first_13 : decode cX3_first 13 = .ok (.invokespecial 59, 3) := by decide +kernel
theorem dX3_first_16 : decode cX3_first 16 = .ok (.athrow, 1) := by decide +kernel
theorem dX3_first_17 : decode cX3_first 17 = .ok (.aload_n 0, 1) := by decide +kernel
theorem dX3_first_18 : decode cX3_first 18 = .ok (.getfield 23, 3) := by decide +kernel
theorem dX3_first_21 : decode cX3_first 21 = .ok (.iload_n 1, 1) := by decide +kernel
theorem dX3_first_22 : decode cX3_first 22 = .ok (.iload_n 2, 1) := by decide +kernel
theorem dX3_first_23 : decode cX3_first 23 = .ok (.invokevirtual 102, 3) := by decide +kernel
theorem dX3_first_26 : decode cX3_first 26 = .ok (.ireturn, 1) := by decide +kernel
theorem dX3_solve_0 : decode cX3_solve 0 = .ok (.aload_n 0, 1) := by decide +kernel
theorem dX3_solve_1 : decode cX3_solve 1 = .ok (.getfield 41, 3) := by decide +kernel
theorem dX3_solve_4 : decode cX3_solve 4 = .ok (.invokevirtual 105, 3) := by decide +kernel
theorem dX3_solve_7 : decode cX3_solve 7 = .ok (.aload_n 0, 1) := by decide +kernel
theorem dX3_solve_8 : decode cX3_solve 8 = .ok (.getfield 41, 3) := by decide +kernel
theorem dX3_solve_11 : decode cX3_solve 11 = .ok (.invokevirtual 108, 3) := by decide +kernel
theorem dX3_solve_14 : decode cX3_solve 14 = .ok (.ifCond .eq 13, 3) := by decide +kernel
theorem dX3_solve_17 : decode cX3_solve 17 = .ok (.aload_n 0, 1) := by decide +kernel
theorem dX3_solve_18 : decode cX3_solve 18 = .ok (.getfield 41, 3) := by decide +kernel
theorem dX3_solve_21 : decode cX3_solve 21 = .ok (.getfield 112, 3) := by decide +kernel
theorem dX3_solve_24 : decode cX3_solve 24 = .ok (.goto 6, 3) := by decide +kernel
theorem dX3_solve_27 : decode cX3_solve 27 = .ok (.ldc2_w 116, 3) := by decide +kernel
theorem dX3_solve_30 : decode cX3_solve 30 = .ok (.lreturn, 1) := by decide +kernel
theorem dX3_value_0 : decode cX3_value 0 = .ok (.iload_n 1, 1) := by decide +kernel
theorem dX3_value_1 : decode cX3_value 1 = .ok (.ifCond .lt 24, 3) := by decide +kernel
theorem dX3_value_4 : decode cX3_value 4 = .ok (.iload_n 1, 1) := by decide +kernel
theorem dX3_value_5 : decode cX3_value 5 = .ok (.aload_n 0, 1) := by decide +kernel
theorem dX3_value_6 : decode cX3_value 6 = .ok (.getfield 23, 3) := by decide +kernel
theorem dX3_value_9 : decode cX3_value 9 = .ok (.getfield 45, 3) := by decide +kernel
theorem dX3_value_12 : decode cX3_value 12 = .ok (.if_icmp .ge 13, 3) := by decide +kernel
theorem dX3_value_15 : decode cX3_value 15 = .ok (.aload_n 0, 1) := by decide +kernel
theorem dX3_value_16 : decode cX3_value 16 = .ok (.getfield 41, 3) := by decide +kernel
theorem dX3_value_19 : decode cX3_value 19 = .ok (.invokevirtual 108, 3) := by decide +kernel
theorem dX3_value_22 : decode cX3_value 22 = .ok (.ifCond .ne 5, 3) := by decide +kernel
theorem dX3_value_25 : decode cX3_value 25 = .ok (.iconst (-1), 1) := by decide +kernel
theorem dX3_value_26 : decode cX3_value 26 = .ok (.ireturn, 1) := by decide +kernel
theorem dX3_value_27 : decode cX3_value 27 = .ok (.aload_n 0, 1) := by decide +kernel
theorem dX3_value_28 : decode cX3_value 28 = .ok (.getfield 41, 3) := by decide +kernel
theorem dX3_value_31 : decode cX3_value 31 = .ok (.getfield 118, 3) := by decide +kernel
theorem dX3_value_34 : decode cX3_value 34 = .ok (.iload_n 1, 1) := by decide +kernel
theorem dX3_value_35 : decode cX3_value 35 = .ok (.ishr, 1) := by decide +kernel
theorem dX3_value_36 : decode cX3_value 36 = .ok (.iconst 1, 1) := by decide +kernel
theorem dX3_value_37 : decode cX3_value 37 = .ok (.iand, 1) := by decide +kernel
theorem dX3_value_38 : decode cX3_value 38 = .ok (.ireturn, 1) := by decide +kernel
theorem dX3_nodes_0 : decode cX3_nodes 0 = .ok (.aload_n 0, 1) := by decide +kernel
theorem dX3_nodes_1 : decode cX3_nodes 1 = .ok (.getfield 41, 3) := by decide +kernel
theorem dX3_nodes_4 : decode cX3_nodes 4 = .ok (.getfield 121, 3) := by decide +kernel
theorem dX3_nodes_7 : decode cX3_nodes 7 = .ok (.ireturn, 1) := by decide +kernel
theorem dX3_logged_0 : decode cX3_logged 0 = .ok (.aload_n 0, 1) := by decide +kernel
theorem dX3_logged_1 : decode cX3_logged 1 = .ok (.getfield 41, 3) := by decide +kernel
theorem dX3_logged_4 : decode cX3_logged 4 = .ok (.getfield 124, 3) := by decide +kernel
theorem dX3_logged_7 : decode cX3_logged 7 = .ok (.ireturn, 1) := by decide +kernel
theorem dX3_log_0 : decode cX3_log 0 = .ok (.aload_n 0, 1) := by decide +kernel
theorem dX3_log_1 : decode cX3_log 1 = .ok (.getfield 41, 3) := by decide +kernel
theorem dX3_log_4 : decode cX3_log 4 = .ok (.iload_n 1, 1) := by decide +kernel
theorem dX3_log_5 : decode cX3_log 5 = .ok (.invokevirtual 127, 3) := by decide +kernel
theorem dX3_log_8 : decode cX3_log 8 = .ok (.ifCond .ne 5, 3) := by decide +kernel
theorem dX3_log_11 : decode cX3_log 11 = .ok (.iconst (-1), 1) := by decide +kernel
theorem dX3_log_12 : decode cX3_log 12 = .ok (.ireturn, 1) := by decide +kernel
theorem dX3_log_13 : decode cX3_log 13 = .ok (.iload_n 2, 1) := by decide +kernel
theorem dX3_log_14 : decode cX3_log 14 = .ok (.lookupswitch 46 #[(0, 26), (1, 36)], 26) := by decide +kernel
theorem dX3_log_40 : decode cX3_log 40 = .ok (.aload_n 0, 1) := by decide +kernel
theorem dX3_log_41 : decode cX3_log 41 = .ok (.getfield 41, 3) := by decide +kernel
theorem dX3_log_44 : decode cX3_log 44 = .ok (.getfield 130, 3) := by decide +kernel
theorem dX3_log_47 : decode cX3_log 47 = .ok (.iload_n 1, 1) := by decide +kernel
theorem dX3_log_48 : decode cX3_log 48 = .ok (.iaload, 1) := by decide +kernel
theorem dX3_log_49 : decode cX3_log 49 = .ok (.ireturn, 1) := by decide +kernel
theorem dX3_log_50 : decode cX3_log 50 = .ok (.aload_n 0, 1) := by decide +kernel
theorem dX3_log_51 : decode cX3_log 51 = .ok (.getfield 41, 3) := by decide +kernel
theorem dX3_log_54 : decode cX3_log 54 = .ok (.getfield 134, 3) := by decide +kernel
theorem dX3_log_57 : decode cX3_log 57 = .ok (.iload_n 1, 1) := by decide +kernel
theorem dX3_log_58 : decode cX3_log 58 = .ok (.iaload, 1) := by decide +kernel
theorem dX3_log_59 : decode cX3_log 59 = .ok (.ireturn, 1) := by decide +kernel
theorem dX3_log_60 : decode cX3_log 60 = .ok (.iconst (-1), 1) := by decide +kernel
theorem dX3_log_61 : decode cX3_log 61 = .ok (.ireturn, 1) := by decide +kernel
theorem dX3_best_0 : decode cX3_best 0 = .ok (.aload_n 0, 1) := by decide +kernel
theorem dX3_best_1 : decode cX3_best 1 = .ok (.getfield 41, 3) := by decide +kernel
theorem dX3_best_4 : decode cX3_best 4 = .ok (.iload_n 1, 1) := by decide +kernel
theorem dX3_best_5 : decode cX3_best 5 = .ok (.invokevirtual 127, 3) := by decide +kernel
theorem dX3_best_8 : decode cX3_best 8 = .ok (.ifCond .eq 15, 3) := by decide +kernel
theorem dX3_best_11 : decode cX3_best 11 = .ok (.aload_n 0, 1) := by decide +kernel
theorem dX3_best_12 : decode cX3_best 12 = .ok (.getfield 41, 3) := by decide +kernel
theorem dX3_best_15 : decode cX3_best 15 = .ok (.getfield 137, 3) := by decide +kernel
theorem dX3_best_18 : decode cX3_best 18 = .ok (.iload_n 1, 1) := by decide +kernel
theorem dX3_best_19 : decode cX3_best 19 = .ok (.laload, 1) := by decide +kernel
theorem dX3_best_20 : decode cX3_best 20 = .ok (.goto 6, 3) := by decide +kernel
theorem dX3_best_23 : decode cX3_best 23 = .ok (.ldc2_w 141, 3) := by decide +kernel
theorem dX3_best_26 : decode cX3_best 26 = .ok (.lreturn, 1) := by decide +kernel
theorem dX3_isWeight_0 : decode cX3_isWeight 0 = .ok (.iload_n 0, 1) := by decide +kernel
theorem dX3_isWeight_1 : decode cX3_isWeight 1 = .ok (.ifCond .lt 13, 3) := by decide +kernel
theorem dX3_isWeight_4 : decode cX3_isWeight 4 = .ok (.iload_n 0, 1) := by decide +kernel
theorem dX3_isWeight_5 : decode cX3_isWeight 5 = .ok (.ldc 143, 2) := by decide +kernel
theorem dX3_isWeight_7 : decode cX3_isWeight 7 = .ok (.if_icmp .gt 7, 3) := by decide +kernel
theorem dX3_isWeight_10 : decode cX3_isWeight 10 = .ok (.iconst 1, 1) := by decide +kernel
theorem dX3_isWeight_11 : decode cX3_isWeight 11 = .ok (.goto 4, 3) := by decide +kernel
theorem dX3_isWeight_14 : decode cX3_isWeight 14 = .ok (.iconst 0, 1) := by decide +kernel
theorem dX3_isWeight_15 : decode cX3_isWeight 15 = .ok (.ireturn, 1) := by decide +kernel
theorem dX3_isState_0 : decode cX3_isState 0 = .ok (.iload_n 1, 1) := by decide +kernel
theorem dX3_isState_1 : decode cX3_isState 1 = .ok (.aload_n 0, 1) := by decide +kernel
theorem dX3_isState_2 : decode cX3_isState 2 = .ok (.getfield 23, 3) := by decide +kernel
theorem dX3_isState_5 : decode cX3_isState 5 = .ok (.getfield 144, 3) := by decide +kernel
theorem dX3_isState_8 : decode cX3_isState 8 = .ok (.iconst (-1), 1) := by decide +kernel
theorem dX3_isState_9 : decode cX3_isState 9 = .ok (.ixor, 1) := by decide +kernel
theorem dX3_isState_10 : decode cX3_isState 10 = .ok (.iand, 1) := by decide +kernel
theorem dX3_isState_11 : decode cX3_isState 11 = .ok (.ifCond .ne 15, 3) := by decide +kernel
theorem dX3_isState_14 : decode cX3_isState 14 = .ok (.iload_n 2, 1) := by decide +kernel
theorem dX3_isState_15 : decode cX3_isState 15 = .ok (.iload_n 1, 1) := by decide +kernel
theorem dX3_isState_16 : decode cX3_isState 16 = .ok (.iconst (-1), 1) := by decide +kernel
theorem dX3_isState_17 : decode cX3_isState 17 = .ok (.ixor, 1) := by decide +kernel
theorem dX3_isState_18 : decode cX3_isState 18 = .ok (.iand, 1) := by decide +kernel
theorem dX3_isState_19 : decode cX3_isState 19 = .ok (.ifCond .ne 7, 3) := by decide +kernel
theorem dX3_isState_22 : decode cX3_isState 22 = .ok (.iconst 1, 1) := by decide +kernel
theorem dX3_isState_23 : decode cX3_isState 23 = .ok (.goto 4, 3) := by decide +kernel
theorem dX3_isState_26 : decode cX3_isState 26 = .ok (.iconst 0, 1) := by decide +kernel
theorem dX3_isState_27 : decode cX3_isState 27 = .ok (.ireturn, 1) := by decide +kernel
theorem dX3_areLiterals_0 : decode cX3_areLiterals 0 = .ok (.aload_n 0, 1) := by decide +kernel
theorem dX3_areLiterals_1 : decode cX3_areLiterals 1 = .ok (.iload_n 1, 1) := by decide +kernel
theorem dX3_areLiterals_2 : decode cX3_areLiterals 2 = .ok (.invokevirtual 147, 3) := by decide +kernel
theorem dX3_areLiterals_5 : decode cX3_areLiterals 5 = .ok (.ifCond .eq 28, 3) := by decide +kernel
theorem dX3_areLiterals_8 : decode cX3_areLiterals 8 = .ok (.aload_n 0, 1) := by decide +kernel
theorem dX3_areLiterals_9 : decode cX3_areLiterals 9 = .ok (.iload_n 2, 1) := by decide +kernel
theorem dX3_areLiterals_10 : decode cX3_areLiterals 10 = .ok (.invokevirtual 147, 3) := by decide +kernel
theorem dX3_areLiterals_13 : decode cX3_areLiterals 13 = .ok (.ifCond .eq 20, 3) := by decide +kernel
theorem dX3_areLiterals_16 : decode cX3_areLiterals 16 = .ok (.aload_n 0, 1) := by decide +kernel
theorem dX3_areLiterals_17 : decode cX3_areLiterals 17 = .ok (.iload_n 3, 1) := by decide +kernel
theorem dX3_areLiterals_18 : decode cX3_areLiterals 18 = .ok (.invokevirtual 147, 3) := by decide +kernel
theorem dX3_areLiterals_21 : decode cX3_areLiterals 21 = .ok (.ifCond .eq 12, 3) := by decide +kernel
theorem dX3_areLiterals_24 : decode cX3_areLiterals 24 = .ok (.aload_n 0, 1) := by decide +kernel
theorem dX3_areLiterals_25 : decode cX3_areLiterals 25 = .ok (.iload 4, 2) := by decide +kernel
theorem dX3_areLiterals_27 : decode cX3_areLiterals 27 = .ok (.invokevirtual 147, 3) := by decide +kernel
theorem dX3_areLiterals_30 : decode cX3_areLiterals 30 = .ok (.ifCond .ne 5, 3) := by decide +kernel
theorem dX3_areLiterals_33 : decode cX3_areLiterals 33 = .ok (.iconst 0, 1) := by decide +kernel
theorem dX3_areLiterals_34 : decode cX3_areLiterals 34 = .ok (.ireturn, 1) := by decide +kernel
theorem dX3_areLiterals_35 : decode cX3_areLiterals 35 = .ok (.iload_n 1, 1) := by decide +kernel
theorem dX3_areLiterals_36 : decode cX3_areLiterals 36 = .ok (.invokestatic 150, 3) := by decide +kernel
theorem dX3_areLiterals_39 : decode cX3_areLiterals 39 = .ok (.iload_n 2, 1) := by decide +kernel
theorem dX3_areLiterals_40 : decode cX3_areLiterals 40 = .ok (.invokestatic 150, 3) := by decide +kernel
theorem dX3_areLiterals_43 : decode cX3_areLiterals 43 = .ok (.iadd, 1) := by decide +kernel
theorem dX3_areLiterals_44 : decode cX3_areLiterals 44 = .ok (.iload_n 3, 1) := by decide +kernel
theorem dX3_areLiterals_45 : decode cX3_areLiterals 45 = .ok (.invokestatic 150, 3) := by decide +kernel
theorem dX3_areLiterals_48 : decode cX3_areLiterals 48 = .ok (.iadd, 1) := by decide +kernel
theorem dX3_areLiterals_49 : decode cX3_areLiterals 49 = .ok (.iload 4, 2) := by decide +kernel
theorem dX3_areLiterals_51 : decode cX3_areLiterals 51 = .ok (.invokestatic 150, 3) := by decide +kernel
theorem dX3_areLiterals_54 : decode cX3_areLiterals 54 = .ok (.iadd, 1) := by decide +kernel
theorem dX3_areLiterals_55 : decode cX3_areLiterals 55 = .ok (.istore 5, 2) := by decide +kernel
theorem dX3_areLiterals_57 : decode cX3_areLiterals 57 = .ok (.iload_n 1, 1) := by decide +kernel
theorem dX3_areLiterals_58 : decode cX3_areLiterals 58 = .ok (.invokestatic 153, 3) := by decide +kernel
theorem dX3_areLiterals_61 : decode cX3_areLiterals 61 = .ok (.iload_n 2, 1) := by decide +kernel
theorem dX3_areLiterals_62 : decode cX3_areLiterals 62 = .ok (.invokestatic 153, 3) := by decide +kernel
theorem dX3_areLiterals_65 : decode cX3_areLiterals 65 = .ok (.ior, 1) := by decide +kernel
theorem dX3_areLiterals_66 : decode cX3_areLiterals 66 = .ok (.iload_n 3, 1) := by decide +kernel
theorem dX3_areLiterals_67 : decode cX3_areLiterals 67 = .ok (.invokestatic 153, 3) := by decide +kernel
theorem dX3_areLiterals_70 : decode cX3_areLiterals 70 = .ok (.ior, 1) := by decide +kernel
