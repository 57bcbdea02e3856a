theorem dX4_breaks_2 : decode cX4_breaks 2 = .ok (.iconst 0, 1) := by decide +kernel
theorem dX4_breaks_3 : decode cX4_breaks 3 = .ok (.istore 4, 2) := by decide +kernel
theorem dX4_breaks_5 : decode cX4_breaks 5 = .ok (.iload 4, 2) := by decide +kernel
theorem dX4_breaks_7 : decode cX4_breaks 7 = .ok (.aload_n 0, 1) := by decide +kernel
theorem dX4_breaks_8 : decode cX4_breaks 8 = .ok (.getfield 75, 3) := by decide +kernel
theorem dX4_breaks_11 : decode cX4_breaks 11 = .ok (.if_icmp .ge 40, 3) := by decide +kernel
theorem dX4_breaks_14 : decode cX4_breaks 14 = .ok (.iload_n 3, 1) := by decide +kernel
theorem dX4_breaks_15 : decode cX4_breaks 15 = .ok (.ifCond .ne 24, 3) := by decide +kernel
theorem dX4_breaks_18 : decode cX4_breaks 18 = .ok (.aload_n 0, 1) := by decide +kernel
theorem dX4_breaks_19 : decode cX4_breaks 19 = .ok (.getfield 16, 3) := by decide +kernel
theorem dX4_breaks_22 : decode cX4_breaks 22 = .ok (.iload 4, 2) := by decide +kernel
theorem dX4_breaks_24 : decode cX4_breaks 24 = .ok (.iaload, 1) := by decide +kernel
theorem dX4_breaks_25 : decode cX4_breaks 25 = .ok (.ifCond .ne 18, 3) := by decide +kernel
theorem dX4_breaks_28 : decode cX4_breaks 28 = .ok (.aload_n 0, 1) := by decide +kernel
theorem dX4_breaks_29 : decode cX4_breaks 29 = .ok (.iload 4, 2) := by decide +kernel
theorem dX4_breaks_31 : decode cX4_breaks 31 = .ok (.iload_n 1, 1) := by decide +kernel
theorem dX4_breaks_32 : decode cX4_breaks 32 = .ok (.iload_n 2, 1) := by decide +kernel
theorem dX4_breaks_33 : decode cX4_breaks 33 = .ok (.invokevirtual 85, 3) := by decide +kernel
theorem dX4_breaks_36 : decode cX4_breaks 36 = .ok (.ifCond .eq 7, 3) := by decide +kernel
theorem dX4_breaks_39 : decode cX4_breaks 39 = .ok (.iconst 1, 1) := by decide +kernel
theorem dX4_breaks_40 : decode cX4_breaks 40 = .ok (.goto 4, 3) := by decide +kernel
theorem dX4_breaks_43 : decode cX4_breaks 43 = .ok (.iconst 0, 1) := by decide +kernel
theorem dX4_breaks_44 : decode cX4_breaks 44 = .ok (.istore_n 3, 1) := by decide +kernel
theorem dX4_breaks_45 : decode cX4_breaks 45 = .ok (.iinc 4 1, 3) := by decide +kernel
theorem dX4_breaks_48 : decode cX4_breaks 48 = .ok (.goto (-43), 3) := by decide +kernel
theorem dX4_breaks_51 : decode cX4_breaks 51 = .ok (.iload_n 3, 1) := by decide +kernel
theorem dX4_breaks_52 : decode cX4_breaks 52 = .ok (.ireturn, 1) := by decide +kernel
theorem dX4_cost_0 : decode cX4_cost 0 = .ok (.aload_n 0, 1) := by decide +kernel
theorem dX4_cost_1 : decode cX4_cost 1 = .ok (.aload_n 0, 1) := by decide +kernel
theorem dX4_cost_2 : decode cX4_cost 2 = .ok (.iload_n 1, 1) := by decide +kernel
theorem dX4_cost_3 : decode cX4_cost 3 = .ok (.iload_n 2, 1) := by decide +kernel
theorem dX4_cost_4 : decode cX4_cost 4 = .ok (.invokevirtual 88, 3) := by decide +kernel
theorem dX4_cost_7 : decode cX4_cost 7 = .ok (.ifCond .eq 7, 3) := by decide +kernel
theorem dX4_cost_10 : decode cX4_cost 10 = .ok (.iconst 1, 1) := by decide +kernel
theorem dX4_cost_11 : decode cX4_cost 11 = .ok (.goto 4, 3) := by decide +kernel
theorem dX4_cost_14 : decode cX4_cost 14 = .ok (.iconst 0, 1) := by decide +kernel
theorem dX4_cost_15 : decode cX4_cost 15 = .ok (.putfield 49, 3) := by decide +kernel
theorem dX4_cost_18 : decode cX4_cost 18 = .ok (.aload_n 0, 1) := by decide +kernel
theorem dX4_cost_19 : decode cX4_cost 19 = .ok (.getfield 49, 3) := by decide +kernel
theorem dX4_cost_22 : decode cX4_cost 22 = .ok (.ifCond .le 5, 3) := by decide +kernel
theorem dX4_cost_25 : decode cX4_cost 25 = .ok (.lconst 0, 1) := by decide +kernel
theorem dX4_cost_26 : decode cX4_cost 26 = .ok (.lreturn, 1) := by decide +kernel
theorem dX4_cost_27 : decode cX4_cost 27 = .ok (.aload_n 0, 1) := by decide +kernel
theorem dX4_cost_28 : decode cX4_cost 28 = .ok (.iload_n 1, 1) := by decide +kernel
theorem dX4_cost_29 : decode cX4_cost 29 = .ok (.iload_n 2, 1) := by decide +kernel
theorem dX4_cost_30 : decode cX4_cost 30 = .ok (.invokevirtual 92, 3) := by decide +kernel
theorem dX4_cost_33 : decode cX4_cost 33 = .ok (.ifCond .eq 9, 3) := by decide +kernel
theorem dX4_cost_36 : decode cX4_cost 36 = .ok (.ldc2_w 95, 3) := by decide +kernel
theorem dX4_cost_39 : decode cX4_cost 39 = .ok (.goto 9, 3) := by decide +kernel
theorem dX4_cost_42 : decode cX4_cost 42 = .ok (.aload_n 0, 1) := by decide +kernel
theorem dX4_cost_43 : decode cX4_cost 43 = .ok (.iload_n 1, 1) := by decide +kernel
theorem dX4_cost_44 : decode cX4_cost 44 = .ok (.iload_n 2, 1) := by decide +kernel
theorem dX4_cost_45 : decode cX4_cost 45 = .ok (.invokevirtual 97, 3) := by decide +kernel
theorem dX4_cost_48 : decode cX4_cost 48 = .ok (.lreturn, 1) := by decide +kernel
theorem dX4_broken_0 : decode cX4_broken 0 = .ok (.iconst 0, 1) := by decide +kernel
theorem dX4_broken_1 : decode cX4_broken 1 = .ok (.istore_n 1, 1) := by decide +kernel
theorem dX4_broken_2 : decode cX4_broken 2 = .ok (.iload_n 1, 1) := by decide +kernel
theorem dX4_broken_3 : decode cX4_broken 3 = .ok (.aload_n 0, 1) := by decide +kernel
theorem dX4_broken_4 : decode cX4_broken 4 = .ok (.getfield 75, 3) := by decide +kernel
theorem dX4_broken_7 : decode cX4_broken 7 = .ok (.if_icmp .ge 36, 3) := by decide +kernel
theorem dX4_broken_10 : decode cX4_broken 10 = .ok (.aload_n 0, 1) := by decide +kernel
theorem dX4_broken_11 : decode cX4_broken 11 = .ok (.getfield 23, 3) := by decide +kernel
theorem dX4_broken_14 : decode cX4_broken 14 = .ok (.iload_n 1, 1) := by decide +kernel
theorem dX4_broken_15 : decode cX4_broken 15 = .ok (.baload, 1) := by decide +kernel
theorem dX4_broken_16 : decode cX4_broken 16 = .ok (.ifCond .eq 21, 3) := by decide +kernel
theorem dX4_broken_19 : decode cX4_broken 19 = .ok (.aload_n 0, 1) := by decide +kernel
theorem dX4_broken_20 : decode cX4_broken 20 = .ok (.iload_n 1, 1) := by decide +kernel
theorem dX4_broken_21 : decode cX4_broken 21 = .ok (.aload_n 0, 1) := by decide +kernel
theorem dX4_broken_22 : decode cX4_broken 22 = .ok (.getfield 101, 3) := by decide +kernel
theorem dX4_broken_25 : decode cX4_broken 25 = .ok (.aload_n 0, 1) := by decide +kernel
theorem dX4_broken_26 : decode cX4_broken 26 = .ok (.getfield 104, 3) := by decide +kernel
theorem dX4_broken_29 : decode cX4_broken 29 = .ok (.invokevirtual 85, 3) := by decide +kernel
theorem dX4_broken_32 : decode cX4_broken 32 = .ok (.ifCond .eq 5, 3) := by decide +kernel
theorem dX4_broken_35 : decode cX4_broken 35 = .ok (.iload_n 1, 1) := by decide +kernel
theorem dX4_broken_36 : decode cX4_broken 36 = .ok (.ireturn, 1) := by decide +kernel
theorem dX4_broken_37 : decode cX4_broken 37 = .ok (.iinc 1 1, 3) := by decide +kernel
theorem dX4_broken_40 : decode cX4_broken 40 = .ok (.goto (-38), 3) := by decide +kernel
theorem dX4_broken_43 : decode cX4_broken 43 = .ok (.iconst (-1), 1) := by decide +kernel
theorem dX4_broken_44 : decode cX4_broken 44 = .ok (.ireturn, 1) := by decide +kernel
theorem dX4_single_0 : decode cX4_single 0 = .ok (.iconst 0, 1) := by decide +kernel
theorem dX4_single_1 : decode cX4_single 1 = .ok (.istore_n 1, 1) := by decide +kernel
theorem dX4_single_2 : decode cX4_single 2 = .ok (.iload_n 1, 1) := by decide +kernel
theorem dX4_single_3 : decode cX4_single 3 = .ok (.aload_n 0, 1) := by decide +kernel
theorem dX4_single_4 : decode cX4_single 4 = .ok (.getfield 75, 3) := by decide +kernel
theorem dX4_single_7 : decode cX4_single 7 = .ok (.if_icmp .ge 63, 3) := by decide +kernel
theorem dX4_single_10 : decode cX4_single 10 = .ok (.aload_n 0, 1) := by decide +kernel
theorem dX4_single_11 : decode cX4_single 11 = .ok (.getfield 23, 3) := by decide +kernel
theorem dX4_single_14 : decode cX4_single 14 = .ok (.iload_n 1, 1) := by decide +kernel
theorem dX4_single_15 : decode cX4_single 15 = .ok (.baload, 1) := by decide +kernel
theorem dX4_single_16 : decode cX4_single 16 = .ok (.ifCond .eq 48, 3) := by decide +kernel
theorem dX4_single_19 : decode cX4_single 19 = .ok (.aload_n 0, 1) := by decide +kernel
theorem dX4_single_20 : decode cX4_single 20 = .ok (.iload_n 1, 1) := by decide +kernel
theorem dX4_single_21 : decode cX4_single 21 = .ok (.aload_n 0, 1) := by decide +kernel
theorem dX4_single_22 : decode cX4_single 22 = .ok (.getfield 101, 3) := by decide +kernel
theorem dX4_single_25 : decode cX4_single 25 = .ok (.aload_n 0, 1) := by decide +kernel
theorem dX4_single_26 : decode cX4_single 26 = .ok (.getfield 104, 3) := by decide +kernel
theorem dX4_single_29 : decode cX4_single 29 = .ok (.invokevirtual 107, 3) := by decide +kernel
theorem dX4_single_32 : decode cX4_single 32 = .ok (.ifCond .eq 32, 3) := by decide +kernel
theorem dX4_single_35 : decode cX4_single 35 = .ok (.aload_n 0, 1) := by decide +kernel
theorem dX4_single_36 : decode cX4_single 36 = .ok (.getfield 7, 3) := by decide +kernel
theorem dX4_single_39 : decode cX4_single 39 = .ok (.iload_n 1, 1) := by decide +kernel
theorem dX4_single_40 : decode cX4_single 40 = .ok (.iaload, 1) := by decide +kernel
theorem dX4_single_41 : decode cX4_single 41 = .ok (.aload_n 0, 1) := by decide +kernel
theorem dX4_single_42 : decode cX4_single 42 = .ok (.getfield 13, 3) := by decide +kernel
theorem dX4_single_45 : decode cX4_single 45 = .ok (.iload_n 1, 1) := by decide +kernel
theorem dX4_single_46 : decode cX4_single 46 = .ok (.iaload, 1) := by decide +kernel
theorem dX4_single_47 : decode cX4_single 47 = .ok (.ior, 1) := by decide +kernel
theorem dX4_single_48 : decode cX4_single 48 = .ok (.aload_n 0, 1) := by decide +kernel
theorem dX4_single_49 : decode cX4_single 49 = .ok (.getfield 101, 3) := by decide +kernel
theorem dX4_single_52 : decode cX4_single 52 = .ok (.iconst (-1), 1) := by decide +kernel
theorem dX4_single_53 : decode cX4_single 53 = .ok (.ixor, 1) := by decide +kernel
theorem dX4_single_54 : decode cX4_single 54 = .ok (.iand, 1) := by decide +kernel
theorem dX4_single_55 : decode cX4_single 55 = .ok (.invokestatic 71, 3) := by decide +kernel
theorem dX4_single_58 : decode cX4_single 58 = .ok (.iconst 1, 1) := by decide +kernel
theorem dX4_single_59 : decode cX4_single 59 = .ok (.if_icmp .ne 5, 3) := by decide +kernel
theorem dX4_single_62 : decode cX4_single 62 = .ok (.iload_n 1, 1) := by decide +kernel
theorem dX4_single_63 : decode cX4_single 63 = .ok (.ireturn, 1) := by decide +kernel
theorem dX4_single_64 : decode cX4_single 64 = .ok (.iinc 1 1, 3) := by decide +kernel
theorem dX4_single_67 : decode cX4_single 67 = .ok (.goto (-65), 3) := by decide +kernel
theorem dX4_single_70 : decode cX4_single 70 = .ok (.iconst (-1), 1) := by decide +kernel
theorem dX4_single_71 : decode cX4_single 71 = .ok (.ireturn, 1) := by decide +kernel
theorem dX4_grow_0 : decode cX4_grow 0 = .ok (.aload_n 0, 1) := by decide +kernel
theorem dX4_grow_1 : decode cX4_grow 1 = .ok (.iload_n 1, 1) := by decide +kernel
theorem dX4_grow_2 : decode cX4_grow 2 = .ok (.putfield 101, 3) := by decide +kernel
theorem dX4_grow_5 : decode cX4_grow 5 = .ok (.aload_n 0, 1) := by decide +kernel
theorem dX4_grow_6 : decode cX4_grow 6 = .ok (.iload_n 2, 1) := by decide +kernel
theorem dX4_grow_7 : decode cX4_grow 7 = .ok (.putfield 104, 3) := by decide +kernel
theorem dX4_grow_10 : decode cX4_grow 10 = .ok (.iconst 0, 1) := by decide +kernel
theorem dX4_grow_11 : decode cX4_grow 11 = .ok (.istore_n 3, 1) := by decide +kernel
theorem dX4_grow_12 : decode cX4_grow 12 = .ok (.iload_n 3, 1) := by decide +kernel
theorem dX4_grow_13 : decode cX4_grow 13 = .ok (.bipush 10, 2) := by decide +kernel
theorem dX4_grow_15 : decode cX4_grow 15 = .ok (.if_icmp .ge 16, 3) := by decide +kernel
theorem dX4_grow_18 : decode cX4_grow 18 = .ok (.aload_n 0, 1) := by decide +kernel
theorem dX4_grow_19 : decode cX4_grow 19 = .ok (.getfield 27, 3) := by decide +kernel
theorem dX4_grow_22 : decode cX4_grow 22 = .ok (.iload_n 3, 1) := by decide +kernel
theorem dX4_grow_23 : decode cX4_grow 23 = .ok (.iconst (-1), 1) := by decide +kernel
theorem dX4_grow_24 : decode cX4_grow 24 = .ok (.iastore, 1) := by decide +kernel
theorem dX4_grow_25 : decode cX4_grow 25 = .ok (.iinc 3 1, 3) := by decide +kernel
theorem dX4_grow_28 : decode cX4_grow 28 = .ok (.goto (-16), 3) := by decide +kernel
theorem dX4_grow_31 : decode cX4_grow 31 = .ok (.aload_n 0, 1) := by decide +kernel
theorem dX4_grow_32 : decode cX4_grow 32 = .ok (.invokevirtual 110, 3) := by decide +kernel
theorem dX4_grow_35 : decode cX4_grow 35 = .ok (.istore_n 3, 1) := by decide +kernel
theorem dX4_grow_36 : decode cX4_grow 36 = .ok (.iload_n 3, 1) := by decide +kernel
theorem dX4_grow_37 : decode cX4_grow 37 = .ok (.ifCond .ge 10, 3) := by decide +kernel
theorem dX4_grow_40 : decode cX4_grow 40 = .ok (.aload_n 0, 1) := by decide +kernel
theorem dX4_grow_41 : decode cX4_grow 41 = .ok (.invokevirtual 114, 3) := by decide +kernel
theorem dX4_grow_44 : decode cX4_grow 44 = .ok (.goto 4, 3) := by decide +kernel
theorem dX4_grow_47 : decode cX4_grow 47 = .ok (.iconst (-1), 1) := by decide +kernel
theorem dX4_grow_48 : decode cX4_grow 48 = .ok (.istore 4, 2) := by decide +kernel
theorem dX4_grow_50 : decode cX4_grow 50 = .ok (.iload 4, 2) := by decide +kernel
theorem dX4_grow_52 : decode cX4_grow 52 = .ok (.ifCond .lt 125, 3) := by decide +kernel
theorem dX4_grow_55 : decode cX4_grow 55 = .ok (.aload_n 0, 1) := by decide +kernel
theorem dX4_grow_56 : decode cX4_grow 56 = .ok (.getfield 7, 3) := by decide +kernel
theorem dX4_grow_59 : decode cX4_grow 59 = .ok (.iload 4, 2) := by decide +kernel
theorem dX4_grow_61 : decode cX4_grow 61 = .ok (.iaload, 1) := by decide +kernel
theorem dX4_grow_62 : decode cX4_grow 62 = .ok (.aload_n 0, 1) := by decide +kernel
theorem dX4_grow_63 : decode cX4_grow 63 = .ok (.getfield 13, 3) := by decide +kernel
theorem dX4_grow_66 : decode cX4_grow 66 = .ok (.iload 4, 2) := by decide +kernel
theorem dX4_grow_68 : decode cX4_grow 68 = .ok (.iaload, 1) := by decide +kernel
theorem dX4_grow_69 : decode cX4_grow 69 = .ok (.ior, 1) := by decide +kernel
theorem dX4_grow_70 : decode cX4_grow 70 = .ok (.aload_n 0, 1) := by decide +kernel
theorem dX4_grow_71 : decode cX4_grow 71 = .ok (.getfield 101, 3) := by decide +kernel
theorem dX4_grow_74 : decode cX4_grow 74 = .ok (.iconst (-1), 1) := by decide +kernel
theorem dX4_grow_75 : decode cX4_grow 75 = .ok (.ixor, 1) := by decide +kernel
theorem dX4_grow_76 : decode cX4_grow 76 = .ok (.iand, 1) := by decide +kernel
theorem dX4_grow_77 : decode cX4_grow 77 = .ok (.istore 5, 2) := by decide +kernel
theorem dX4_grow_79 : decode cX4_grow 79 = .ok (.iconst 0, 1) := by decide +kernel
theorem dX4_grow_80 : decode cX4_grow 80 = .ok (.istore 6, 2) := by decide +kernel
theorem dX4_grow_82 : decode cX4_grow 82 = .ok (.iload 6, 2) := by decide +kernel
theorem dX4_grow_84 : decode cX4_grow 84 = .ok (.aload_n 0, 1) := by decide +kernel
theorem dX4_grow_85 : decode cX4_grow 85 = .ok (.getfield 45, 3) := by decide +kernel
theorem dX4_grow_88 : decode cX4_grow 88 = .ok (.if_icmp .ge 37, 3) := by decide +kernel
theorem dX4_grow_91 : decode cX4_grow 91 = .ok (.aload_n 0, 1) := by decide +kernel
theorem dX4_grow_92 : decode cX4_grow 92 = .ok (.getfield 27, 3) := by decide +kernel
theorem dX4_grow_95 : decode cX4_grow 95 = .ok (.iload 6, 2) := by decide +kernel
theorem dX4_grow_97 : decode cX4_grow 97 = .ok (.iload 5, 2) := by decide +kernel
theorem dX4_grow_99 : decode cX4_grow 99 = .ok (.iconst 1, 1) := by decide +kernel
theorem dX4_grow_100 : decode cX4_grow 100 = .ok (.iload 6, 2) := by decide +kernel
theorem dX4_grow_102 : decode cX4_grow 102 = .ok (.ishl, 1) := by decide +kernel
theorem dX4_grow_103 : decode cX4_grow 103 = .ok (.if_icmp .ne 8, 3) := by decide +kernel
theorem dX4_grow_106 : decode cX4_grow 106 = .ok (.iload 4, 2) := by decide +kernel
theorem dX4_grow_108 : decode cX4_grow 108 = .ok (.goto 10, 3) := by decide +kernel
theorem dX4_grow_111 : decode cX4_grow 111 = .ok (.aload_n 0, 1) := by decide +kernel
theorem dX4_grow_112 : decode cX4_grow 112 = .ok (.getfield 27, 3) := by decide +kernel
theorem dX4_grow_115 : decode cX4_grow 115 = .ok (.iload 6, 2) := by decide +kernel
theorem dX4_grow_117 : decode cX4_grow 117 = .ok (.iaload, 1) := by decide +kernel
theorem dX4_grow_118 : decode cX4_grow 118 = .ok (.iastore, 1) := by decide +kernel
theorem dX4_grow_119 : decode cX4_grow 119 = .ok (.iinc 6 1, 3) := by decide +kernel
theorem dX4_grow_122 : decode cX4_grow 122 = .ok (.goto (-40), 3) := by decide +kernel
theorem dX4_grow_125 : decode cX4_grow 125 = .ok (.aload_n 0, 1) := by decide +kernel
theorem dX4_grow_126 : decode cX4_grow 126 = .ok (.aload_n 0, 1) := by decide +kernel
theorem dX4_grow_127 : decode cX4_grow 127 = .ok (.getfield 101, 3) := by decide +kernel
theorem dX4_grow_130 : decode cX4_grow 130 = .ok (.iload 5, 2) := by decide +kernel
theorem dX4_grow_132 : decode cX4_grow 132 = .ok (.ior, 1) := by decide +kernel
theorem dX4_grow_133 : decode cX4_grow 133 = .ok (.putfield 101, 3) := by decide +kernel
theorem dX4_grow_136 : decode cX4_grow 136 = .ok (.aload_n 0, 1) := by decide +kernel
theorem dX4_grow_137 : decode cX4_grow 137 = .ok (.aload_n 0, 1) := by decide +kernel
theorem dX4_grow_138 : decode cX4_grow 138 = .ok (.getfield 104, 3) := by decide +kernel
theorem dX4_grow_141 : decode cX4_grow 141 = .ok (.aload_n 0, 1) := by decide +kernel
theorem dX4_grow_142 : decode cX4_grow 142 = .ok (.getfield 7, 3) := by decide +kernel
theorem dX4_grow_145 : decode cX4_grow 145 = .ok (.iload 4, 2) := by decide +kernel
theorem dX4_grow_147 : decode cX4_grow 147 = .ok (.iaload, 1) := by decide +kernel
theorem dX4_grow_148 : decode cX4_grow 148 = .ok (.iload 5, 2) := by decide +kernel
theorem dX4_grow_150 : decode cX4_grow 150 = .ok (.iand, 1) := by decide +kernel
theorem dX4_grow_151 : decode cX4_grow 151 = .ok (.ior, 1) := by decide +kernel
theorem dX4_grow_152 : decode cX4_grow 152 = .ok (.putfield 104, 3) := by decide +kernel
theorem dX4_grow_155 : decode cX4_grow 155 = .ok (.aload_n 0, 1) := by decide +kernel
theorem dX4_grow_156 : decode cX4_grow 156 = .ok (.invokevirtual 110, 3) := by decide +kernel
theorem dX4_grow_159 : decode cX4_grow 159 = .ok (.istore_n 3, 1) := by decide +kernel
theorem dX4_grow_160 : decode cX4_grow 160 = .ok (.iload_n 3, 1) := by decide +kernel
theorem dX4_grow_161 : decode cX4_grow 161 = .ok (.ifCond .ge 10, 3) := by decide +kernel
theorem dX4_grow_164 : decode cX4_grow 164 = .ok (.aload_n 0, 1) := by decide +kernel
theorem dX4_grow_165 : decode cX4_grow 165 = .ok (.invokevirtual 114, 3) := by decide +kernel
theorem dX4_grow_168 : decode cX4_grow 168 = .ok (.goto 4, 3) := by decide +kernel
theorem dX4_grow_171 : decode cX4_grow 171 = .ok (.iconst (-1), 1) := by decide +kernel
theorem dX4_grow_172 : decode cX4_grow 172 = .ok (.istore 4, 2) := by decide +kernel
theorem dX4_grow_174 : decode cX4_grow 174 = .ok (.goto (-124), 3) := by decide +kernel
theorem dX4_grow_177 : decode cX4_grow 177 = .ok (.iload_n 3, 1) := by decide +kernel
theorem dX4_grow_178 : decode cX4_grow 178 = .ok (.ireturn, 1) := by decide +kernel
theorem dX4_gather_0 : decode cX4_gather 0 = .ok (.lconst 1, 1) := by decide +kernel
theorem dX4_gather_1 : decode cX4_gather 1 = .ok (.iload_n 1, 1) := by decide +kernel
theorem dX4_gather_2 : decode cX4_gather 2 = .ok (.lshl, 1) := by decide +kernel
theorem dX4_gather_3 : decode cX4_gather 3 = .ok (.lstore_n 2, 1) := by decide +kernel
theorem dX4_gather_4 : decode cX4_gather 4 = .ok (.iconst 1, 1) := by decide +kernel
theorem dX4_gather_5 : decode cX4_gather 5 = .ok (.istore 4, 2) := by decide +kernel
theorem dX4_gather_7 : decode cX4_gather 7 = .ok (.iload 4, 2) := by decide +kernel
theorem dX4_gather_9 : decode cX4_gather 9 = .ok (.ifCond .eq 132, 3) := by decide +kernel
theorem dX4_gather_12 : decode cX4_gather 12 = .ok (.lload_n 2, 1) := by decide +kernel
theorem dX4_gather_13 : decode cX4_gather 13 = .ok (.lstore 5, 2) := by decide +kernel
theorem dX4_gather_15 : decode cX4_gather 15 = .ok (.iconst 0, 1) := by decide +kernel
theorem dX4_gather_16 : decode cX4_gather 16 = .ok (.istore 7, 2) := by decide +kernel
theorem dX4_gather_18 : decode cX4_gather 18 = .ok (.iload 7, 2) := by decide +kernel
theorem dX4_gather_20 : decode cX4_gather 20 = .ok (.aload_n 0, 1) := by decide +kernel
theorem dX4_gather_21 : decode cX4_gather 21 = .ok (.getfield 75, 3) := by decide +kernel
theorem dX4_gather_24 : decode cX4_gather 24 = .ok (.if_icmp .ge 100, 3) := by decide +kernel
theorem dX4_gather_27 : decode cX4_gather 27 = .ok (.iconst 0, 1) := by decide +kernel
theorem dX4_gather_28 : decode cX4_gather 28 = .ok (.istore 8, 2) := by decide +kernel
theorem dX4_gather_30 : decode cX4_gather 30 = .ok (.iload 8, 2) := by decide +kernel
theorem dX4_gather_32 : decode cX4_gather 32 = .ok (.aload_n 0, 1) := by decide +kernel
theorem dX4_gather_33 : decode cX4_gather 33 = .ok (.getfield 45, 3) := by decide +kernel
theorem dX4_gather_36 : decode cX4_gather 36 = .ok (.if_icmp .ge 82, 3) := by decide +kernel
theorem dX4_gather_39 : decode cX4_gather 39 = .ok (.lload_n 2, 1) := by decide +kernel
theorem dX4_gather_40 : decode cX4_gather 40 = .ok (.iload 7, 2) := by decide +kernel
theorem dX4_gather_42 : decode cX4_gather 42 = .ok (.lshr, 1) := by decide +kernel
theorem dX4_gather_43 : decode cX4_gather 43 = .ok (.lconst 1, 1) := by decide +kernel
theorem dX4_gather_44 : decode cX4_gather 44 = .ok (.land, 1) := by decide +kernel
theorem dX4_gather_45 : decode cX4_gather 45 = .ok (.lconst 1, 1) := by decide +kernel
theorem dX4_gather_46 : decode cX4_gather 46 = .ok (.lcmp, 1) := by decide +kernel
theorem dX4_gather_47 : decode cX4_gather 47 = .ok (.ifCond .ne 31, 3) := by decide +kernel
theorem dX4_gather_50 : decode cX4_gather 50 = .ok (.aload_n 0, 1) := by decide +kernel
theorem dX4_gather_51 : decode cX4_gather 51 = .ok (.getfield 7, 3) := by decide +kernel
theorem dX4_gather_54 : decode cX4_gather 54 = .ok (.iload 7, 2) := by decide +kernel
theorem dX4_gather_56 : decode cX4_gather 56 = .ok (.iaload, 1) := by decide +kernel
theorem dX4_gather_57 : decode cX4_gather 57 = .ok (.aload_n 0, 1) := by decide +kernel
theorem dX4_gather_58 : decode cX4_gather 58 = .ok (.getfield 13, 3) := by decide +kernel
theorem dX4_gather_61 : decode cX4_gather 61 = .ok (.iload 7, 2) := by decide +kernel
theorem dX4_gather_63 : decode cX4_gather 63 = .ok (.iaload, 1) := by decide +kernel
theorem dX4_gather_64 : decode cX4_gather 64 = .ok (.ior, 1) := by decide +kernel
theorem dX4_gather_65 : decode cX4_gather 65 = .ok (.iload 8, 2) := by decide +kernel
theorem dX4_gather_67 : decode cX4_gather 67 = .ok (.ishr, 1) := by decide +kernel
