theorem dX4_firstOf_41 : decode cX4_firstOf 41 = .ok (.iload_n 1, 1) := by decide +kernel
theorem dX4_firstOf_42 : decode cX4_firstOf 42 = .ok (.iload_n 2, 1) := by decide +kernel
theorem dX4_firstOf_43 : decode cX4_firstOf 43 = .ok (.invokevirtual 107, 3) := by decide +kernel
theorem dX4_firstOf_46 : decode cX4_firstOf 46 = .ok (.ifCond .eq 37, 3) := by decide +kernel
theorem dX4_firstOf_49 : decode cX4_firstOf 49 = .ok (.iload 7, 2) := by decide +kernel
theorem dX4_firstOf_51 : decode cX4_firstOf 51 = .ok (.aload_n 0, 1) := by decide +kernel
theorem dX4_firstOf_52 : decode cX4_firstOf 52 = .ok (.getfield 7, 3) := by decide +kernel
theorem dX4_firstOf_55 : decode cX4_firstOf 55 = .ok (.iload 9, 2) := by decide +kernel
theorem dX4_firstOf_57 : decode cX4_firstOf 57 = .ok (.iaload, 1) := by decide +kernel
theorem dX4_firstOf_58 : decode cX4_firstOf 58 = .ok (.iload 6, 2) := by decide +kernel
theorem dX4_firstOf_60 : decode cX4_firstOf 60 = .ok (.ishr, 1) := by decide +kernel
theorem dX4_firstOf_61 : decode cX4_firstOf 61 = .ok (.iconst 1, 1) := by decide +kernel
theorem dX4_firstOf_62 : decode cX4_firstOf 62 = .ok (.iand, 1) := by decide +kernel
theorem dX4_firstOf_63 : decode cX4_firstOf 63 = .ok (.iadd, 1) := by decide +kernel
theorem dX4_firstOf_64 : decode cX4_firstOf 64 = .ok (.istore 7, 2) := by decide +kernel
theorem dX4_firstOf_66 : decode cX4_firstOf 66 = .ok (.iload 8, 2) := by decide +kernel
theorem dX4_firstOf_68 : decode cX4_firstOf 68 = .ok (.aload_n 0, 1) := by decide +kernel
theorem dX4_firstOf_69 : decode cX4_firstOf 69 = .ok (.getfield 13, 3) := by decide +kernel
theorem dX4_firstOf_72 : decode cX4_firstOf 72 = .ok (.iload 9, 2) := by decide +kernel
theorem dX4_firstOf_74 : decode cX4_firstOf 74 = .ok (.iaload, 1) := by decide +kernel
theorem dX4_firstOf_75 : decode cX4_firstOf 75 = .ok (.iload 6, 2) := by decide +kernel
theorem dX4_firstOf_77 : decode cX4_firstOf 77 = .ok (.ishr, 1) := by decide +kernel
theorem dX4_firstOf_78 : decode cX4_firstOf 78 = .ok (.iconst 1, 1) := by decide +kernel
theorem dX4_firstOf_79 : decode cX4_firstOf 79 = .ok (.iand, 1) := by decide +kernel
theorem dX4_firstOf_80 : decode cX4_firstOf 80 = .ok (.iadd, 1) := by decide +kernel
theorem dX4_firstOf_81 : decode cX4_firstOf 81 = .ok (.istore 8, 2) := by decide +kernel
theorem dX4_firstOf_83 : decode cX4_firstOf 83 = .ok (.iinc 9 1, 3) := by decide +kernel
theorem dX4_firstOf_86 : decode cX4_firstOf 86 = .ok (.goto (-57), 3) := by decide +kernel
theorem dX4_firstOf_89 : decode cX4_firstOf 89 = .ok (.iload_n 1, 1) := by decide +kernel
theorem dX4_firstOf_90 : decode cX4_firstOf 90 = .ok (.iload 6, 2) := by decide +kernel
theorem dX4_firstOf_92 : decode cX4_firstOf 92 = .ok (.ishr, 1) := by decide +kernel
theorem dX4_firstOf_93 : decode cX4_firstOf 93 = .ok (.iconst 1, 1) := by decide +kernel
theorem dX4_firstOf_94 : decode cX4_firstOf 94 = .ok (.iand, 1) := by decide +kernel
theorem dX4_firstOf_95 : decode cX4_firstOf 95 = .ok (.ifCond .ne 49, 3) := by decide +kernel
theorem dX4_firstOf_98 : decode cX4_firstOf 98 = .ok (.iload_n 3, 1) := by decide +kernel
theorem dX4_firstOf_99 : decode cX4_firstOf 99 = .ok (.ifCond .lt 13, 3) := by decide +kernel
theorem dX4_firstOf_102 : decode cX4_firstOf 102 = .ok (.iload 7, 2) := by decide +kernel
theorem dX4_firstOf_104 : decode cX4_firstOf 104 = .ok (.iload 8, 2) := by decide +kernel
theorem dX4_firstOf_106 : decode cX4_firstOf 106 = .ok (.iadd, 1) := by decide +kernel
theorem dX4_firstOf_107 : decode cX4_firstOf 107 = .ok (.iload 4, 2) := by decide +kernel
theorem dX4_firstOf_109 : decode cX4_firstOf 109 = .ok (.if_icmp .le 35, 3) := by decide +kernel
theorem dX4_firstOf_112 : decode cX4_firstOf 112 = .ok (.iload 6, 2) := by decide +kernel
theorem dX4_firstOf_114 : decode cX4_firstOf 114 = .ok (.istore_n 3, 1) := by decide +kernel
theorem dX4_firstOf_115 : decode cX4_firstOf 115 = .ok (.iload 7, 2) := by decide +kernel
theorem dX4_firstOf_117 : decode cX4_firstOf 117 = .ok (.iload 8, 2) := by decide +kernel
theorem dX4_firstOf_119 : decode cX4_firstOf 119 = .ok (.iadd, 1) := by decide +kernel
theorem dX4_firstOf_120 : decode cX4_firstOf 120 = .ok (.istore 4, 2) := by decide +kernel
theorem dX4_firstOf_122 : decode cX4_firstOf 122 = .ok (.iload 8, 2) := by decide +kernel
theorem dX4_firstOf_124 : decode cX4_firstOf 124 = .ok (.iload 7, 2) := by decide +kernel
theorem dX4_firstOf_126 : decode cX4_firstOf 126 = .ok (.if_icmp .le 12, 3) := by decide +kernel
theorem dX4_firstOf_129 : decode cX4_firstOf 129 = .ok (.iconst 2, 1) := by decide +kernel
theorem dX4_firstOf_130 : decode cX4_firstOf 130 = .ok (.iload 6, 2) := by decide +kernel
theorem dX4_firstOf_132 : decode cX4_firstOf 132 = .ok (.imul, 1) := by decide +kernel
theorem dX4_firstOf_133 : decode cX4_firstOf 133 = .ok (.iconst 1, 1) := by decide +kernel
theorem dX4_firstOf_134 : decode cX4_firstOf 134 = .ok (.iadd, 1) := by decide +kernel
theorem dX4_firstOf_135 : decode cX4_firstOf 135 = .ok (.goto 7, 3) := by decide +kernel
theorem dX4_firstOf_138 : decode cX4_firstOf 138 = .ok (.iconst 2, 1) := by decide +kernel
theorem dX4_firstOf_139 : decode cX4_firstOf 139 = .ok (.iload 6, 2) := by decide +kernel
theorem dX4_firstOf_141 : decode cX4_firstOf 141 = .ok (.imul, 1) := by decide +kernel
theorem dX4_firstOf_142 : decode cX4_firstOf 142 = .ok (.istore 5, 2) := by decide +kernel
theorem dX4_firstOf_144 : decode cX4_firstOf 144 = .ok (.iinc 6 1, 3) := by decide +kernel
theorem dX4_firstOf_147 : decode cX4_firstOf 147 = .ok (.goto (-136), 3) := by decide +kernel
theorem dX4_firstOf_150 : decode cX4_firstOf 150 = .ok (.iload 5, 2) := by decide +kernel
theorem dX4_firstOf_152 : decode cX4_firstOf 152 = .ok (.ireturn, 1) := by decide +kernel
theorem dX4_first_0 : decode cX4_first 0 = .ok (.aload_n 0, 1) := by decide +kernel
theorem dX4_first_1 : decode cX4_first 1 = .ok (.aload_n 0, 1) := by decide +kernel
theorem dX4_first_2 : decode cX4_first 2 = .ok (.iload_n 1, 1) := by decide +kernel
theorem dX4_first_3 : decode cX4_first 3 = .ok (.iload_n 2, 1) := by decide +kernel
theorem dX4_first_4 : decode cX4_first 4 = .ok (.invokevirtual 88, 3) := by decide +kernel
theorem dX4_first_7 : decode cX4_first 7 = .ok (.ifCond .eq 7, 3) := by decide +kernel
theorem dX4_first_10 : decode cX4_first 10 = .ok (.iconst 1, 1) := by decide +kernel
theorem dX4_first_11 : decode cX4_first 11 = .ok (.goto 4, 3) := by decide +kernel
theorem dX4_first_14 : decode cX4_first 14 = .ok (.iconst 0, 1) := by decide +kernel
theorem dX4_first_15 : decode cX4_first 15 = .ok (.putfield 49, 3) := by decide +kernel
theorem dX4_first_18 : decode cX4_first 18 = .ok (.aload_n 0, 1) := by decide +kernel
theorem dX4_first_19 : decode cX4_first 19 = .ok (.getfield 49, 3) := by decide +kernel
theorem dX4_first_22 : decode cX4_first 22 = .ok (.ifCond .le 7, 3) := by decide +kernel
theorem dX4_first_25 : decode cX4_first 25 = .ok (.iconst 0, 1) := by decide +kernel
theorem dX4_first_26 : decode cX4_first 26 = .ok (.goto 9, 3) := by decide +kernel
theorem dX4_first_29 : decode cX4_first 29 = .ok (.aload_n 0, 1) := by decide +kernel
theorem dX4_first_30 : decode cX4_first 30 = .ok (.iload_n 1, 1) := by decide +kernel
theorem dX4_first_31 : decode cX4_first 31 = .ok (.iload_n 2, 1) := by decide +kernel
theorem dX4_first_32 : decode cX4_first 32 = .ok (.invokevirtual 138, 3) := by decide +kernel
theorem dX4_first_35 : decode cX4_first 35 = .ok (.ireturn, 1) := by decide +kernel
theorem dX4_line_0 : decode cX4_line 0 = .ok (.aload_n 0, 1) := by decide +kernel
theorem dX4_line_1 : decode cX4_line 1 = .ok (.getfield 39, 3) := by decide +kernel
theorem dX4_line_4 : decode cX4_line 4 = .ok (.aload_n 0, 1) := by decide +kernel
theorem dX4_line_5 : decode cX4_line 5 = .ok (.getfield 141, 3) := by decide +kernel
theorem dX4_line_8 : decode cX4_line 8 = .ok (.iload_n 1, 1) := by decide +kernel
theorem dX4_line_9 : decode cX4_line 9 = .ok (.iastore, 1) := by decide +kernel
theorem dX4_line_10 : decode cX4_line 10 = .ok (.aload_n 0, 1) := by decide +kernel
theorem dX4_line_11 : decode cX4_line 11 = .ok (.getfield 42, 3) := by decide +kernel
theorem dX4_line_14 : decode cX4_line 14 = .ok (.aload_n 0, 1) := by decide +kernel
theorem dX4_line_15 : decode cX4_line 15 = .ok (.getfield 141, 3) := by decide +kernel
theorem dX4_line_18 : decode cX4_line 18 = .ok (.iload_n 2, 1) := by decide +kernel
theorem dX4_line_19 : decode cX4_line 19 = .ok (.iastore, 1) := by decide +kernel
theorem dX4_line_20 : decode cX4_line 20 = .ok (.aload_n 0, 1) := by decide +kernel
theorem dX4_line_21 : decode cX4_line 21 = .ok (.dup, 1) := by decide +kernel
theorem dX4_line_22 : decode cX4_line 22 = .ok (.getfield 141, 3) := by decide +kernel
theorem dX4_line_25 : decode cX4_line 25 = .ok (.iconst 1, 1) := by decide +kernel
theorem dX4_line_26 : decode cX4_line 26 = .ok (.iadd, 1) := by decide +kernel
theorem dX4_line_27 : decode cX4_line 27 = .ok (.putfield 141, 3) := by decide +kernel
theorem dX4_line_30 : decode cX4_line 30 = .ok (.return_, 1) := by decide +kernel
theorem dX4_node_0 : decode cX4_node 0 = .ok (.aload_n 0, 1) := by decide +kernel
theorem dX4_node_1 : decode cX4_node 1 = .ok (.dup, 1) := by decide +kernel
theorem dX4_node_2 : decode cX4_node 2 = .ok (.getfield 56, 3) := by decide +kernel
theorem dX4_node_5 : decode cX4_node 5 = .ok (.iconst 1, 1) := by decide +kernel
theorem dX4_node_6 : decode cX4_node 6 = .ok (.iadd, 1) := by decide +kernel
theorem dX4_node_7 : decode cX4_node 7 = .ok (.putfield 56, 3) := by decide +kernel
theorem dX4_node_10 : decode cX4_node 10 = .ok (.iload_n 1, 1) := by decide +kernel
theorem dX4_node_11 : decode cX4_node 11 = .ok (.iconst 1, 1) := by decide +kernel
theorem dX4_node_12 : decode cX4_node 12 = .ok (.aload_n 0, 1) := by decide +kernel
theorem dX4_node_13 : decode cX4_node 13 = .ok (.getfield 45, 3) := by decide +kernel
theorem dX4_node_16 : decode cX4_node 16 = .ok (.ishl, 1) := by decide +kernel
theorem dX4_node_17 : decode cX4_node 17 = .ok (.iconst 1, 1) := by decide +kernel
theorem dX4_node_18 : decode cX4_node 18 = .ok (.isub, 1) := by decide +kernel
theorem dX4_node_19 : decode cX4_node 19 = .ok (.if_icmp .ne 51, 3) := by decide +kernel
theorem dX4_node_22 : decode cX4_node 22 = .ok (.aload_n 0, 1) := by decide +kernel
theorem dX4_node_23 : decode cX4_node 23 = .ok (.iload_n 1, 1) := by decide +kernel
theorem dX4_node_24 : decode cX4_node 24 = .ok (.iload_n 2, 1) := by decide +kernel
theorem dX4_node_25 : decode cX4_node 25 = .ok (.invokevirtual 97, 3) := by decide +kernel
theorem dX4_node_28 : decode cX4_node 28 = .ok (.lstore_n 3, 1) := by decide +kernel
theorem dX4_node_29 : decode cX4_node 29 = .ok (.aload_n 0, 1) := by decide +kernel
theorem dX4_node_30 : decode cX4_node 30 = .ok (.iload_n 1, 1) := by decide +kernel
theorem dX4_node_31 : decode cX4_node 31 = .ok (.iload_n 2, 1) := by decide +kernel
theorem dX4_node_32 : decode cX4_node 32 = .ok (.invokevirtual 92, 3) := by decide +kernel
theorem dX4_node_35 : decode cX4_node 35 = .ok (.ifCond .ne 34, 3) := by decide +kernel
theorem dX4_node_38 : decode cX4_node 38 = .ok (.aload_n 0, 1) := by decide +kernel
theorem dX4_node_39 : decode cX4_node 39 = .ok (.getfield 52, 3) := by decide +kernel
theorem dX4_node_42 : decode cX4_node 42 = .ok (.ifCond .eq 12, 3) := by decide +kernel
theorem dX4_node_45 : decode cX4_node 45 = .ok (.lload_n 3, 1) := by decide +kernel
theorem dX4_node_46 : decode cX4_node 46 = .ok (.aload_n 0, 1) := by decide +kernel
theorem dX4_node_47 : decode cX4_node 47 = .ok (.getfield 144, 3) := by decide +kernel
theorem dX4_node_50 : decode cX4_node 50 = .ok (.lcmp, 1) := by decide +kernel
theorem dX4_node_51 : decode cX4_node 51 = .ok (.ifCond .ge 18, 3) := by decide +kernel
theorem dX4_node_54 : decode cX4_node 54 = .ok (.aload_n 0, 1) := by decide +kernel
theorem dX4_node_55 : decode cX4_node 55 = .ok (.iconst 1, 1) := by decide +kernel
theorem dX4_node_56 : decode cX4_node 56 = .ok (.putfield 52, 3) := by decide +kernel
theorem dX4_node_59 : decode cX4_node 59 = .ok (.aload_n 0, 1) := by decide +kernel
theorem dX4_node_60 : decode cX4_node 60 = .ok (.lload_n 3, 1) := by decide +kernel
theorem dX4_node_61 : decode cX4_node 61 = .ok (.putfield 144, 3) := by decide +kernel
theorem dX4_node_64 : decode cX4_node 64 = .ok (.aload_n 0, 1) := by decide +kernel
theorem dX4_node_65 : decode cX4_node 65 = .ok (.iload_n 2, 1) := by decide +kernel
theorem dX4_node_66 : decode cX4_node 66 = .ok (.putfield 147, 3) := by decide +kernel
theorem dX4_node_69 : decode cX4_node 69 = .ok (.return_, 1) := by decide +kernel
theorem dX4_node_70 : decode cX4_node 70 = .ok (.aload_n 0, 1) := by decide +kernel
theorem dX4_node_71 : decode cX4_node 71 = .ok (.iload_n 1, 1) := by decide +kernel
theorem dX4_node_72 : decode cX4_node 72 = .ok (.iload_n 2, 1) := by decide +kernel
theorem dX4_node_73 : decode cX4_node 73 = .ok (.invokevirtual 134, 3) := by decide +kernel
theorem dX4_node_76 : decode cX4_node 76 = .ok (.aload_n 0, 1) := by decide +kernel
theorem dX4_node_77 : decode cX4_node 77 = .ok (.getfield 120, 3) := by decide +kernel
theorem dX4_node_80 : decode cX4_node 80 = .ok (.ifCond .ne 22, 3) := by decide +kernel
theorem dX4_node_83 : decode cX4_node 83 = .ok (.aload_n 0, 1) := by decide +kernel
theorem dX4_node_84 : decode cX4_node 84 = .ok (.getfield 52, 3) := by decide +kernel
theorem dX4_node_87 : decode cX4_node 87 = .ok (.ifCond .eq 72, 3) := by decide +kernel
theorem dX4_node_90 : decode cX4_node 90 = .ok (.aload_n 0, 1) := by decide +kernel
theorem dX4_node_91 : decode cX4_node 91 = .ok (.getfield 144, 3) := by decide +kernel
theorem dX4_node_94 : decode cX4_node 94 = .ok (.aload_n 0, 1) := by decide +kernel
theorem dX4_node_95 : decode cX4_node 95 = .ok (.getfield 123, 3) := by decide +kernel
theorem dX4_node_98 : decode cX4_node 98 = .ok (.lcmp, 1) := by decide +kernel
theorem dX4_node_99 : decode cX4_node 99 = .ok (.ifCond .gt 60, 3) := by decide +kernel
theorem dX4_node_102 : decode cX4_node 102 = .ok (.aload_n 0, 1) := by decide +kernel
theorem dX4_node_103 : decode cX4_node 103 = .ok (.getfield 30, 3) := by decide +kernel
theorem dX4_node_106 : decode cX4_node 106 = .ok (.aload_n 0, 1) := by decide +kernel
theorem dX4_node_107 : decode cX4_node 107 = .ok (.getfield 59, 3) := by decide +kernel
theorem dX4_node_110 : decode cX4_node 110 = .ok (.iload_n 1, 1) := by decide +kernel
theorem dX4_node_111 : decode cX4_node 111 = .ok (.iastore, 1) := by decide +kernel
theorem dX4_node_112 : decode cX4_node 112 = .ok (.aload_n 0, 1) := by decide +kernel
theorem dX4_node_113 : decode cX4_node 113 = .ok (.getfield 33, 3) := by decide +kernel
theorem dX4_node_116 : decode cX4_node 116 = .ok (.aload_n 0, 1) := by decide +kernel
theorem dX4_node_117 : decode cX4_node 117 = .ok (.getfield 59, 3) := by decide +kernel
theorem dX4_node_120 : decode cX4_node 120 = .ok (.iload_n 2, 1) := by decide +kernel
theorem dX4_node_121 : decode cX4_node 121 = .ok (.iastore, 1) := by decide +kernel
theorem dX4_node_122 : decode cX4_node 122 = .ok (.aload_n 0, 1) := by decide +kernel
theorem dX4_node_123 : decode cX4_node 123 = .ok (.getfield 36, 3) := by decide +kernel
theorem dX4_node_126 : decode cX4_node 126 = .ok (.aload_n 0, 1) := by decide +kernel
theorem dX4_node_127 : decode cX4_node 127 = .ok (.getfield 59, 3) := by decide +kernel
theorem dX4_node_130 : decode cX4_node 130 = .ok (.aload_n 0, 1) := by decide +kernel
theorem dX4_node_131 : decode cX4_node 131 = .ok (.getfield 52, 3) := by decide +kernel
theorem dX4_node_134 : decode cX4_node 134 = .ok (.ifCond .eq 10, 3) := by decide +kernel
theorem dX4_node_137 : decode cX4_node 137 = .ok (.aload_n 0, 1) := by decide +kernel
theorem dX4_node_138 : decode cX4_node 138 = .ok (.getfield 144, 3) := by decide +kernel
theorem dX4_node_141 : decode cX4_node 141 = .ok (.goto 6, 3) := by decide +kernel
theorem dX4_node_144 : decode cX4_node 144 = .ok (.ldc2_w 150, 3) := by decide +kernel
theorem dX4_node_147 : decode cX4_node 147 = .ok (.lastore, 1) := by decide +kernel
theorem dX4_node_148 : decode cX4_node 148 = .ok (.aload_n 0, 1) := by decide +kernel
theorem dX4_node_149 : decode cX4_node 149 = .ok (.dup, 1) := by decide +kernel
theorem dX4_node_150 : decode cX4_node 150 = .ok (.getfield 59, 3) := by decide +kernel
theorem dX4_node_153 : decode cX4_node 153 = .ok (.iconst 1, 1) := by decide +kernel
theorem dX4_node_154 : decode cX4_node 154 = .ok (.iadd, 1) := by decide +kernel
theorem dX4_node_155 : decode cX4_node 155 = .ok (.putfield 59, 3) := by decide +kernel
theorem dX4_node_158 : decode cX4_node 158 = .ok (.return_, 1) := by decide +kernel
theorem dX4_node_159 : decode cX4_node 159 = .ok (.aload_n 0, 1) := by decide +kernel
theorem dX4_node_160 : decode cX4_node 160 = .ok (.iload_n 1, 1) := by decide +kernel
theorem dX4_node_161 : decode cX4_node 161 = .ok (.iload_n 2, 1) := by decide +kernel
theorem dX4_node_162 : decode cX4_node 162 = .ok (.invokevirtual 138, 3) := by decide +kernel
theorem dX4_node_165 : decode cX4_node 165 = .ok (.istore_n 3, 1) := by decide +kernel
theorem dX4_node_166 : decode cX4_node 166 = .ok (.iconst 1, 1) := by decide +kernel
theorem dX4_node_167 : decode cX4_node 167 = .ok (.iload_n 3, 1) := by decide +kernel
theorem dX4_node_168 : decode cX4_node 168 = .ok (.iconst 2, 1) := by decide +kernel
theorem dX4_node_169 : decode cX4_node 169 = .ok (.idiv, 1) := by decide +kernel
theorem dX4_node_170 : decode cX4_node 170 = .ok (.ishl, 1) := by decide +kernel
theorem dX4_node_171 : decode cX4_node 171 = .ok (.istore 4, 2) := by decide +kernel
theorem dX4_node_173 : decode cX4_node 173 = .ok (.aload_n 0, 1) := by decide +kernel
theorem dX4_node_174 : decode cX4_node 174 = .ok (.iload_n 1, 1) := by decide +kernel
theorem dX4_node_175 : decode cX4_node 175 = .ok (.iload 4, 2) := by decide +kernel
theorem dX4_node_177 : decode cX4_node 177 = .ok (.ior, 1) := by decide +kernel
theorem dX4_node_178 : decode cX4_node 178 = .ok (.iload_n 3, 1) := by decide +kernel
theorem dX4_node_179 : decode cX4_node 179 = .ok (.iconst 2, 1) := by decide +kernel
theorem dX4_node_180 : decode cX4_node 180 = .ok (.irem, 1) := by decide +kernel
theorem dX4_node_181 : decode cX4_node 181 = .ok (.ifCond .ne 7, 3) := by decide +kernel
theorem dX4_node_184 : decode cX4_node 184 = .ok (.iload_n 2, 1) := by decide +kernel
theorem dX4_node_185 : decode cX4_node 185 = .ok (.goto 7, 3) := by decide +kernel
theorem dX4_node_188 : decode cX4_node 188 = .ok (.iload_n 2, 1) := by decide +kernel
theorem dX4_node_189 : decode cX4_node 189 = .ok (.iload 4, 2) := by decide +kernel
theorem dX4_node_191 : decode cX4_node 191 = .ok (.ior, 1) := by decide +kernel
theorem dX4_node_192 : decode cX4_node 192 = .ok (.invokevirtual 152, 3) := by decide +kernel
theorem dX4_node_195 : decode cX4_node 195 = .ok (.aload_n 0, 1) := by decide +kernel
theorem dX4_node_196 : decode cX4_node 196 = .ok (.iload_n 1, 1) := by decide +kernel
theorem dX4_node_197 : decode cX4_node 197 = .ok (.iload 4, 2) := by decide +kernel
theorem dX4_node_199 : decode cX4_node 199 = .ok (.ior, 1) := by decide +kernel
theorem dX4_node_200 : decode cX4_node 200 = .ok (.iload_n 3, 1) := by decide +kernel
theorem dX4_node_201 : decode cX4_node 201 = .ok (.iconst 2, 1) := by decide +kernel
theorem dX4_node_202 : decode cX4_node 202 = .ok (.irem, 1) := by decide +kernel
theorem dX4_node_203 : decode cX4_node 203 = .ok (.ifCond .ne 10, 3) := by decide +kernel
theorem dX4_node_206 : decode cX4_node 206 = .ok (.iload_n 2, 1) := by decide +kernel
theorem dX4_node_207 : decode cX4_node 207 = .ok (.iload 4, 2) := by decide +kernel
theorem dX4_node_209 : decode cX4_node 209 = .ok (.ior, 1) := by decide +kernel
theorem dX4_node_210 : decode cX4_node 210 = .ok (.goto 4, 3) := by decide +kernel
theorem dX4_node_213 : decode cX4_node 213 = .ok (.iload_n 2, 1) := by decide +kernel
theorem dX4_node_214 : decode cX4_node 214 = .ok (.invokevirtual 152, 3) := by decide +kernel
theorem dX4_node_217 : decode cX4_node 217 = .ok (.return_, 1) := by decide +kernel
theorem dX4_solve_0 : decode cX4_solve 0 = .ok (.aload_n 0, 1) := by decide +kernel
theorem dX4_solve_1 : decode cX4_solve 1 = .ok (.iconst 0, 1) := by decide +kernel
theorem dX4_solve_2 : decode cX4_solve 2 = .ok (.putfield 49, 3) := by decide +kernel
theorem dX4_solve_5 : decode cX4_solve 5 = .ok (.aload_n 0, 1) := by decide +kernel
theorem dX4_solve_6 : decode cX4_solve 6 = .ok (.invokevirtual 78, 3) := by decide +kernel
theorem dX4_solve_9 : decode cX4_solve 9 = .ok (.aload_n 0, 1) := by decide +kernel
theorem dX4_solve_10 : decode cX4_solve 10 = .ok (.iconst 0, 1) := by decide +kernel
theorem dX4_solve_11 : decode cX4_solve 11 = .ok (.putfield 141, 3) := by decide +kernel
theorem dX4_solve_14 : decode cX4_solve 14 = .ok (.aload_n 0, 1) := by decide +kernel
theorem dX4_solve_15 : decode cX4_solve 15 = .ok (.iconst 0, 1) := by decide +kernel
theorem dX4_solve_16 : decode cX4_solve 16 = .ok (.iconst 0, 1) := by decide +kernel
theorem dX4_solve_17 : decode cX4_solve 17 = .ok (.invokevirtual 152, 3) := by decide +kernel
theorem dX4_solve_20 : decode cX4_solve 20 = .ok (.aload_n 0, 1) := by decide +kernel
theorem dX4_solve_21 : decode cX4_solve 21 = .ok (.getfield 141, 3) := by decide +kernel
theorem dX4_solve_24 : decode cX4_solve 24 = .ok (.ifCond .le 38, 3) := by decide +kernel
theorem dX4_solve_27 : decode cX4_solve 27 = .ok (.aload_n 0, 1) := by decide +kernel
theorem dX4_solve_28 : decode cX4_solve 28 = .ok (.dup, 1) := by decide +kernel
theorem dX4_solve_29 : decode cX4_solve 29 = .ok (.getfield 141, 3) := by decide +kernel
theorem dX4_solve_32 : decode cX4_solve 32 = .ok (.iconst 1, 1) := by decide +kernel
theorem dX4_solve_33 : decode cX4_solve 33 = .ok (.isub, 1) := by decide +kernel
theorem dX4_solve_34 : decode cX4_solve 34 = .ok (.putfield 141, 3) := by decide +kernel
theorem dX4_solve_37 : decode cX4_solve 37 = .ok (.aload_n 0, 1) := by decide +kernel
theorem dX4_solve_38 : decode cX4_solve 38 = .ok (.aload_n 0, 1) := by decide +kernel
theorem dX4_solve_39 : decode cX4_solve 39 = .ok (.getfield 39, 3) := by decide +kernel
theorem dX4_solve_42 : decode cX4_solve 42 = .ok (.aload_n 0, 1) := by decide +kernel
theorem dX4_solve_43 : decode cX4_solve 43 = .ok (.getfield 141, 3) := by decide +kernel
theorem dX4_solve_46 : decode cX4_solve 46 = .ok (.iaload, 1) := by decide +kernel
theorem dX4_solve_47 : decode cX4_solve 47 = .ok (.aload_n 0, 1) := by decide +kernel
