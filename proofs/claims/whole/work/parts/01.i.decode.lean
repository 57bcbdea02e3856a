theorem dX4_gather_68 : decode cX4_gather 68 = .ok (.iconst 1, 1) := by decide +kernel
theorem dX4_gather_69 : decode cX4_gather 69 = .ok (.iand, 1) := by decide +kernel
theorem dX4_gather_70 : decode cX4_gather 70 = .ok (.iconst 1, 1) := by decide +kernel
theorem dX4_gather_71 : decode cX4_gather 71 = .ok (.if_icmp .ne 7, 3) := by decide +kernel
theorem dX4_gather_74 : decode cX4_gather 74 = .ok (.iconst 1, 1) := by decide +kernel
theorem dX4_gather_75 : decode cX4_gather 75 = .ok (.goto 4, 3) := by decide +kernel
theorem dX4_gather_78 : decode cX4_gather 78 = .ok (.iconst 0, 1) := by decide +kernel
theorem dX4_gather_79 : decode cX4_gather 79 = .ok (.istore 9, 2) := by decide +kernel
theorem dX4_gather_81 : decode cX4_gather 81 = .ok (.iload 9, 2) := by decide +kernel
theorem dX4_gather_83 : decode cX4_gather 83 = .ok (.ifCond .eq 27, 3) := by decide +kernel
theorem dX4_gather_86 : decode cX4_gather 86 = .ok (.aload_n 0, 1) := by decide +kernel
theorem dX4_gather_87 : decode cX4_gather 87 = .ok (.getfield 27, 3) := by decide +kernel
theorem dX4_gather_90 : decode cX4_gather 90 = .ok (.iload 8, 2) := by decide +kernel
theorem dX4_gather_92 : decode cX4_gather 92 = .ok (.iaload, 1) := by decide +kernel
theorem dX4_gather_93 : decode cX4_gather 93 = .ok (.ifCond .lt 17, 3) := by decide +kernel
theorem dX4_gather_96 : decode cX4_gather 96 = .ok (.lload_n 2, 1) := by decide +kernel
theorem dX4_gather_97 : decode cX4_gather 97 = .ok (.lconst 1, 1) := by decide +kernel
theorem dX4_gather_98 : decode cX4_gather 98 = .ok (.aload_n 0, 1) := by decide +kernel
theorem dX4_gather_99 : decode cX4_gather 99 = .ok (.getfield 27, 3) := by decide +kernel
theorem dX4_gather_102 : decode cX4_gather 102 = .ok (.iload 8, 2) := by decide +kernel
theorem dX4_gather_104 : decode cX4_gather 104 = .ok (.iaload, 1) := by decide +kernel
theorem dX4_gather_105 : decode cX4_gather 105 = .ok (.lshl, 1) := by decide +kernel
theorem dX4_gather_106 : decode cX4_gather 106 = .ok (.lor, 1) := by decide +kernel
theorem dX4_gather_107 : decode cX4_gather 107 = .ok (.goto 4, 3) := by decide +kernel
theorem dX4_gather_110 : decode cX4_gather 110 = .ok (.lload_n 2, 1) := by decide +kernel
theorem dX4_gather_111 : decode cX4_gather 111 = .ok (.lstore_n 2, 1) := by decide +kernel
theorem dX4_gather_112 : decode cX4_gather 112 = .ok (.iinc 8 1, 3) := by decide +kernel
theorem dX4_gather_115 : decode cX4_gather 115 = .ok (.goto (-85), 3) := by decide +kernel
theorem dX4_gather_118 : decode cX4_gather 118 = .ok (.iinc 7 1, 3) := by decide +kernel
theorem dX4_gather_121 : decode cX4_gather 121 = .ok (.goto (-103), 3) := by decide +kernel
theorem dX4_gather_124 : decode cX4_gather 124 = .ok (.lload_n 2, 1) := by decide +kernel
theorem dX4_gather_125 : decode cX4_gather 125 = .ok (.lload 5, 2) := by decide +kernel
theorem dX4_gather_127 : decode cX4_gather 127 = .ok (.lcmp, 1) := by decide +kernel
theorem dX4_gather_128 : decode cX4_gather 128 = .ok (.ifCond .eq 7, 3) := by decide +kernel
theorem dX4_gather_131 : decode cX4_gather 131 = .ok (.iconst 1, 1) := by decide +kernel
theorem dX4_gather_132 : decode cX4_gather 132 = .ok (.goto 4, 3) := by decide +kernel
theorem dX4_gather_135 : decode cX4_gather 135 = .ok (.iconst 0, 1) := by decide +kernel
theorem dX4_gather_136 : decode cX4_gather 136 = .ok (.istore 4, 2) := by decide +kernel
theorem dX4_gather_138 : decode cX4_gather 138 = .ok (.goto (-131), 3) := by decide +kernel
theorem dX4_gather_141 : decode cX4_gather 141 = .ok (.lload_n 2, 1) := by decide +kernel
theorem dX4_gather_142 : decode cX4_gather 142 = .ok (.lreturn, 1) := by decide +kernel
theorem dX4_reckon_0 : decode cX4_reckon 0 = .ok (.aload_n 0, 1) := by decide +kernel
theorem dX4_reckon_1 : decode cX4_reckon 1 = .ok (.iconst 0, 1) := by decide +kernel
theorem dX4_reckon_2 : decode cX4_reckon 2 = .ok (.putfield 117, 3) := by decide +kernel
theorem dX4_reckon_5 : decode cX4_reckon 5 = .ok (.aload_n 0, 1) := by decide +kernel
theorem dX4_reckon_6 : decode cX4_reckon 6 = .ok (.aload_n 0, 1) := by decide +kernel
theorem dX4_reckon_7 : decode cX4_reckon 7 = .ok (.iload_n 1, 1) := by decide +kernel
theorem dX4_reckon_8 : decode cX4_reckon 8 = .ok (.iload_n 2, 1) := by decide +kernel
theorem dX4_reckon_9 : decode cX4_reckon 9 = .ok (.invokevirtual 92, 3) := by decide +kernel
theorem dX4_reckon_12 : decode cX4_reckon 12 = .ok (.putfield 120, 3) := by decide +kernel
theorem dX4_reckon_15 : decode cX4_reckon 15 = .ok (.aload_n 0, 1) := by decide +kernel
theorem dX4_reckon_16 : decode cX4_reckon 16 = .ok (.aload_n 0, 1) := by decide +kernel
theorem dX4_reckon_17 : decode cX4_reckon 17 = .ok (.iload_n 1, 1) := by decide +kernel
theorem dX4_reckon_18 : decode cX4_reckon 18 = .ok (.iload_n 2, 1) := by decide +kernel
theorem dX4_reckon_19 : decode cX4_reckon 19 = .ok (.invokevirtual 97, 3) := by decide +kernel
theorem dX4_reckon_22 : decode cX4_reckon 22 = .ok (.putfield 123, 3) := by decide +kernel
theorem dX4_reckon_25 : decode cX4_reckon 25 = .ok (.iconst 0, 1) := by decide +kernel
theorem dX4_reckon_26 : decode cX4_reckon 26 = .ok (.istore_n 3, 1) := by decide +kernel
theorem dX4_reckon_27 : decode cX4_reckon 27 = .ok (.iload_n 3, 1) := by decide +kernel
theorem dX4_reckon_28 : decode cX4_reckon 28 = .ok (.aload_n 0, 1) := by decide +kernel
theorem dX4_reckon_29 : decode cX4_reckon 29 = .ok (.getfield 75, 3) := by decide +kernel
theorem dX4_reckon_32 : decode cX4_reckon 32 = .ok (.if_icmp .ge 22, 3) := by decide +kernel
theorem dX4_reckon_35 : decode cX4_reckon 35 = .ok (.aload_n 0, 1) := by decide +kernel
theorem dX4_reckon_36 : decode cX4_reckon 36 = .ok (.getfield 23, 3) := by decide +kernel
theorem dX4_reckon_39 : decode cX4_reckon 39 = .ok (.iload_n 3, 1) := by decide +kernel
theorem dX4_reckon_40 : decode cX4_reckon 40 = .ok (.aload_n 0, 1) := by decide +kernel
theorem dX4_reckon_41 : decode cX4_reckon 41 = .ok (.iload_n 3, 1) := by decide +kernel
theorem dX4_reckon_42 : decode cX4_reckon 42 = .ok (.iload_n 1, 1) := by decide +kernel
theorem dX4_reckon_43 : decode cX4_reckon 43 = .ok (.iload_n 2, 1) := by decide +kernel
theorem dX4_reckon_44 : decode cX4_reckon 44 = .ok (.invokevirtual 107, 3) := by decide +kernel
theorem dX4_reckon_47 : decode cX4_reckon 47 = .ok (.bastore, 1) := by decide +kernel
theorem dX4_reckon_48 : decode cX4_reckon 48 = .ok (.iinc 3 1, 3) := by decide +kernel
theorem dX4_reckon_51 : decode cX4_reckon 51 = .ok (.goto (-24), 3) := by decide +kernel
theorem dX4_reckon_54 : decode cX4_reckon 54 = .ok (.aload_n 0, 1) := by decide +kernel
theorem dX4_reckon_55 : decode cX4_reckon 55 = .ok (.getfield 120, 3) := by decide +kernel
theorem dX4_reckon_58 : decode cX4_reckon 58 = .ok (.ifCond .ne 7, 3) := by decide +kernel
theorem dX4_reckon_61 : decode cX4_reckon 61 = .ok (.iconst 1, 1) := by decide +kernel
theorem dX4_reckon_62 : decode cX4_reckon 62 = .ok (.goto 4, 3) := by decide +kernel
theorem dX4_reckon_65 : decode cX4_reckon 65 = .ok (.iconst 0, 1) := by decide +kernel
theorem dX4_reckon_66 : decode cX4_reckon 66 = .ok (.istore_n 3, 1) := by decide +kernel
theorem dX4_reckon_67 : decode cX4_reckon 67 = .ok (.iload_n 3, 1) := by decide +kernel
theorem dX4_reckon_68 : decode cX4_reckon 68 = .ok (.ifCond .eq 179, 3) := by decide +kernel
theorem dX4_reckon_71 : decode cX4_reckon 71 = .ok (.aload_n 0, 1) := by decide +kernel
theorem dX4_reckon_72 : decode cX4_reckon 72 = .ok (.iload_n 1, 1) := by decide +kernel
theorem dX4_reckon_73 : decode cX4_reckon 73 = .ok (.iload_n 2, 1) := by decide +kernel
theorem dX4_reckon_74 : decode cX4_reckon 74 = .ok (.invokevirtual 127, 3) := by decide +kernel
theorem dX4_reckon_77 : decode cX4_reckon 77 = .ok (.istore 4, 2) := by decide +kernel
theorem dX4_reckon_79 : decode cX4_reckon 79 = .ok (.iload 4, 2) := by decide +kernel
theorem dX4_reckon_81 : decode cX4_reckon 81 = .ok (.ifCond .lt 7, 3) := by decide +kernel
theorem dX4_reckon_84 : decode cX4_reckon 84 = .ok (.iconst 1, 1) := by decide +kernel
theorem dX4_reckon_85 : decode cX4_reckon 85 = .ok (.goto 4, 3) := by decide +kernel
theorem dX4_reckon_88 : decode cX4_reckon 88 = .ok (.iconst 0, 1) := by decide +kernel
theorem dX4_reckon_89 : decode cX4_reckon 89 = .ok (.istore_n 3, 1) := by decide +kernel
theorem dX4_reckon_90 : decode cX4_reckon 90 = .ok (.iload_n 3, 1) := by decide +kernel
theorem dX4_reckon_91 : decode cX4_reckon 91 = .ok (.ifCond .eq 153, 3) := by decide +kernel
theorem dX4_reckon_94 : decode cX4_reckon 94 = .ok (.aload_n 0, 1) := by decide +kernel
theorem dX4_reckon_95 : decode cX4_reckon 95 = .ok (.iload 4, 2) := by decide +kernel
theorem dX4_reckon_97 : decode cX4_reckon 97 = .ok (.invokevirtual 130, 3) := by decide +kernel
theorem dX4_reckon_100 : decode cX4_reckon 100 = .ok (.lstore 5, 2) := by decide +kernel
theorem dX4_reckon_102 : decode cX4_reckon 102 = .ok (.aload_n 0, 1) := by decide +kernel
theorem dX4_reckon_103 : decode cX4_reckon 103 = .ok (.getfield 19, 3) := by decide +kernel
theorem dX4_reckon_106 : decode cX4_reckon 106 = .ok (.aload_n 0, 1) := by decide +kernel
theorem dX4_reckon_107 : decode cX4_reckon 107 = .ok (.getfield 117, 3) := by decide +kernel
theorem dX4_reckon_110 : decode cX4_reckon 110 = .ok (.lload 5, 2) := by decide +kernel
theorem dX4_reckon_112 : decode cX4_reckon 112 = .ok (.lastore, 1) := by decide +kernel
theorem dX4_reckon_113 : decode cX4_reckon 113 = .ok (.aload_n 0, 1) := by decide +kernel
theorem dX4_reckon_114 : decode cX4_reckon 114 = .ok (.dup, 1) := by decide +kernel
theorem dX4_reckon_115 : decode cX4_reckon 115 = .ok (.getfield 117, 3) := by decide +kernel
theorem dX4_reckon_118 : decode cX4_reckon 118 = .ok (.iconst 1, 1) := by decide +kernel
theorem dX4_reckon_119 : decode cX4_reckon 119 = .ok (.iadd, 1) := by decide +kernel
theorem dX4_reckon_120 : decode cX4_reckon 120 = .ok (.putfield 117, 3) := by decide +kernel
theorem dX4_reckon_123 : decode cX4_reckon 123 = .ok (.iconst 0, 1) := by decide +kernel
theorem dX4_reckon_124 : decode cX4_reckon 124 = .ok (.istore 7, 2) := by decide +kernel
theorem dX4_reckon_126 : decode cX4_reckon 126 = .ok (.iconst 0, 1) := by decide +kernel
theorem dX4_reckon_127 : decode cX4_reckon 127 = .ok (.istore 8, 2) := by decide +kernel
theorem dX4_reckon_129 : decode cX4_reckon 129 = .ok (.iload 8, 2) := by decide +kernel
theorem dX4_reckon_131 : decode cX4_reckon 131 = .ok (.aload_n 0, 1) := by decide +kernel
theorem dX4_reckon_132 : decode cX4_reckon 132 = .ok (.getfield 75, 3) := by decide +kernel
theorem dX4_reckon_135 : decode cX4_reckon 135 = .ok (.if_icmp .ge 70, 3) := by decide +kernel
theorem dX4_reckon_138 : decode cX4_reckon 138 = .ok (.lload 5, 2) := by decide +kernel
theorem dX4_reckon_140 : decode cX4_reckon 140 = .ok (.iload 8, 2) := by decide +kernel
theorem dX4_reckon_142 : decode cX4_reckon 142 = .ok (.lshr, 1) := by decide +kernel
theorem dX4_reckon_143 : decode cX4_reckon 143 = .ok (.lconst 1, 1) := by decide +kernel
theorem dX4_reckon_144 : decode cX4_reckon 144 = .ok (.land, 1) := by decide +kernel
theorem dX4_reckon_145 : decode cX4_reckon 145 = .ok (.lconst 1, 1) := by decide +kernel
theorem dX4_reckon_146 : decode cX4_reckon 146 = .ok (.lcmp, 1) := by decide +kernel
theorem dX4_reckon_147 : decode cX4_reckon 147 = .ok (.ifCond .ne 52, 3) := by decide +kernel
theorem dX4_reckon_150 : decode cX4_reckon 150 = .ok (.aload_n 0, 1) := by decide +kernel
theorem dX4_reckon_151 : decode cX4_reckon 151 = .ok (.getfield 23, 3) := by decide +kernel
theorem dX4_reckon_154 : decode cX4_reckon 154 = .ok (.iload 8, 2) := by decide +kernel
theorem dX4_reckon_156 : decode cX4_reckon 156 = .ok (.iconst 0, 1) := by decide +kernel
theorem dX4_reckon_157 : decode cX4_reckon 157 = .ok (.bastore, 1) := by decide +kernel
theorem dX4_reckon_158 : decode cX4_reckon 158 = .ok (.aload_n 0, 1) := by decide +kernel
theorem dX4_reckon_159 : decode cX4_reckon 159 = .ok (.getfield 16, 3) := by decide +kernel
theorem dX4_reckon_162 : decode cX4_reckon 162 = .ok (.iload 8, 2) := by decide +kernel
theorem dX4_reckon_164 : decode cX4_reckon 164 = .ok (.iaload, 1) := by decide +kernel
theorem dX4_reckon_165 : decode cX4_reckon 165 = .ok (.ifCond .le 30, 3) := by decide +kernel
theorem dX4_reckon_168 : decode cX4_reckon 168 = .ok (.iload 7, 2) := by decide +kernel
theorem dX4_reckon_170 : decode cX4_reckon 170 = .ok (.ifCond .eq 15, 3) := by decide +kernel
theorem dX4_reckon_173 : decode cX4_reckon 173 = .ok (.aload_n 0, 1) := by decide +kernel
theorem dX4_reckon_174 : decode cX4_reckon 174 = .ok (.getfield 16, 3) := by decide +kernel
theorem dX4_reckon_177 : decode cX4_reckon 177 = .ok (.iload 8, 2) := by decide +kernel
theorem dX4_reckon_179 : decode cX4_reckon 179 = .ok (.iaload, 1) := by decide +kernel
theorem dX4_reckon_180 : decode cX4_reckon 180 = .ok (.iload 7, 2) := by decide +kernel
theorem dX4_reckon_182 : decode cX4_reckon 182 = .ok (.if_icmp .ge 13, 3) := by decide +kernel
theorem dX4_reckon_185 : decode cX4_reckon 185 = .ok (.aload_n 0, 1) := by decide +kernel
theorem dX4_reckon_186 : decode cX4_reckon 186 = .ok (.getfield 16, 3) := by decide +kernel
theorem dX4_reckon_189 : decode cX4_reckon 189 = .ok (.iload 8, 2) := by decide +kernel
theorem dX4_reckon_191 : decode cX4_reckon 191 = .ok (.iaload, 1) := by decide +kernel
theorem dX4_reckon_192 : decode cX4_reckon 192 = .ok (.goto 5, 3) := by decide +kernel
theorem dX4_reckon_195 : decode cX4_reckon 195 = .ok (.iload 7, 2) := by decide +kernel
theorem dX4_reckon_197 : decode cX4_reckon 197 = .ok (.istore 7, 2) := by decide +kernel
theorem dX4_reckon_199 : decode cX4_reckon 199 = .ok (.iinc 8 1, 3) := by decide +kernel
theorem dX4_reckon_202 : decode cX4_reckon 202 = .ok (.goto (-73), 3) := by decide +kernel
theorem dX4_reckon_205 : decode cX4_reckon 205 = .ok (.aload_n 0, 1) := by decide +kernel
theorem dX4_reckon_206 : decode cX4_reckon 206 = .ok (.iload 7, 2) := by decide +kernel
theorem dX4_reckon_208 : decode cX4_reckon 208 = .ok (.ifCond .ne 7, 3) := by decide +kernel
theorem dX4_reckon_211 : decode cX4_reckon 211 = .ok (.iconst 1, 1) := by decide +kernel
theorem dX4_reckon_212 : decode cX4_reckon 212 = .ok (.goto 4, 3) := by decide +kernel
theorem dX4_reckon_215 : decode cX4_reckon 215 = .ok (.iconst 0, 1) := by decide +kernel
theorem dX4_reckon_216 : decode cX4_reckon 216 = .ok (.putfield 120, 3) := by decide +kernel
theorem dX4_reckon_219 : decode cX4_reckon 219 = .ok (.aload_n 0, 1) := by decide +kernel
theorem dX4_reckon_220 : decode cX4_reckon 220 = .ok (.dup, 1) := by decide +kernel
theorem dX4_reckon_221 : decode cX4_reckon 221 = .ok (.getfield 123, 3) := by decide +kernel
theorem dX4_reckon_224 : decode cX4_reckon 224 = .ok (.iload 7, 2) := by decide +kernel
theorem dX4_reckon_226 : decode cX4_reckon 226 = .ok (.i2l, 1) := by decide +kernel
theorem dX4_reckon_227 : decode cX4_reckon 227 = .ok (.ladd, 1) := by decide +kernel
theorem dX4_reckon_228 : decode cX4_reckon 228 = .ok (.putfield 123, 3) := by decide +kernel
theorem dX4_reckon_231 : decode cX4_reckon 231 = .ok (.aload_n 0, 1) := by decide +kernel
theorem dX4_reckon_232 : decode cX4_reckon 232 = .ok (.getfield 120, 3) := by decide +kernel
theorem dX4_reckon_235 : decode cX4_reckon 235 = .ok (.ifCond .ne 7, 3) := by decide +kernel
theorem dX4_reckon_238 : decode cX4_reckon 238 = .ok (.iconst 1, 1) := by decide +kernel
theorem dX4_reckon_239 : decode cX4_reckon 239 = .ok (.goto 4, 3) := by decide +kernel
theorem dX4_reckon_242 : decode cX4_reckon 242 = .ok (.iconst 0, 1) := by decide +kernel
theorem dX4_reckon_243 : decode cX4_reckon 243 = .ok (.istore_n 3, 1) := by decide +kernel
theorem dX4_reckon_244 : decode cX4_reckon 244 = .ok (.goto (-177), 3) := by decide +kernel
theorem dX4_reckon_247 : decode cX4_reckon 247 = .ok (.return_, 1) := by decide +kernel
theorem dX4_bound_0 : decode cX4_bound 0 = .ok (.aload_n 0, 1) := by decide +kernel
theorem dX4_bound_1 : decode cX4_bound 1 = .ok (.aload_n 0, 1) := by decide +kernel
theorem dX4_bound_2 : decode cX4_bound 2 = .ok (.iload_n 1, 1) := by decide +kernel
theorem dX4_bound_3 : decode cX4_bound 3 = .ok (.iload_n 2, 1) := by decide +kernel
theorem dX4_bound_4 : decode cX4_bound 4 = .ok (.invokevirtual 88, 3) := by decide +kernel
theorem dX4_bound_7 : decode cX4_bound 7 = .ok (.ifCond .eq 7, 3) := by decide +kernel
theorem dX4_bound_10 : decode cX4_bound 10 = .ok (.iconst 1, 1) := by decide +kernel
theorem dX4_bound_11 : decode cX4_bound 11 = .ok (.goto 4, 3) := by decide +kernel
theorem dX4_bound_14 : decode cX4_bound 14 = .ok (.iconst 0, 1) := by decide +kernel
theorem dX4_bound_15 : decode cX4_bound 15 = .ok (.putfield 49, 3) := by decide +kernel
theorem dX4_bound_18 : decode cX4_bound 18 = .ok (.aload_n 0, 1) := by decide +kernel
theorem dX4_bound_19 : decode cX4_bound 19 = .ok (.getfield 49, 3) := by decide +kernel
theorem dX4_bound_22 : decode cX4_bound 22 = .ok (.ifCond .le 5, 3) := by decide +kernel
theorem dX4_bound_25 : decode cX4_bound 25 = .ok (.lconst 0, 1) := by decide +kernel
theorem dX4_bound_26 : decode cX4_bound 26 = .ok (.lreturn, 1) := by decide +kernel
theorem dX4_bound_27 : decode cX4_bound 27 = .ok (.aload_n 0, 1) := by decide +kernel
theorem dX4_bound_28 : decode cX4_bound 28 = .ok (.iload_n 1, 1) := by decide +kernel
theorem dX4_bound_29 : decode cX4_bound 29 = .ok (.iload_n 2, 1) := by decide +kernel
theorem dX4_bound_30 : decode cX4_bound 30 = .ok (.invokevirtual 134, 3) := by decide +kernel
theorem dX4_bound_33 : decode cX4_bound 33 = .ok (.aload_n 0, 1) := by decide +kernel
theorem dX4_bound_34 : decode cX4_bound 34 = .ok (.getfield 120, 3) := by decide +kernel
theorem dX4_bound_37 : decode cX4_bound 37 = .ok (.ifCond .eq 9, 3) := by decide +kernel
theorem dX4_bound_40 : decode cX4_bound 40 = .ok (.ldc2_w 95, 3) := by decide +kernel
theorem dX4_bound_43 : decode cX4_bound 43 = .ok (.goto 7, 3) := by decide +kernel
theorem dX4_bound_46 : decode cX4_bound 46 = .ok (.aload_n 0, 1) := by decide +kernel
theorem dX4_bound_47 : decode cX4_bound 47 = .ok (.getfield 123, 3) := by decide +kernel
theorem dX4_bound_50 : decode cX4_bound 50 = .ok (.lreturn, 1) := by decide +kernel
theorem dX4_subset_0 : decode cX4_subset 0 = .ok (.aload_n 0, 1) := by decide +kernel
theorem dX4_subset_1 : decode cX4_subset 1 = .ok (.aload_n 0, 1) := by decide +kernel
theorem dX4_subset_2 : decode cX4_subset 2 = .ok (.iload_n 1, 1) := by decide +kernel
theorem dX4_subset_3 : decode cX4_subset 3 = .ok (.iload_n 2, 1) := by decide +kernel
theorem dX4_subset_4 : decode cX4_subset 4 = .ok (.invokevirtual 88, 3) := by decide +kernel
theorem dX4_subset_7 : decode cX4_subset 7 = .ok (.ifCond .eq 7, 3) := by decide +kernel
theorem dX4_subset_10 : decode cX4_subset 10 = .ok (.iconst 1, 1) := by decide +kernel
theorem dX4_subset_11 : decode cX4_subset 11 = .ok (.goto 4, 3) := by decide +kernel
theorem dX4_subset_14 : decode cX4_subset 14 = .ok (.iconst 0, 1) := by decide +kernel
theorem dX4_subset_15 : decode cX4_subset 15 = .ok (.putfield 49, 3) := by decide +kernel
theorem dX4_subset_18 : decode cX4_subset 18 = .ok (.aload_n 0, 1) := by decide +kernel
theorem dX4_subset_19 : decode cX4_subset 19 = .ok (.getfield 49, 3) := by decide +kernel
theorem dX4_subset_22 : decode cX4_subset 22 = .ok (.ifCond .le 5, 3) := by decide +kernel
theorem dX4_subset_25 : decode cX4_subset 25 = .ok (.lconst 0, 1) := by decide +kernel
theorem dX4_subset_26 : decode cX4_subset 26 = .ok (.lreturn, 1) := by decide +kernel
theorem dX4_subset_27 : decode cX4_subset 27 = .ok (.aload_n 0, 1) := by decide +kernel
theorem dX4_subset_28 : decode cX4_subset 28 = .ok (.iload_n 1, 1) := by decide +kernel
theorem dX4_subset_29 : decode cX4_subset 29 = .ok (.iload_n 2, 1) := by decide +kernel
theorem dX4_subset_30 : decode cX4_subset 30 = .ok (.invokevirtual 134, 3) := by decide +kernel
theorem dX4_subset_33 : decode cX4_subset 33 = .ok (.iload_n 3, 1) := by decide +kernel
theorem dX4_subset_34 : decode cX4_subset 34 = .ok (.ifCond .lt 11, 3) := by decide +kernel
theorem dX4_subset_37 : decode cX4_subset 37 = .ok (.iload_n 3, 1) := by decide +kernel
theorem dX4_subset_38 : decode cX4_subset 38 = .ok (.aload_n 0, 1) := by decide +kernel
theorem dX4_subset_39 : decode cX4_subset 39 = .ok (.getfield 117, 3) := by decide +kernel
theorem dX4_subset_42 : decode cX4_subset 42 = .ok (.if_icmp .lt 7, 3) := by decide +kernel
theorem dX4_subset_45 : decode cX4_subset 45 = .ok (.lconst 0, 1) := by decide +kernel
theorem dX4_subset_46 : decode cX4_subset 46 = .ok (.goto 9, 3) := by decide +kernel
theorem dX4_subset_49 : decode cX4_subset 49 = .ok (.aload_n 0, 1) := by decide +kernel
theorem dX4_subset_50 : decode cX4_subset 50 = .ok (.getfield 19, 3) := by decide +kernel
theorem dX4_subset_53 : decode cX4_subset 53 = .ok (.iload_n 3, 1) := by decide +kernel
theorem dX4_subset_54 : decode cX4_subset 54 = .ok (.laload, 1) := by decide +kernel
theorem dX4_subset_55 : decode cX4_subset 55 = .ok (.lreturn, 1) := by decide +kernel
theorem dX4_firstOf_0 : decode cX4_firstOf 0 = .ok (.iconst (-1), 1) := by decide +kernel
theorem dX4_firstOf_1 : decode cX4_firstOf 1 = .ok (.istore_n 3, 1) := by decide +kernel
theorem dX4_firstOf_2 : decode cX4_firstOf 2 = .ok (.iconst 0, 1) := by decide +kernel
theorem dX4_firstOf_3 : decode cX4_firstOf 3 = .ok (.istore 4, 2) := by decide +kernel
theorem dX4_firstOf_5 : decode cX4_firstOf 5 = .ok (.iconst (-1), 1) := by decide +kernel
theorem dX4_firstOf_6 : decode cX4_firstOf 6 = .ok (.istore 5, 2) := by decide +kernel
theorem dX4_firstOf_8 : decode cX4_firstOf 8 = .ok (.iconst 0, 1) := by decide +kernel
theorem dX4_firstOf_9 : decode cX4_firstOf 9 = .ok (.istore 6, 2) := by decide +kernel
theorem dX4_firstOf_11 : decode cX4_firstOf 11 = .ok (.iload 6, 2) := by decide +kernel
theorem dX4_firstOf_13 : decode cX4_firstOf 13 = .ok (.aload_n 0, 1) := by decide +kernel
theorem dX4_firstOf_14 : decode cX4_firstOf 14 = .ok (.getfield 45, 3) := by decide +kernel
theorem dX4_firstOf_17 : decode cX4_firstOf 17 = .ok (.if_icmp .ge 133, 3) := by decide +kernel
theorem dX4_firstOf_20 : decode cX4_firstOf 20 = .ok (.iconst 0, 1) := by decide +kernel
theorem dX4_firstOf_21 : decode cX4_firstOf 21 = .ok (.istore 7, 2) := by decide +kernel
theorem dX4_firstOf_23 : decode cX4_firstOf 23 = .ok (.iconst 0, 1) := by decide +kernel
theorem dX4_firstOf_24 : decode cX4_firstOf 24 = .ok (.istore 8, 2) := by decide +kernel
theorem dX4_firstOf_26 : decode cX4_firstOf 26 = .ok (.iconst 0, 1) := by decide +kernel
theorem dX4_firstOf_27 : decode cX4_firstOf 27 = .ok (.istore 9, 2) := by decide +kernel
theorem dX4_firstOf_29 : decode cX4_firstOf 29 = .ok (.iload 9, 2) := by decide +kernel
theorem dX4_firstOf_31 : decode cX4_firstOf 31 = .ok (.aload_n 0, 1) := by decide +kernel
theorem dX4_firstOf_32 : decode cX4_firstOf 32 = .ok (.getfield 75, 3) := by decide +kernel
theorem dX4_firstOf_35 : decode cX4_firstOf 35 = .ok (.if_icmp .ge 54, 3) := by decide +kernel
theorem dX4_firstOf_38 : decode cX4_firstOf 38 = .ok (.aload_n 0, 1) := by decide +kernel
theorem dX4_firstOf_39 : decode cX4_firstOf 39 = .ok (.iload 9, 2) := by decide +kernel
