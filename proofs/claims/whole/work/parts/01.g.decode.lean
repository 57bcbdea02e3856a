theorem dX4_clause_117 : decode cX4_clause 117 = .ok (.invokestatic 67, 3) := by decide +kernel
theorem dX4_clause_120 : decode cX4_clause 120 = .ok (.ior, 1) := by decide +kernel
theorem dX4_clause_121 : decode cX4_clause 121 = .ok (.iload 5, 2) := by decide +kernel
theorem dX4_clause_123 : decode cX4_clause 123 = .ok (.iconst 0, 1) := by decide +kernel
theorem dX4_clause_124 : decode cX4_clause 124 = .ok (.invokestatic 67, 3) := by decide +kernel
theorem dX4_clause_127 : decode cX4_clause 127 = .ok (.ior, 1) := by decide +kernel
theorem dX4_clause_128 : decode cX4_clause 128 = .ok (.istore 8, 2) := by decide +kernel
theorem dX4_clause_130 : decode cX4_clause 130 = .ok (.iload 6, 2) := by decide +kernel
theorem dX4_clause_132 : decode cX4_clause 132 = .ok (.ifCond .eq 7, 3) := by decide +kernel
theorem dX4_clause_135 : decode cX4_clause 135 = .ok (.iconst 0, 1) := by decide +kernel
theorem dX4_clause_136 : decode cX4_clause 136 = .ok (.goto 28, 3) := by decide +kernel
theorem dX4_clause_139 : decode cX4_clause 139 = .ok (.iload_n 2, 1) := by decide +kernel
theorem dX4_clause_140 : decode cX4_clause 140 = .ok (.iconst 1, 1) := by decide +kernel
theorem dX4_clause_141 : decode cX4_clause 141 = .ok (.invokestatic 67, 3) := by decide +kernel
theorem dX4_clause_144 : decode cX4_clause 144 = .ok (.iload_n 3, 1) := by decide +kernel
theorem dX4_clause_145 : decode cX4_clause 145 = .ok (.iconst 1, 1) := by decide +kernel
theorem dX4_clause_146 : decode cX4_clause 146 = .ok (.invokestatic 67, 3) := by decide +kernel
theorem dX4_clause_149 : decode cX4_clause 149 = .ok (.ior, 1) := by decide +kernel
theorem dX4_clause_150 : decode cX4_clause 150 = .ok (.iload 4, 2) := by decide +kernel
theorem dX4_clause_152 : decode cX4_clause 152 = .ok (.iconst 1, 1) := by decide +kernel
theorem dX4_clause_153 : decode cX4_clause 153 = .ok (.invokestatic 67, 3) := by decide +kernel
theorem dX4_clause_156 : decode cX4_clause 156 = .ok (.ior, 1) := by decide +kernel
theorem dX4_clause_157 : decode cX4_clause 157 = .ok (.iload 5, 2) := by decide +kernel
theorem dX4_clause_159 : decode cX4_clause 159 = .ok (.iconst 1, 1) := by decide +kernel
theorem dX4_clause_160 : decode cX4_clause 160 = .ok (.invokestatic 67, 3) := by decide +kernel
theorem dX4_clause_163 : decode cX4_clause 163 = .ok (.ior, 1) := by decide +kernel
theorem dX4_clause_164 : decode cX4_clause 164 = .ok (.istore 9, 2) := by decide +kernel
theorem dX4_clause_166 : decode cX4_clause 166 = .ok (.aload_n 0, 1) := by decide +kernel
theorem dX4_clause_167 : decode cX4_clause 167 = .ok (.iload 6, 2) := by decide +kernel
theorem dX4_clause_169 : decode cX4_clause 169 = .ok (.ifCond .ne 21, 3) := by decide +kernel
theorem dX4_clause_172 : decode cX4_clause 172 = .ok (.iload 7, 2) := by decide +kernel
theorem dX4_clause_174 : decode cX4_clause 174 = .ok (.ifCond .eq 16, 3) := by decide +kernel
theorem dX4_clause_177 : decode cX4_clause 177 = .ok (.iload 8, 2) := by decide +kernel
theorem dX4_clause_179 : decode cX4_clause 179 = .ok (.iload 9, 2) := by decide +kernel
theorem dX4_clause_181 : decode cX4_clause 181 = .ok (.ior, 1) := by decide +kernel
theorem dX4_clause_182 : decode cX4_clause 182 = .ok (.invokestatic 71, 3) := by decide +kernel
theorem dX4_clause_185 : decode cX4_clause 185 = .ok (.iload 7, 2) := by decide +kernel
theorem dX4_clause_187 : decode cX4_clause 187 = .ok (.if_icmp .ge 7, 3) := by decide +kernel
theorem dX4_clause_190 : decode cX4_clause 190 = .ok (.iconst 1, 1) := by decide +kernel
theorem dX4_clause_191 : decode cX4_clause 191 = .ok (.goto 17, 3) := by decide +kernel
theorem dX4_clause_194 : decode cX4_clause 194 = .ok (.aload_n 0, 1) := by decide +kernel
theorem dX4_clause_195 : decode cX4_clause 195 = .ok (.getfield 75, 3) := by decide +kernel
theorem dX4_clause_198 : decode cX4_clause 198 = .ok (.bipush 40, 2) := by decide +kernel
theorem dX4_clause_200 : decode cX4_clause 200 = .ok (.if_icmp .ne 7, 3) := by decide +kernel
theorem dX4_clause_203 : decode cX4_clause 203 = .ok (.iconst 2, 1) := by decide +kernel
theorem dX4_clause_204 : decode cX4_clause 204 = .ok (.goto 4, 3) := by decide +kernel
theorem dX4_clause_207 : decode cX4_clause 207 = .ok (.iconst 0, 1) := by decide +kernel
theorem dX4_clause_208 : decode cX4_clause 208 = .ok (.putfield 49, 3) := by decide +kernel
theorem dX4_clause_211 : decode cX4_clause 211 = .ok (.aload_n 0, 1) := by decide +kernel
theorem dX4_clause_212 : decode cX4_clause 212 = .ok (.getfield 49, 3) := by decide +kernel
theorem dX4_clause_215 : decode cX4_clause 215 = .ok (.ifCond .le 5, 3) := by decide +kernel
theorem dX4_clause_218 : decode cX4_clause 218 = .ok (.iconst 0, 1) := by decide +kernel
theorem dX4_clause_219 : decode cX4_clause 219 = .ok (.ireturn, 1) := by decide +kernel
theorem dX4_clause_220 : decode cX4_clause 220 = .ok (.aload_n 0, 1) := by decide +kernel
theorem dX4_clause_221 : decode cX4_clause 221 = .ok (.getfield 7, 3) := by decide +kernel
theorem dX4_clause_224 : decode cX4_clause 224 = .ok (.aload_n 0, 1) := by decide +kernel
theorem dX4_clause_225 : decode cX4_clause 225 = .ok (.getfield 75, 3) := by decide +kernel
theorem dX4_clause_228 : decode cX4_clause 228 = .ok (.iload 8, 2) := by decide +kernel
theorem dX4_clause_230 : decode cX4_clause 230 = .ok (.iastore, 1) := by decide +kernel
theorem dX4_clause_231 : decode cX4_clause 231 = .ok (.aload_n 0, 1) := by decide +kernel
theorem dX4_clause_232 : decode cX4_clause 232 = .ok (.getfield 13, 3) := by decide +kernel
theorem dX4_clause_235 : decode cX4_clause 235 = .ok (.aload_n 0, 1) := by decide +kernel
theorem dX4_clause_236 : decode cX4_clause 236 = .ok (.getfield 75, 3) := by decide +kernel
theorem dX4_clause_239 : decode cX4_clause 239 = .ok (.iload 9, 2) := by decide +kernel
theorem dX4_clause_241 : decode cX4_clause 241 = .ok (.iastore, 1) := by decide +kernel
theorem dX4_clause_242 : decode cX4_clause 242 = .ok (.aload_n 0, 1) := by decide +kernel
theorem dX4_clause_243 : decode cX4_clause 243 = .ok (.getfield 16, 3) := by decide +kernel
theorem dX4_clause_246 : decode cX4_clause 246 = .ok (.aload_n 0, 1) := by decide +kernel
theorem dX4_clause_247 : decode cX4_clause 247 = .ok (.getfield 75, 3) := by decide +kernel
theorem dX4_clause_250 : decode cX4_clause 250 = .ok (.iload_n 1, 1) := by decide +kernel
theorem dX4_clause_251 : decode cX4_clause 251 = .ok (.iastore, 1) := by decide +kernel
theorem dX4_clause_252 : decode cX4_clause 252 = .ok (.aload_n 0, 1) := by decide +kernel
theorem dX4_clause_253 : decode cX4_clause 253 = .ok (.dup, 1) := by decide +kernel
theorem dX4_clause_254 : decode cX4_clause 254 = .ok (.getfield 75, 3) := by decide +kernel
theorem dX4_clause_257 : decode cX4_clause 257 = .ok (.iconst 1, 1) := by decide +kernel
theorem dX4_clause_258 : decode cX4_clause 258 = .ok (.iadd, 1) := by decide +kernel
theorem dX4_clause_259 : decode cX4_clause 259 = .ok (.putfield 75, 3) := by decide +kernel
theorem dX4_clause_262 : decode cX4_clause 262 = .ok (.aload_n 0, 1) := by decide +kernel
theorem dX4_clause_263 : decode cX4_clause 263 = .ok (.invokevirtual 78, 3) := by decide +kernel
theorem dX4_clause_266 : decode cX4_clause 266 = .ok (.aload_n 0, 1) := by decide +kernel
theorem dX4_clause_267 : decode cX4_clause 267 = .ok (.getfield 75, 3) := by decide +kernel
theorem dX4_clause_270 : decode cX4_clause 270 = .ok (.iconst 1, 1) := by decide +kernel
theorem dX4_clause_271 : decode cX4_clause 271 = .ok (.isub, 1) := by decide +kernel
theorem dX4_clause_272 : decode cX4_clause 272 = .ok (.ireturn, 1) := by decide +kernel
theorem dX4_drop_0 : decode cX4_drop 0 = .ok (.aload_n 0, 1) := by decide +kernel
theorem dX4_drop_1 : decode cX4_drop 1 = .ok (.iconst 0, 1) := by decide +kernel
theorem dX4_drop_2 : decode cX4_drop 2 = .ok (.putfield 49, 3) := by decide +kernel
theorem dX4_drop_5 : decode cX4_drop 5 = .ok (.aload_n 0, 1) := by decide +kernel
theorem dX4_drop_6 : decode cX4_drop 6 = .ok (.getfield 75, 3) := by decide +kernel
theorem dX4_drop_9 : decode cX4_drop 9 = .ok (.ifCond .ne 5, 3) := by decide +kernel
theorem dX4_drop_12 : decode cX4_drop 12 = .ok (.iconst (-1), 1) := by decide +kernel
theorem dX4_drop_13 : decode cX4_drop 13 = .ok (.ireturn, 1) := by decide +kernel
theorem dX4_drop_14 : decode cX4_drop 14 = .ok (.aload_n 0, 1) := by decide +kernel
theorem dX4_drop_15 : decode cX4_drop 15 = .ok (.dup, 1) := by decide +kernel
theorem dX4_drop_16 : decode cX4_drop 16 = .ok (.getfield 75, 3) := by decide +kernel
theorem dX4_drop_19 : decode cX4_drop 19 = .ok (.iconst 1, 1) := by decide +kernel
theorem dX4_drop_20 : decode cX4_drop 20 = .ok (.isub, 1) := by decide +kernel
theorem dX4_drop_21 : decode cX4_drop 21 = .ok (.putfield 75, 3) := by decide +kernel
theorem dX4_drop_24 : decode cX4_drop 24 = .ok (.aload_n 0, 1) := by decide +kernel
theorem dX4_drop_25 : decode cX4_drop 25 = .ok (.invokevirtual 78, 3) := by decide +kernel
theorem dX4_drop_28 : decode cX4_drop 28 = .ok (.aload_n 0, 1) := by decide +kernel
theorem dX4_drop_29 : decode cX4_drop 29 = .ok (.getfield 75, 3) := by decide +kernel
theorem dX4_drop_32 : decode cX4_drop 32 = .ok (.ireturn, 1) := by decide +kernel
theorem dX4_weigh_0 : decode cX4_weigh 0 = .ok (.aload_n 0, 1) := by decide +kernel
theorem dX4_weigh_1 : decode cX4_weigh 1 = .ok (.iload_n 1, 1) := by decide +kernel
theorem dX4_weigh_2 : decode cX4_weigh 2 = .ok (.ifCond .lt 21, 3) := by decide +kernel
theorem dX4_weigh_5 : decode cX4_weigh 5 = .ok (.iload_n 1, 1) := by decide +kernel
theorem dX4_weigh_6 : decode cX4_weigh 6 = .ok (.aload_n 0, 1) := by decide +kernel
theorem dX4_weigh_7 : decode cX4_weigh 7 = .ok (.getfield 75, 3) := by decide +kernel
theorem dX4_weigh_10 : decode cX4_weigh 10 = .ok (.if_icmp .ge 13, 3) := by decide +kernel
theorem dX4_weigh_13 : decode cX4_weigh 13 = .ok (.iload_n 2, 1) := by decide +kernel
theorem dX4_weigh_14 : decode cX4_weigh 14 = .ok (.ifCond .lt 9, 3) := by decide +kernel
theorem dX4_weigh_17 : decode cX4_weigh 17 = .ok (.iload_n 2, 1) := by decide +kernel
theorem dX4_weigh_18 : decode cX4_weigh 18 = .ok (.ldc 62, 2) := by decide +kernel
theorem dX4_weigh_20 : decode cX4_weigh 20 = .ok (.if_icmp .le 7, 3) := by decide +kernel
theorem dX4_weigh_23 : decode cX4_weigh 23 = .ok (.iconst 1, 1) := by decide +kernel
theorem dX4_weigh_24 : decode cX4_weigh 24 = .ok (.goto 4, 3) := by decide +kernel
theorem dX4_weigh_27 : decode cX4_weigh 27 = .ok (.iconst 0, 1) := by decide +kernel
theorem dX4_weigh_28 : decode cX4_weigh 28 = .ok (.putfield 49, 3) := by decide +kernel
theorem dX4_weigh_31 : decode cX4_weigh 31 = .ok (.aload_n 0, 1) := by decide +kernel
theorem dX4_weigh_32 : decode cX4_weigh 32 = .ok (.getfield 49, 3) := by decide +kernel
theorem dX4_weigh_35 : decode cX4_weigh 35 = .ok (.ifCond .le 5, 3) := by decide +kernel
theorem dX4_weigh_38 : decode cX4_weigh 38 = .ok (.iconst 0, 1) := by decide +kernel
theorem dX4_weigh_39 : decode cX4_weigh 39 = .ok (.ireturn, 1) := by decide +kernel
theorem dX4_weigh_40 : decode cX4_weigh 40 = .ok (.aload_n 0, 1) := by decide +kernel
theorem dX4_weigh_41 : decode cX4_weigh 41 = .ok (.getfield 16, 3) := by decide +kernel
theorem dX4_weigh_44 : decode cX4_weigh 44 = .ok (.iload_n 1, 1) := by decide +kernel
theorem dX4_weigh_45 : decode cX4_weigh 45 = .ok (.iaload, 1) := by decide +kernel
theorem dX4_weigh_46 : decode cX4_weigh 46 = .ok (.istore_n 3, 1) := by decide +kernel
theorem dX4_weigh_47 : decode cX4_weigh 47 = .ok (.aload_n 0, 1) := by decide +kernel
theorem dX4_weigh_48 : decode cX4_weigh 48 = .ok (.getfield 16, 3) := by decide +kernel
theorem dX4_weigh_51 : decode cX4_weigh 51 = .ok (.iload_n 1, 1) := by decide +kernel
theorem dX4_weigh_52 : decode cX4_weigh 52 = .ok (.iload_n 2, 1) := by decide +kernel
theorem dX4_weigh_53 : decode cX4_weigh 53 = .ok (.iastore, 1) := by decide +kernel
theorem dX4_weigh_54 : decode cX4_weigh 54 = .ok (.aload_n 0, 1) := by decide +kernel
theorem dX4_weigh_55 : decode cX4_weigh 55 = .ok (.invokevirtual 78, 3) := by decide +kernel
theorem dX4_weigh_58 : decode cX4_weigh 58 = .ok (.iload_n 3, 1) := by decide +kernel
theorem dX4_weigh_59 : decode cX4_weigh 59 = .ok (.ireturn, 1) := by decide +kernel
theorem dX4_clauses_0 : decode cX4_clauses 0 = .ok (.aload_n 0, 1) := by decide +kernel
theorem dX4_clauses_1 : decode cX4_clauses 1 = .ok (.iconst 0, 1) := by decide +kernel
theorem dX4_clauses_2 : decode cX4_clauses 2 = .ok (.putfield 49, 3) := by decide +kernel
theorem dX4_clauses_5 : decode cX4_clauses 5 = .ok (.aload_n 0, 1) := by decide +kernel
theorem dX4_clauses_6 : decode cX4_clauses 6 = .ok (.getfield 75, 3) := by decide +kernel
theorem dX4_clauses_9 : decode cX4_clauses 9 = .ok (.ireturn, 1) := by decide +kernel
theorem dX4_noState_0 : decode cX4_noState 0 = .ok (.iload_n 1, 1) := by decide +kernel
theorem dX4_noState_1 : decode cX4_noState 1 = .ok (.ifCond .lt 21, 3) := by decide +kernel
theorem dX4_noState_4 : decode cX4_noState 4 = .ok (.iload_n 1, 1) := by decide +kernel
theorem dX4_noState_5 : decode cX4_noState 5 = .ok (.iconst 1, 1) := by decide +kernel
theorem dX4_noState_6 : decode cX4_noState 6 = .ok (.aload_n 0, 1) := by decide +kernel
theorem dX4_noState_7 : decode cX4_noState 7 = .ok (.getfield 45, 3) := by decide +kernel
theorem dX4_noState_10 : decode cX4_noState 10 = .ok (.ishl, 1) := by decide +kernel
theorem dX4_noState_11 : decode cX4_noState 11 = .ok (.if_icmp .ge 11, 3) := by decide +kernel
theorem dX4_noState_14 : decode cX4_noState 14 = .ok (.iload_n 2, 1) := by decide +kernel
theorem dX4_noState_15 : decode cX4_noState 15 = .ok (.iload_n 1, 1) := by decide +kernel
theorem dX4_noState_16 : decode cX4_noState 16 = .ok (.iconst (-1), 1) := by decide +kernel
theorem dX4_noState_17 : decode cX4_noState 17 = .ok (.ixor, 1) := by decide +kernel
theorem dX4_noState_18 : decode cX4_noState 18 = .ok (.iand, 1) := by decide +kernel
theorem dX4_noState_19 : decode cX4_noState 19 = .ok (.ifCond .eq 7, 3) := by decide +kernel
theorem dX4_noState_22 : decode cX4_noState 22 = .ok (.iconst 1, 1) := by decide +kernel
theorem dX4_noState_23 : decode cX4_noState 23 = .ok (.goto 4, 3) := by decide +kernel
theorem dX4_noState_26 : decode cX4_noState 26 = .ok (.iconst 0, 1) := by decide +kernel
theorem dX4_noState_27 : decode cX4_noState 27 = .ok (.ireturn, 1) := by decide +kernel
theorem dX4_isTrue_0 : decode cX4_isTrue 0 = .ok (.aload_n 0, 1) := by decide +kernel
theorem dX4_isTrue_1 : decode cX4_isTrue 1 = .ok (.getfield 7, 3) := by decide +kernel
theorem dX4_isTrue_4 : decode cX4_isTrue 4 = .ok (.iload_n 1, 1) := by decide +kernel
theorem dX4_isTrue_5 : decode cX4_isTrue 5 = .ok (.iaload, 1) := by decide +kernel
theorem dX4_isTrue_6 : decode cX4_isTrue 6 = .ok (.iload_n 3, 1) := by decide +kernel
theorem dX4_isTrue_7 : decode cX4_isTrue 7 = .ok (.iand, 1) := by decide +kernel
theorem dX4_isTrue_8 : decode cX4_isTrue 8 = .ok (.ifCond .ne 18, 3) := by decide +kernel
theorem dX4_isTrue_11 : decode cX4_isTrue 11 = .ok (.aload_n 0, 1) := by decide +kernel
theorem dX4_isTrue_12 : decode cX4_isTrue 12 = .ok (.getfield 13, 3) := by decide +kernel
theorem dX4_isTrue_15 : decode cX4_isTrue 15 = .ok (.iload_n 1, 1) := by decide +kernel
theorem dX4_isTrue_16 : decode cX4_isTrue 16 = .ok (.iaload, 1) := by decide +kernel
theorem dX4_isTrue_17 : decode cX4_isTrue 17 = .ok (.iload_n 2, 1) := by decide +kernel
theorem dX4_isTrue_18 : decode cX4_isTrue 18 = .ok (.iand, 1) := by decide +kernel
theorem dX4_isTrue_19 : decode cX4_isTrue 19 = .ok (.iload_n 3, 1) := by decide +kernel
theorem dX4_isTrue_20 : decode cX4_isTrue 20 = .ok (.iconst (-1), 1) := by decide +kernel
theorem dX4_isTrue_21 : decode cX4_isTrue 21 = .ok (.ixor, 1) := by decide +kernel
theorem dX4_isTrue_22 : decode cX4_isTrue 22 = .ok (.iand, 1) := by decide +kernel
theorem dX4_isTrue_23 : decode cX4_isTrue 23 = .ok (.ifCond .eq 7, 3) := by decide +kernel
theorem dX4_isTrue_26 : decode cX4_isTrue 26 = .ok (.iconst 1, 1) := by decide +kernel
theorem dX4_isTrue_27 : decode cX4_isTrue 27 = .ok (.goto 4, 3) := by decide +kernel
theorem dX4_isTrue_30 : decode cX4_isTrue 30 = .ok (.iconst 0, 1) := by decide +kernel
theorem dX4_isTrue_31 : decode cX4_isTrue 31 = .ok (.ireturn, 1) := by decide +kernel
theorem dX4_isFalse_0 : decode cX4_isFalse 0 = .ok (.aload_n 0, 1) := by decide +kernel
theorem dX4_isFalse_1 : decode cX4_isFalse 1 = .ok (.iload_n 1, 1) := by decide +kernel
theorem dX4_isFalse_2 : decode cX4_isFalse 2 = .ok (.iload_n 2, 1) := by decide +kernel
theorem dX4_isFalse_3 : decode cX4_isFalse 3 = .ok (.iload_n 3, 1) := by decide +kernel
theorem dX4_isFalse_4 : decode cX4_isFalse 4 = .ok (.invokevirtual 81, 3) := by decide +kernel
theorem dX4_isFalse_7 : decode cX4_isFalse 7 = .ok (.ifCond .ne 27, 3) := by decide +kernel
theorem dX4_isFalse_10 : decode cX4_isFalse 10 = .ok (.aload_n 0, 1) := by decide +kernel
theorem dX4_isFalse_11 : decode cX4_isFalse 11 = .ok (.getfield 7, 3) := by decide +kernel
theorem dX4_isFalse_14 : decode cX4_isFalse 14 = .ok (.iload_n 1, 1) := by decide +kernel
theorem dX4_isFalse_15 : decode cX4_isFalse 15 = .ok (.iaload, 1) := by decide +kernel
theorem dX4_isFalse_16 : decode cX4_isFalse 16 = .ok (.aload_n 0, 1) := by decide +kernel
theorem dX4_isFalse_17 : decode cX4_isFalse 17 = .ok (.getfield 13, 3) := by decide +kernel
theorem dX4_isFalse_20 : decode cX4_isFalse 20 = .ok (.iload_n 1, 1) := by decide +kernel
theorem dX4_isFalse_21 : decode cX4_isFalse 21 = .ok (.iaload, 1) := by decide +kernel
theorem dX4_isFalse_22 : decode cX4_isFalse 22 = .ok (.ior, 1) := by decide +kernel
theorem dX4_isFalse_23 : decode cX4_isFalse 23 = .ok (.iload_n 2, 1) := by decide +kernel
theorem dX4_isFalse_24 : decode cX4_isFalse 24 = .ok (.iconst (-1), 1) := by decide +kernel
theorem dX4_isFalse_25 : decode cX4_isFalse 25 = .ok (.ixor, 1) := by decide +kernel
theorem dX4_isFalse_26 : decode cX4_isFalse 26 = .ok (.iand, 1) := by decide +kernel
theorem dX4_isFalse_27 : decode cX4_isFalse 27 = .ok (.ifCond .ne 7, 3) := by decide +kernel
theorem dX4_isFalse_30 : decode cX4_isFalse 30 = .ok (.iconst 1, 1) := by decide +kernel
theorem dX4_isFalse_31 : decode cX4_isFalse 31 = .ok (.goto 4, 3) := by decide +kernel
theorem dX4_isFalse_34 : decode cX4_isFalse 34 = .ok (.iconst 0, 1) := by decide +kernel
theorem dX4_isFalse_35 : decode cX4_isFalse 35 = .ok (.ireturn, 1) := by decide +kernel
theorem dX4_isOpen_0 : decode cX4_isOpen 0 = .ok (.aload_n 0, 1) := by decide +kernel
theorem dX4_isOpen_1 : decode cX4_isOpen 1 = .ok (.iload_n 1, 1) := by decide +kernel
theorem dX4_isOpen_2 : decode cX4_isOpen 2 = .ok (.iload_n 2, 1) := by decide +kernel
theorem dX4_isOpen_3 : decode cX4_isOpen 3 = .ok (.iload_n 3, 1) := by decide +kernel
theorem dX4_isOpen_4 : decode cX4_isOpen 4 = .ok (.invokevirtual 81, 3) := by decide +kernel
theorem dX4_isOpen_7 : decode cX4_isOpen 7 = .ok (.ifCond .ne 27, 3) := by decide +kernel
theorem dX4_isOpen_10 : decode cX4_isOpen 10 = .ok (.aload_n 0, 1) := by decide +kernel
theorem dX4_isOpen_11 : decode cX4_isOpen 11 = .ok (.getfield 7, 3) := by decide +kernel
theorem dX4_isOpen_14 : decode cX4_isOpen 14 = .ok (.iload_n 1, 1) := by decide +kernel
theorem dX4_isOpen_15 : decode cX4_isOpen 15 = .ok (.iaload, 1) := by decide +kernel
theorem dX4_isOpen_16 : decode cX4_isOpen 16 = .ok (.aload_n 0, 1) := by decide +kernel
theorem dX4_isOpen_17 : decode cX4_isOpen 17 = .ok (.getfield 13, 3) := by decide +kernel
theorem dX4_isOpen_20 : decode cX4_isOpen 20 = .ok (.iload_n 1, 1) := by decide +kernel
theorem dX4_isOpen_21 : decode cX4_isOpen 21 = .ok (.iaload, 1) := by decide +kernel
theorem dX4_isOpen_22 : decode cX4_isOpen 22 = .ok (.ior, 1) := by decide +kernel
theorem dX4_isOpen_23 : decode cX4_isOpen 23 = .ok (.iload_n 2, 1) := by decide +kernel
theorem dX4_isOpen_24 : decode cX4_isOpen 24 = .ok (.iconst (-1), 1) := by decide +kernel
theorem dX4_isOpen_25 : decode cX4_isOpen 25 = .ok (.ixor, 1) := by decide +kernel
theorem dX4_isOpen_26 : decode cX4_isOpen 26 = .ok (.iand, 1) := by decide +kernel
theorem dX4_isOpen_27 : decode cX4_isOpen 27 = .ok (.ifCond .eq 7, 3) := by decide +kernel
theorem dX4_isOpen_30 : decode cX4_isOpen 30 = .ok (.iconst 1, 1) := by decide +kernel
theorem dX4_isOpen_31 : decode cX4_isOpen 31 = .ok (.goto 4, 3) := by decide +kernel
theorem dX4_isOpen_34 : decode cX4_isOpen 34 = .ok (.iconst 0, 1) := by decide +kernel
theorem dX4_isOpen_35 : decode cX4_isOpen 35 = .ok (.ireturn, 1) := by decide +kernel
theorem dX4_costOf_0 : decode cX4_costOf 0 = .ok (.lconst 0, 1) := by decide +kernel
theorem dX4_costOf_1 : decode cX4_costOf 1 = .ok (.lstore_n 3, 1) := by decide +kernel
theorem dX4_costOf_2 : decode cX4_costOf 2 = .ok (.iconst 0, 1) := by decide +kernel
theorem dX4_costOf_3 : decode cX4_costOf 3 = .ok (.istore 5, 2) := by decide +kernel
theorem dX4_costOf_5 : decode cX4_costOf 5 = .ok (.iload 5, 2) := by decide +kernel
theorem dX4_costOf_7 : decode cX4_costOf 7 = .ok (.aload_n 0, 1) := by decide +kernel
theorem dX4_costOf_8 : decode cX4_costOf 8 = .ok (.getfield 75, 3) := by decide +kernel
theorem dX4_costOf_11 : decode cX4_costOf 11 = .ok (.if_icmp .ge 31, 3) := by decide +kernel
theorem dX4_costOf_14 : decode cX4_costOf 14 = .ok (.aload_n 0, 1) := by decide +kernel
theorem dX4_costOf_15 : decode cX4_costOf 15 = .ok (.iload 5, 2) := by decide +kernel
theorem dX4_costOf_17 : decode cX4_costOf 17 = .ok (.iload_n 1, 1) := by decide +kernel
theorem dX4_costOf_18 : decode cX4_costOf 18 = .ok (.iload_n 2, 1) := by decide +kernel
theorem dX4_costOf_19 : decode cX4_costOf 19 = .ok (.invokevirtual 85, 3) := by decide +kernel
theorem dX4_costOf_22 : decode cX4_costOf 22 = .ok (.ifCond .eq 14, 3) := by decide +kernel
theorem dX4_costOf_25 : decode cX4_costOf 25 = .ok (.lload_n 3, 1) := by decide +kernel
theorem dX4_costOf_26 : decode cX4_costOf 26 = .ok (.aload_n 0, 1) := by decide +kernel
theorem dX4_costOf_27 : decode cX4_costOf 27 = .ok (.getfield 16, 3) := by decide +kernel
theorem dX4_costOf_30 : decode cX4_costOf 30 = .ok (.iload 5, 2) := by decide +kernel
theorem dX4_costOf_32 : decode cX4_costOf 32 = .ok (.iaload, 1) := by decide +kernel
theorem dX4_costOf_33 : decode cX4_costOf 33 = .ok (.i2l, 1) := by decide +kernel
theorem dX4_costOf_34 : decode cX4_costOf 34 = .ok (.ladd, 1) := by decide +kernel
theorem dX4_costOf_35 : decode cX4_costOf 35 = .ok (.lstore_n 3, 1) := by decide +kernel
theorem dX4_costOf_36 : decode cX4_costOf 36 = .ok (.iinc 5 1, 3) := by decide +kernel
theorem dX4_costOf_39 : decode cX4_costOf 39 = .ok (.goto (-34), 3) := by decide +kernel
theorem dX4_costOf_42 : decode cX4_costOf 42 = .ok (.lload_n 3, 1) := by decide +kernel
theorem dX4_costOf_43 : decode cX4_costOf 43 = .ok (.lreturn, 1) := by decide +kernel
theorem dX4_breaks_0 : decode cX4_breaks 0 = .ok (.iconst 0, 1) := by decide +kernel
theorem dX4_breaks_1 : decode cX4_breaks 1 = .ok (.istore_n 3, 1) := by decide +kernel
