theorem d_Mo_split_179 : decode b_Mo_split 179 = .ok (.aload_n 0, 1) := by decide +kernel
theorem d_Mo_split_180 : decode b_Mo_split 180 = .ok (.getfield 52, 3) := by decide +kernel
theorem d_Mo_split_183 : decode b_Mo_split 183 = .ok (.bipush 17, 2) := by decide +kernel
theorem d_Mo_split_185 : decode b_Mo_split 185 = .ok (.iload 10, 2) := by decide +kernel
theorem d_Mo_split_187 : decode b_Mo_split 187 = .ok (.imul, 1) := by decide +kernel
theorem d_Mo_split_188 : decode b_Mo_split 188 = .ok (.bipush 17, 2) := by decide +kernel
theorem d_Mo_split_190 : decode b_Mo_split 190 = .ok (.iadd, 1) := by decide +kernel
theorem d_Mo_split_191 : decode b_Mo_split 191 = .ok (.iload 9, 2) := by decide +kernel
theorem d_Mo_split_193 : decode b_Mo_split 193 = .ok (.iadd, 1) := by decide +kernel
theorem d_Mo_split_194 : decode b_Mo_split 194 = .ok (.iload 11, 2) := by decide +kernel
theorem d_Mo_split_196 : decode b_Mo_split 196 = .ok (.isub, 1) := by decide +kernel
theorem d_Mo_split_197 : decode b_Mo_split 197 = .ok (.laload, 1) := by decide +kernel
theorem d_Mo_split_198 : decode b_Mo_split 198 = .ok (.invokestatic 127, 3) := by decide +kernel
theorem d_Mo_split_201 : decode b_Mo_split 201 = .ok (.lstore 12, 2) := by decide +kernel
theorem d_Mo_split_203 : decode b_Mo_split 203 = .ok (.goto (-63), 3) := by decide +kernel
theorem d_Mo_split_206 : decode b_Mo_split 206 = .ok (.iload 9, 2) := by decide +kernel
theorem d_Mo_split_208 : decode b_Mo_split 208 = .ok (.iload 11, 2) := by decide +kernel
theorem d_Mo_split_210 : decode b_Mo_split 210 = .ok (.isub, 1) := by decide +kernel
theorem d_Mo_split_211 : decode b_Mo_split 211 = .ok (.istore 9, 2) := by decide +kernel
theorem d_Mo_split_213 : decode b_Mo_split 213 = .ok (.aload_n 0, 1) := by decide +kernel
theorem d_Mo_split_214 : decode b_Mo_split 214 = .ok (.getfield 52, 3) := by decide +kernel
theorem d_Mo_split_217 : decode b_Mo_split 217 = .ok (.bipush 17, 2) := by decide +kernel
theorem d_Mo_split_219 : decode b_Mo_split 219 = .ok (.iload 10, 2) := by decide +kernel
theorem d_Mo_split_221 : decode b_Mo_split 221 = .ok (.imul, 1) := by decide +kernel
theorem d_Mo_split_222 : decode b_Mo_split 222 = .ok (.bipush 17, 2) := by decide +kernel
theorem d_Mo_split_224 : decode b_Mo_split 224 = .ok (.iadd, 1) := by decide +kernel
theorem d_Mo_split_225 : decode b_Mo_split 225 = .ok (.iload 9, 2) := by decide +kernel
theorem d_Mo_split_227 : decode b_Mo_split 227 = .ok (.iadd, 1) := by decide +kernel
theorem d_Mo_split_228 : decode b_Mo_split 228 = .ok (.laload, 1) := by decide +kernel
theorem d_Mo_split_229 : decode b_Mo_split 229 = .ok (.lstore 14, 2) := by decide +kernel
theorem d_Mo_split_231 : decode b_Mo_split 231 = .ok (.aload_n 0, 1) := by decide +kernel
theorem d_Mo_split_232 : decode b_Mo_split 232 = .ok (.getfield 70, 3) := by decide +kernel
theorem d_Mo_split_235 : decode b_Mo_split 235 = .ok (.iload 10, 2) := by decide +kernel
theorem d_Mo_split_237 : decode b_Mo_split 237 = .ok (.iload 11, 2) := by decide +kernel
theorem d_Mo_split_239 : decode b_Mo_split 239 = .ok (.iastore, 1) := by decide +kernel
theorem d_Mo_split_240 : decode b_Mo_split 240 = .ok (.aload_n 0, 1) := by decide +kernel
theorem d_Mo_split_241 : decode b_Mo_split 241 = .ok (.getfield 73, 3) := by decide +kernel
theorem d_Mo_split_244 : decode b_Mo_split 244 = .ok (.iload 10, 2) := by decide +kernel
theorem d_Mo_split_246 : decode b_Mo_split 246 = .ok (.lload 5, 2) := by decide +kernel
theorem d_Mo_split_248 : decode b_Mo_split 248 = .ok (.lload 14, 2) := by decide +kernel
theorem d_Mo_split_250 : decode b_Mo_split 250 = .ok (.ldiv, 1) := by decide +kernel
theorem d_Mo_split_251 : decode b_Mo_split 251 = .ok (.lastore, 1) := by decide +kernel
theorem d_Mo_split_252 : decode b_Mo_split 252 = .ok (.lload 5, 2) := by decide +kernel
theorem d_Mo_split_254 : decode b_Mo_split 254 = .ok (.lload 14, 2) := by decide +kernel
theorem d_Mo_split_256 : decode b_Mo_split 256 = .ok (.lrem, 1) := by decide +kernel
theorem d_Mo_split_257 : decode b_Mo_split 257 = .ok (.lstore 5, 2) := by decide +kernel
theorem d_Mo_split_259 : decode b_Mo_split 259 = .ok (.iinc 10 1, 3) := by decide +kernel
theorem d_Mo_split_262 : decode b_Mo_split 262 = .ok (.goto (-171), 3) := by decide +kernel
theorem d_Mo_split_265 : decode b_Mo_split 265 = .ok (.aload_n 0, 1) := by decide +kernel
theorem d_Mo_split_266 : decode b_Mo_split 266 = .ok (.getfield 13, 3) := by decide +kernel
theorem d_Mo_split_269 : decode b_Mo_split 269 = .ok (.iload 7, 2) := by decide +kernel
theorem d_Mo_split_271 : decode b_Mo_split 271 = .ok (.iaload, 1) := by decide +kernel
theorem d_Mo_split_272 : decode b_Mo_split 272 = .ok (.iconst 1, 1) := by decide +kernel
theorem d_Mo_split_273 : decode b_Mo_split 273 = .ok (.isub, 1) := by decide +kernel
theorem d_Mo_split_274 : decode b_Mo_split 274 = .ok (.istore 10, 2) := by decide +kernel
theorem d_Mo_split_276 : decode b_Mo_split 276 = .ok (.iload 10, 2) := by decide +kernel
theorem d_Mo_split_278 : decode b_Mo_split 278 = .ok (.ifCond .lt 35, 3) := by decide +kernel
theorem d_Mo_split_281 : decode b_Mo_split 281 = .ok (.aload_n 0, 1) := by decide +kernel
theorem d_Mo_split_282 : decode b_Mo_split 282 = .ok (.aload_n 0, 1) := by decide +kernel
theorem d_Mo_split_283 : decode b_Mo_split 283 = .ok (.iload 7, 2) := by decide +kernel
theorem d_Mo_split_285 : decode b_Mo_split 285 = .ok (.iload 10, 2) := by decide +kernel
theorem d_Mo_split_287 : decode b_Mo_split 287 = .ok (.invokevirtual 96, 3) := by decide +kernel
theorem d_Mo_split_290 : decode b_Mo_split 290 = .ok (.aload_n 0, 1) := by decide +kernel
theorem d_Mo_split_291 : decode b_Mo_split 291 = .ok (.getfield 70, 3) := by decide +kernel
theorem d_Mo_split_294 : decode b_Mo_split 294 = .ok (.iload 10, 2) := by decide +kernel
theorem d_Mo_split_296 : decode b_Mo_split 296 = .ok (.iaload, 1) := by decide +kernel
theorem d_Mo_split_297 : decode b_Mo_split 297 = .ok (.aload_n 0, 1) := by decide +kernel
theorem d_Mo_split_298 : decode b_Mo_split 298 = .ok (.getfield 73, 3) := by decide +kernel
theorem d_Mo_split_301 : decode b_Mo_split 301 = .ok (.iload 10, 2) := by decide +kernel
theorem d_Mo_split_303 : decode b_Mo_split 303 = .ok (.laload, 1) := by decide +kernel
theorem d_Mo_split_304 : decode b_Mo_split 304 = .ok (.invokevirtual 159, 3) := by decide +kernel
theorem d_Mo_split_307 : decode b_Mo_split 307 = .ok (.iinc 10 (-1), 3) := by decide +kernel
theorem d_Mo_split_310 : decode b_Mo_split 310 = .ok (.goto (-34), 3) := by decide +kernel
theorem d_Mo_split_313 : decode b_Mo_split 313 = .ok (.iload 7, 2) := by decide +kernel
theorem d_Mo_split_315 : decode b_Mo_split 315 = .ok (.ireturn, 1) := by decide +kernel
theorem d_Mo_sum_0 : decode b_Mo_sum 0 = .ok (.lload_n 0, 1) := by decide +kernel
theorem d_Mo_sum_1 : decode b_Mo_sum 1 = .ok (.lload_n 2, 1) := by decide +kernel
theorem d_Mo_sum_2 : decode b_Mo_sum 2 = .ok (.ladd, 1) := by decide +kernel
theorem d_Mo_sum_3 : decode b_Mo_sum 3 = .ok (.ldc2_w 120, 3) := by decide +kernel
theorem d_Mo_sum_6 : decode b_Mo_sum 6 = .ok (.lcmp, 1) := by decide +kernel
theorem d_Mo_sum_7 : decode b_Mo_sum 7 = .ok (.ifCond .le 9, 3) := by decide +kernel
theorem d_Mo_sum_10 : decode b_Mo_sum 10 = .ok (.ldc2_w 122, 3) := by decide +kernel
theorem d_Mo_sum_13 : decode b_Mo_sum 13 = .ok (.goto 6, 3) := by decide +kernel
theorem d_Mo_sum_16 : decode b_Mo_sum 16 = .ok (.lload_n 0, 1) := by decide +kernel
theorem d_Mo_sum_17 : decode b_Mo_sum 17 = .ok (.lload_n 2, 1) := by decide +kernel
theorem d_Mo_sum_18 : decode b_Mo_sum 18 = .ok (.ladd, 1) := by decide +kernel
theorem d_Mo_sum_19 : decode b_Mo_sum 19 = .ok (.lreturn, 1) := by decide +kernel
theorem d_Mo_symbol_0 : decode b_Mo_symbol 0 = .ok (.iload_n 1, 1) := by decide +kernel
theorem d_Mo_symbol_1 : decode b_Mo_symbol 1 = .ok (.ifCond .lt 18, 3) := by decide +kernel
theorem d_Mo_symbol_4 : decode b_Mo_symbol 4 = .ok (.iload_n 1, 1) := by decide +kernel
theorem d_Mo_symbol_5 : decode b_Mo_symbol 5 = .ok (.bipush 24, 2) := by decide +kernel
theorem d_Mo_symbol_7 : decode b_Mo_symbol 7 = .ok (.if_icmp .ge 12, 3) := by decide +kernel
theorem d_Mo_symbol_10 : decode b_Mo_symbol 10 = .ok (.aload_n 0, 1) := by decide +kernel
theorem d_Mo_symbol_11 : decode b_Mo_symbol 11 = .ok (.getfield 79, 3) := by decide +kernel
theorem d_Mo_symbol_14 : decode b_Mo_symbol 14 = .ok (.bipush 6, 2) := by decide +kernel
theorem d_Mo_symbol_16 : decode b_Mo_symbol 16 = .ok (.if_icmp .ne 5, 3) := by decide +kernel
theorem d_Mo_symbol_19 : decode b_Mo_symbol 19 = .ok (.iconst (-1), 1) := by decide +kernel
theorem d_Mo_symbol_20 : decode b_Mo_symbol 20 = .ok (.ireturn, 1) := by decide +kernel
theorem d_Mo_symbol_21 : decode b_Mo_symbol 21 = .ok (.aload_n 0, 1) := by decide +kernel
theorem d_Mo_symbol_22 : decode b_Mo_symbol 22 = .ok (.getfield 19, 3) := by decide +kernel
theorem d_Mo_symbol_25 : decode b_Mo_symbol 25 = .ok (.aload_n 0, 1) := by decide +kernel
theorem d_Mo_symbol_26 : decode b_Mo_symbol 26 = .ok (.getfield 79, 3) := by decide +kernel
theorem d_Mo_symbol_29 : decode b_Mo_symbol 29 = .ok (.iload_n 1, 1) := by decide +kernel
theorem d_Mo_symbol_30 : decode b_Mo_symbol 30 = .ok (.iastore, 1) := by decide +kernel
theorem d_Mo_symbol_31 : decode b_Mo_symbol 31 = .ok (.aload_n 0, 1) := by decide +kernel
theorem d_Mo_symbol_32 : decode b_Mo_symbol 32 = .ok (.dup, 1) := by decide +kernel
theorem d_Mo_symbol_33 : decode b_Mo_symbol 33 = .ok (.getfield 79, 3) := by decide +kernel
theorem d_Mo_symbol_36 : decode b_Mo_symbol 36 = .ok (.iconst 1, 1) := by decide +kernel
theorem d_Mo_symbol_37 : decode b_Mo_symbol 37 = .ok (.iadd, 1) := by decide +kernel
theorem d_Mo_symbol_38 : decode b_Mo_symbol 38 = .ok (.putfield 79, 3) := by decide +kernel
theorem d_Mo_symbol_41 : decode b_Mo_symbol 41 = .ok (.aload_n 0, 1) := by decide +kernel
theorem d_Mo_symbol_42 : decode b_Mo_symbol 42 = .ok (.getfield 79, 3) := by decide +kernel
theorem d_Mo_symbol_45 : decode b_Mo_symbol 45 = .ok (.ireturn, 1) := by decide +kernel
theorem d_Mo_trees_0 : decode b_Mo_trees 0 = .ok (.iload_n 1, 1) := by decide +kernel
theorem d_Mo_trees_1 : decode b_Mo_trees 1 = .ok (.invokestatic 82, 3) := by decide +kernel
theorem d_Mo_trees_4 : decode b_Mo_trees 4 = .ok (.ifCond .eq 17, 3) := by decide +kernel
theorem d_Mo_trees_7 : decode b_Mo_trees 7 = .ok (.iload_n 2, 1) := by decide +kernel
theorem d_Mo_trees_8 : decode b_Mo_trees 8 = .ok (.invokestatic 138, 3) := by decide +kernel
theorem d_Mo_trees_11 : decode b_Mo_trees 11 = .ok (.ifCond .eq 10, 3) := by decide +kernel
theorem d_Mo_trees_14 : decode b_Mo_trees 14 = .ok (.aload_n 0, 1) := by decide +kernel
theorem d_Mo_trees_15 : decode b_Mo_trees 15 = .ok (.invokevirtual 141, 3) := by decide +kernel
theorem d_Mo_trees_18 : decode b_Mo_trees 18 = .ok (.ifCond .eq 7, 3) := by decide +kernel
theorem d_Mo_trees_21 : decode b_Mo_trees 21 = .ok (.ldc2_w 145, 3) := by decide +kernel
theorem d_Mo_trees_24 : decode b_Mo_trees 24 = .ok (.lreturn, 1) := by decide +kernel
theorem d_Mo_trees_25 : decode b_Mo_trees 25 = .ok (.aload_n 0, 1) := by decide +kernel
theorem d_Mo_trees_26 : decode b_Mo_trees 26 = .ok (.iconst (-1), 1) := by decide +kernel
theorem d_Mo_trees_27 : decode b_Mo_trees 27 = .ok (.invokevirtual 147, 3) := by decide +kernel
theorem d_Mo_trees_30 : decode b_Mo_trees 30 = .ok (.aload_n 0, 1) := by decide +kernel
theorem d_Mo_trees_31 : decode b_Mo_trees 31 = .ok (.iload_n 1, 1) := by decide +kernel
theorem d_Mo_trees_32 : decode b_Mo_trees 32 = .ok (.iload_n 2, 1) := by decide +kernel
theorem d_Mo_trees_33 : decode b_Mo_trees 33 = .ok (.invokevirtual 124, 3) := by decide +kernel
theorem d_Mo_trees_36 : decode b_Mo_trees 36 = .ok (.lstore_n 3, 1) := by decide +kernel
theorem d_Mo_trees_37 : decode b_Mo_trees 37 = .ok (.lload_n 3, 1) := by decide +kernel
theorem d_Mo_trees_38 : decode b_Mo_trees 38 = .ok (.ldc2_w 120, 3) := by decide +kernel
theorem d_Mo_trees_41 : decode b_Mo_trees 41 = .ok (.lcmp, 1) := by decide +kernel
theorem d_Mo_trees_42 : decode b_Mo_trees 42 = .ok (.ifCond .le 9, 3) := by decide +kernel
theorem d_Mo_trees_45 : decode b_Mo_trees 45 = .ok (.ldc2_w 151, 3) := by decide +kernel
theorem d_Mo_trees_48 : decode b_Mo_trees 48 = .ok (.goto 4, 3) := by decide +kernel
theorem d_Mo_trees_51 : decode b_Mo_trees 51 = .ok (.lload_n 3, 1) := by decide +kernel
theorem d_Mo_trees_52 : decode b_Mo_trees 52 = .ok (.lreturn, 1) := by decide +kernel
theorem d_Mo_treesWith_0 : decode b_Mo_treesWith 0 = .ok (.aload_n 0, 1) := by decide +kernel
theorem d_Mo_treesWith_1 : decode b_Mo_treesWith 1 = .ok (.iload_n 1, 1) := by decide +kernel
theorem d_Mo_treesWith_2 : decode b_Mo_treesWith 2 = .ok (.invokevirtual 90, 3) := by decide +kernel
theorem d_Mo_treesWith_5 : decode b_Mo_treesWith 5 = .ok (.ifCond .eq 17, 3) := by decide +kernel
theorem d_Mo_treesWith_8 : decode b_Mo_treesWith 8 = .ok (.iload_n 2, 1) := by decide +kernel
theorem d_Mo_treesWith_9 : decode b_Mo_treesWith 9 = .ok (.invokestatic 138, 3) := by decide +kernel
theorem d_Mo_treesWith_12 : decode b_Mo_treesWith 12 = .ok (.ifCond .eq 10, 3) := by decide +kernel
theorem d_Mo_treesWith_15 : decode b_Mo_treesWith 15 = .ok (.aload_n 0, 1) := by decide +kernel
theorem d_Mo_treesWith_16 : decode b_Mo_treesWith 16 = .ok (.invokevirtual 141, 3) := by decide +kernel
theorem d_Mo_treesWith_19 : decode b_Mo_treesWith 19 = .ok (.ifCond .eq 7, 3) := by decide +kernel
theorem d_Mo_treesWith_22 : decode b_Mo_treesWith 22 = .ok (.ldc2_w 145, 3) := by decide +kernel
theorem d_Mo_treesWith_25 : decode b_Mo_treesWith 25 = .ok (.lreturn, 1) := by decide +kernel
theorem d_Mo_treesWith_26 : decode b_Mo_treesWith 26 = .ok (.aload_n 0, 1) := by decide +kernel
theorem d_Mo_treesWith_27 : decode b_Mo_treesWith 27 = .ok (.iconst 0, 1) := by decide +kernel
theorem d_Mo_treesWith_28 : decode b_Mo_treesWith 28 = .ok (.iload_n 2, 1) := by decide +kernel
theorem d_Mo_treesWith_29 : decode b_Mo_treesWith 29 = .ok (.invokevirtual 153, 3) := by decide +kernel
theorem d_Mo_treesWith_32 : decode b_Mo_treesWith 32 = .ok (.lstore_n 3, 1) := by decide +kernel
theorem d_Mo_treesWith_33 : decode b_Mo_treesWith 33 = .ok (.lload_n 3, 1) := by decide +kernel
theorem d_Mo_treesWith_34 : decode b_Mo_treesWith 34 = .ok (.lconst 0, 1) := by decide +kernel
theorem d_Mo_treesWith_35 : decode b_Mo_treesWith 35 = .ok (.lcmp, 1) := by decide +kernel
theorem d_Mo_treesWith_36 : decode b_Mo_treesWith 36 = .ok (.ifCond .ge 5, 3) := by decide +kernel
theorem d_Mo_treesWith_39 : decode b_Mo_treesWith 39 = .ok (.lload_n 3, 1) := by decide +kernel
theorem d_Mo_treesWith_40 : decode b_Mo_treesWith 40 = .ok (.lreturn, 1) := by decide +kernel
theorem d_Mo_treesWith_41 : decode b_Mo_treesWith 41 = .ok (.aload_n 0, 1) := by decide +kernel
theorem d_Mo_treesWith_42 : decode b_Mo_treesWith 42 = .ok (.iload_n 1, 1) := by decide +kernel
theorem d_Mo_treesWith_43 : decode b_Mo_treesWith 43 = .ok (.invokevirtual 147, 3) := by decide +kernel
theorem d_Mo_treesWith_46 : decode b_Mo_treesWith 46 = .ok (.lload_n 3, 1) := by decide +kernel
theorem d_Mo_treesWith_47 : decode b_Mo_treesWith 47 = .ok (.aload_n 0, 1) := by decide +kernel
theorem d_Mo_treesWith_48 : decode b_Mo_treesWith 48 = .ok (.iconst 0, 1) := by decide +kernel
theorem d_Mo_treesWith_49 : decode b_Mo_treesWith 49 = .ok (.iload_n 2, 1) := by decide +kernel
theorem d_Mo_treesWith_50 : decode b_Mo_treesWith 50 = .ok (.invokevirtual 124, 3) := by decide +kernel
theorem d_Mo_treesWith_53 : decode b_Mo_treesWith 53 = .ok (.lsub, 1) := by decide +kernel
theorem d_Mo_treesWith_54 : decode b_Mo_treesWith 54 = .ok (.lreturn, 1) := by decide +kernel
theorem d_Ar_fill_0 : decode b_Ar_fill 0 = .ok (.iconst 0, 1) := by decide +kernel
theorem d_Ar_fill_1 : decode b_Ar_fill 1 = .ok (.istore_n 2, 1) := by decide +kernel
theorem d_Ar_fill_2 : decode b_Ar_fill 2 = .ok (.aload_n 0, 1) := by decide +kernel
theorem d_Ar_fill_3 : decode b_Ar_fill 3 = .ok (.arraylength, 1) := by decide +kernel
theorem d_Ar_fill_4 : decode b_Ar_fill 4 = .ok (.istore_n 3, 1) := by decide +kernel
theorem d_Ar_fill_5 : decode b_Ar_fill 5 = .ok (.iload_n 2, 1) := by decide +kernel
theorem d_Ar_fill_6 : decode b_Ar_fill 6 = .ok (.iload_n 3, 1) := by decide +kernel
theorem d_Ar_fill_7 : decode b_Ar_fill 7 = .ok (.if_icmp .ge 13, 3) := by decide +kernel
theorem d_Ar_fill_10 : decode b_Ar_fill 10 = .ok (.aload_n 0, 1) := by decide +kernel
theorem d_Ar_fill_11 : decode b_Ar_fill 11 = .ok (.iload_n 2, 1) := by decide +kernel
theorem d_Ar_fill_12 : decode b_Ar_fill 12 = .ok (.iload_n 1, 1) := by decide +kernel
theorem d_Ar_fill_13 : decode b_Ar_fill 13 = .ok (.iastore, 1) := by decide +kernel
theorem d_Ar_fill_14 : decode b_Ar_fill 14 = .ok (.iinc 2 1, 3) := by decide +kernel
theorem d_Ar_fill_17 : decode b_Ar_fill 17 = .ok (.goto (-12), 3) := by decide +kernel
theorem d_Ar_fill_20 : decode b_Ar_fill 20 = .ok (.return_, 1) := by decide +kernel
