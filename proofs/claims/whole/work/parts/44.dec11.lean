theorem d_Mo_join_226 : decode b_Mo_join 226 = .ok (.iload 8, 2) := by decide +kernel
theorem d_Mo_join_228 : decode b_Mo_join 228 = .ok (.invokevirtual 124, 3) := by decide +kernel
theorem d_Mo_join_231 : decode b_Mo_join 231 = .ok (.aload_n 0, 1) := by decide +kernel
theorem d_Mo_join_232 : decode b_Mo_join 232 = .ok (.getfield 52, 3) := by decide +kernel
theorem d_Mo_join_235 : decode b_Mo_join 235 = .ok (.bipush 17, 2) := by decide +kernel
theorem d_Mo_join_237 : decode b_Mo_join 237 = .ok (.iload 7, 2) := by decide +kernel
theorem d_Mo_join_239 : decode b_Mo_join 239 = .ok (.imul, 1) := by decide +kernel
theorem d_Mo_join_240 : decode b_Mo_join 240 = .ok (.bipush 17, 2) := by decide +kernel
theorem d_Mo_join_242 : decode b_Mo_join 242 = .ok (.iadd, 1) := by decide +kernel
theorem d_Mo_join_243 : decode b_Mo_join 243 = .ok (.iload 6, 2) := by decide +kernel
theorem d_Mo_join_245 : decode b_Mo_join 245 = .ok (.iadd, 1) := by decide +kernel
theorem d_Mo_join_246 : decode b_Mo_join 246 = .ok (.iload 8, 2) := by decide +kernel
theorem d_Mo_join_248 : decode b_Mo_join 248 = .ok (.isub, 1) := by decide +kernel
theorem d_Mo_join_249 : decode b_Mo_join 249 = .ok (.laload, 1) := by decide +kernel
theorem d_Mo_join_250 : decode b_Mo_join 250 = .ok (.invokestatic 127, 3) := by decide +kernel
theorem d_Mo_join_253 : decode b_Mo_join 253 = .ok (.invokestatic 131, 3) := by decide +kernel
theorem d_Mo_join_256 : decode b_Mo_join 256 = .ok (.lstore 4, 2) := by decide +kernel
theorem d_Mo_join_258 : decode b_Mo_join 258 = .ok (.iinc 8 1, 3) := by decide +kernel
theorem d_Mo_join_261 : decode b_Mo_join 261 = .ok (.goto (-57), 3) := by decide +kernel
theorem d_Mo_join_264 : decode b_Mo_join 264 = .ok (.iload 6, 2) := by decide +kernel
theorem d_Mo_join_266 : decode b_Mo_join 266 = .ok (.aload_n 0, 1) := by decide +kernel
theorem d_Mo_join_267 : decode b_Mo_join 267 = .ok (.getfield 70, 3) := by decide +kernel
theorem d_Mo_join_270 : decode b_Mo_join 270 = .ok (.iload 7, 2) := by decide +kernel
theorem d_Mo_join_272 : decode b_Mo_join 272 = .ok (.iaload, 1) := by decide +kernel
theorem d_Mo_join_273 : decode b_Mo_join 273 = .ok (.isub, 1) := by decide +kernel
theorem d_Mo_join_274 : decode b_Mo_join 274 = .ok (.istore 6, 2) := by decide +kernel
theorem d_Mo_join_276 : decode b_Mo_join 276 = .ok (.lload 4, 2) := by decide +kernel
theorem d_Mo_join_278 : decode b_Mo_join 278 = .ok (.aload_n 0, 1) := by decide +kernel
theorem d_Mo_join_279 : decode b_Mo_join 279 = .ok (.getfield 73, 3) := by decide +kernel
theorem d_Mo_join_282 : decode b_Mo_join 282 = .ok (.iload 7, 2) := by decide +kernel
theorem d_Mo_join_284 : decode b_Mo_join 284 = .ok (.laload, 1) := by decide +kernel
theorem d_Mo_join_285 : decode b_Mo_join 285 = .ok (.aload_n 0, 1) := by decide +kernel
theorem d_Mo_join_286 : decode b_Mo_join 286 = .ok (.getfield 52, 3) := by decide +kernel
theorem d_Mo_join_289 : decode b_Mo_join 289 = .ok (.bipush 17, 2) := by decide +kernel
theorem d_Mo_join_291 : decode b_Mo_join 291 = .ok (.iload 7, 2) := by decide +kernel
theorem d_Mo_join_293 : decode b_Mo_join 293 = .ok (.imul, 1) := by decide +kernel
theorem d_Mo_join_294 : decode b_Mo_join 294 = .ok (.bipush 17, 2) := by decide +kernel
theorem d_Mo_join_296 : decode b_Mo_join 296 = .ok (.iadd, 1) := by decide +kernel
theorem d_Mo_join_297 : decode b_Mo_join 297 = .ok (.iload 6, 2) := by decide +kernel
theorem d_Mo_join_299 : decode b_Mo_join 299 = .ok (.iadd, 1) := by decide +kernel
theorem d_Mo_join_300 : decode b_Mo_join 300 = .ok (.laload, 1) := by decide +kernel
theorem d_Mo_join_301 : decode b_Mo_join 301 = .ok (.invokestatic 127, 3) := by decide +kernel
theorem d_Mo_join_304 : decode b_Mo_join 304 = .ok (.invokestatic 131, 3) := by decide +kernel
theorem d_Mo_join_307 : decode b_Mo_join 307 = .ok (.lstore 4, 2) := by decide +kernel
theorem d_Mo_join_309 : decode b_Mo_join 309 = .ok (.iinc 7 1, 3) := by decide +kernel
theorem d_Mo_join_312 : decode b_Mo_join 312 = .ok (.goto (-122), 3) := by decide +kernel
theorem d_Mo_join_315 : decode b_Mo_join 315 = .ok (.aload_n 0, 1) := by decide +kernel
theorem d_Mo_join_316 : decode b_Mo_join 316 = .ok (.iload_n 3, 1) := by decide +kernel
theorem d_Mo_join_317 : decode b_Mo_join 317 = .ok (.putfield 156, 3) := by decide +kernel
theorem d_Mo_join_320 : decode b_Mo_join 320 = .ok (.aload_n 0, 1) := by decide +kernel
theorem d_Mo_join_321 : decode b_Mo_join 321 = .ok (.aload_n 0, 1) := by decide +kernel
theorem d_Mo_join_322 : decode b_Mo_join 322 = .ok (.getfield 7, 3) := by decide +kernel
theorem d_Mo_join_325 : decode b_Mo_join 325 = .ok (.iload_n 1, 1) := by decide +kernel
theorem d_Mo_join_326 : decode b_Mo_join 326 = .ok (.iaload, 1) := by decide +kernel
theorem d_Mo_join_327 : decode b_Mo_join 327 = .ok (.iload_n 2, 1) := by decide +kernel
theorem d_Mo_join_328 : decode b_Mo_join 328 = .ok (.lload 4, 2) := by decide +kernel
theorem d_Mo_join_330 : decode b_Mo_join 330 = .ok (.invokevirtual 159, 3) := by decide +kernel
theorem d_Mo_join_333 : decode b_Mo_join 333 = .ok (.iconst 1, 1) := by decide +kernel
theorem d_Mo_join_334 : decode b_Mo_join 334 = .ok (.ireturn, 1) := by decide +kernel
theorem d_Mo_leaf_0 : decode b_Mo_leaf 0 = .ok (.iload_n 1, 1) := by decide +kernel
theorem d_Mo_leaf_1 : decode b_Mo_leaf 1 = .ok (.ifCond .lt 11, 3) := by decide +kernel
theorem d_Mo_leaf_4 : decode b_Mo_leaf 4 = .ok (.iload_n 1, 1) := by decide +kernel
theorem d_Mo_leaf_5 : decode b_Mo_leaf 5 = .ok (.aload_n 0, 1) := by decide +kernel
theorem d_Mo_leaf_6 : decode b_Mo_leaf 6 = .ok (.getfield 170, 3) := by decide +kernel
theorem d_Mo_leaf_9 : decode b_Mo_leaf 9 = .ok (.if_icmp .lt 7, 3) := by decide +kernel
theorem d_Mo_leaf_12 : decode b_Mo_leaf 12 = .ok (.iconst (-1), 1) := by decide +kernel
theorem d_Mo_leaf_13 : decode b_Mo_leaf 13 = .ok (.goto 9, 3) := by decide +kernel
theorem d_Mo_leaf_16 : decode b_Mo_leaf 16 = .ok (.aload_n 0, 1) := by decide +kernel
theorem d_Mo_leaf_17 : decode b_Mo_leaf 17 = .ok (.getfield 28, 3) := by decide +kernel
theorem d_Mo_leaf_20 : decode b_Mo_leaf 20 = .ok (.iload_n 1, 1) := by decide +kernel
theorem d_Mo_leaf_21 : decode b_Mo_leaf 21 = .ok (.iaload, 1) := by decide +kernel
theorem d_Mo_leaf_22 : decode b_Mo_leaf 22 = .ok (.ireturn, 1) := by decide +kernel
theorem d_Mo_leastBut_0 : decode b_Mo_leastBut 0 = .ok (.lconst 0, 1) := by decide +kernel
theorem d_Mo_leastBut_1 : decode b_Mo_leastBut 1 = .ok (.lstore_n 3, 1) := by decide +kernel
theorem d_Mo_leastBut_2 : decode b_Mo_leastBut 2 = .ok (.iconst 0, 1) := by decide +kernel
theorem d_Mo_leastBut_3 : decode b_Mo_leastBut 3 = .ok (.istore 5, 2) := by decide +kernel
theorem d_Mo_leastBut_5 : decode b_Mo_leastBut 5 = .ok (.iload 5, 2) := by decide +kernel
theorem d_Mo_leastBut_7 : decode b_Mo_leastBut 7 = .ok (.aload_n 0, 1) := by decide +kernel
theorem d_Mo_leastBut_8 : decode b_Mo_leastBut 8 = .ok (.getfield 13, 3) := by decide +kernel
theorem d_Mo_leastBut_11 : decode b_Mo_leastBut 11 = .ok (.iload_n 1, 1) := by decide +kernel
theorem d_Mo_leastBut_12 : decode b_Mo_leastBut 12 = .ok (.iaload, 1) := by decide +kernel
theorem d_Mo_leastBut_13 : decode b_Mo_leastBut 13 = .ok (.if_icmp .ge 33, 3) := by decide +kernel
theorem d_Mo_leastBut_16 : decode b_Mo_leastBut 16 = .ok (.lload_n 3, 1) := by decide +kernel
theorem d_Mo_leastBut_17 : decode b_Mo_leastBut 17 = .ok (.iload 5, 2) := by decide +kernel
theorem d_Mo_leastBut_19 : decode b_Mo_leastBut 19 = .ok (.iload_n 2, 1) := by decide +kernel
theorem d_Mo_leastBut_20 : decode b_Mo_leastBut 20 = .ok (.if_icmp .ne 7, 3) := by decide +kernel
theorem d_Mo_leastBut_23 : decode b_Mo_leastBut 23 = .ok (.lconst 0, 1) := by decide +kernel
theorem d_Mo_leastBut_24 : decode b_Mo_leastBut 24 = .ok (.goto 14, 3) := by decide +kernel
theorem d_Mo_leastBut_27 : decode b_Mo_leastBut 27 = .ok (.aload_n 0, 1) := by decide +kernel
theorem d_Mo_leastBut_28 : decode b_Mo_leastBut 28 = .ok (.aload_n 0, 1) := by decide +kernel
theorem d_Mo_leastBut_29 : decode b_Mo_leastBut 29 = .ok (.iload_n 1, 1) := by decide +kernel
theorem d_Mo_leastBut_30 : decode b_Mo_leastBut 30 = .ok (.iload 5, 2) := by decide +kernel
theorem d_Mo_leastBut_32 : decode b_Mo_leastBut 32 = .ok (.invokevirtual 96, 3) := by decide +kernel
theorem d_Mo_leastBut_35 : decode b_Mo_leastBut 35 = .ok (.invokevirtual 100, 3) := by decide +kernel
theorem d_Mo_leastBut_38 : decode b_Mo_leastBut 38 = .ok (.ladd, 1) := by decide +kernel
theorem d_Mo_leastBut_39 : decode b_Mo_leastBut 39 = .ok (.lstore_n 3, 1) := by decide +kernel
theorem d_Mo_leastBut_40 : decode b_Mo_leastBut 40 = .ok (.iinc 5 1, 3) := by decide +kernel
theorem d_Mo_leastBut_43 : decode b_Mo_leastBut 43 = .ok (.goto (-38), 3) := by decide +kernel
theorem d_Mo_leastBut_46 : decode b_Mo_leastBut 46 = .ok (.lload_n 3, 1) := by decide +kernel
theorem d_Mo_leastBut_47 : decode b_Mo_leastBut 47 = .ok (.ldc2_w 104, 3) := by decide +kernel
theorem d_Mo_leastBut_50 : decode b_Mo_leastBut 50 = .ok (.lcmp, 1) := by decide +kernel
theorem d_Mo_leastBut_51 : decode b_Mo_leastBut 51 = .ok (.ifCond .ge 7, 3) := by decide +kernel
theorem d_Mo_leastBut_54 : decode b_Mo_leastBut 54 = .ok (.lload_n 3, 1) := by decide +kernel
theorem d_Mo_leastBut_55 : decode b_Mo_leastBut 55 = .ok (.goto 6, 3) := by decide +kernel
theorem d_Mo_leastBut_58 : decode b_Mo_leastBut 58 = .ok (.ldc2_w 104, 3) := by decide +kernel
theorem d_Mo_leastBut_61 : decode b_Mo_leastBut 61 = .ok (.lreturn, 1) := by decide +kernel
theorem d_Mo_leastOf_0 : decode b_Mo_leastOf 0 = .ok (.iload_n 1, 1) := by decide +kernel
theorem d_Mo_leastOf_1 : decode b_Mo_leastOf 1 = .ok (.invokestatic 82, 3) := by decide +kernel
theorem d_Mo_leastOf_4 : decode b_Mo_leastOf 4 = .ok (.ifCond .eq 12, 3) := by decide +kernel
theorem d_Mo_leastOf_7 : decode b_Mo_leastOf 7 = .ok (.aload_n 0, 1) := by decide +kernel
theorem d_Mo_leastOf_8 : decode b_Mo_leastOf 8 = .ok (.getfield 31, 3) := by decide +kernel
theorem d_Mo_leastOf_11 : decode b_Mo_leastOf 11 = .ok (.iload_n 1, 1) := by decide +kernel
theorem d_Mo_leastOf_12 : decode b_Mo_leastOf 12 = .ok (.laload, 1) := by decide +kernel
theorem d_Mo_leastOf_13 : decode b_Mo_leastOf 13 = .ok (.goto 4, 3) := by decide +kernel
theorem d_Mo_leastOf_16 : decode b_Mo_leastOf 16 = .ok (.lconst 1, 1) := by decide +kernel
theorem d_Mo_leastOf_17 : decode b_Mo_leastOf 17 = .ok (.lreturn, 1) := by decide +kernel
theorem d_Mo_list_0 : decode b_Mo_list 0 = .ok (.aload_n 0, 1) := by decide +kernel
theorem d_Mo_list_1 : decode b_Mo_list 1 = .ok (.getfield 93, 3) := by decide +kernel
theorem d_Mo_list_4 : decode b_Mo_list 4 = .ok (.sipush 200, 3) := by decide +kernel
theorem d_Mo_list_7 : decode b_Mo_list 7 = .ok (.if_icmp .ne 5, 3) := by decide +kernel
theorem d_Mo_list_10 : decode b_Mo_list 10 = .ok (.iconst (-1), 1) := by decide +kernel
theorem d_Mo_list_11 : decode b_Mo_list 11 = .ok (.ireturn, 1) := by decide +kernel
theorem d_Mo_list_12 : decode b_Mo_list 12 = .ok (.aload_n 0, 1) := by decide +kernel
theorem d_Mo_list_13 : decode b_Mo_list 13 = .ok (.getfield 22, 3) := by decide +kernel
theorem d_Mo_list_16 : decode b_Mo_list 16 = .ok (.aload_n 0, 1) := by decide +kernel
theorem d_Mo_list_17 : decode b_Mo_list 17 = .ok (.getfield 93, 3) := by decide +kernel
theorem d_Mo_list_20 : decode b_Mo_list 20 = .ok (.iload_n 1, 1) := by decide +kernel
theorem d_Mo_list_21 : decode b_Mo_list 21 = .ok (.iastore, 1) := by decide +kernel
theorem d_Mo_list_22 : decode b_Mo_list 22 = .ok (.aload_n 0, 1) := by decide +kernel
theorem d_Mo_list_23 : decode b_Mo_list 23 = .ok (.dup, 1) := by decide +kernel
theorem d_Mo_list_24 : decode b_Mo_list 24 = .ok (.getfield 93, 3) := by decide +kernel
theorem d_Mo_list_27 : decode b_Mo_list 27 = .ok (.iconst 1, 1) := by decide +kernel
theorem d_Mo_list_28 : decode b_Mo_list 28 = .ok (.iadd, 1) := by decide +kernel
theorem d_Mo_list_29 : decode b_Mo_list 29 = .ok (.putfield 93, 3) := by decide +kernel
theorem d_Mo_list_32 : decode b_Mo_list 32 = .ok (.aload_n 0, 1) := by decide +kernel
theorem d_Mo_list_33 : decode b_Mo_list 33 = .ok (.getfield 93, 3) := by decide +kernel
theorem d_Mo_list_36 : decode b_Mo_list 36 = .ok (.ireturn, 1) := by decide +kernel
theorem d_Mo_number_0 : decode b_Mo_number 0 = .ok (.aload_n 0, 1) := by decide +kernel
theorem d_Mo_number_1 : decode b_Mo_number 1 = .ok (.getfield 93, 3) := by decide +kernel
theorem d_Mo_number_4 : decode b_Mo_number 4 = .ok (.istore_n 2, 1) := by decide +kernel
theorem d_Mo_number_5 : decode b_Mo_number 5 = .ok (.aload_n 0, 1) := by decide +kernel
theorem d_Mo_number_6 : decode b_Mo_number 6 = .ok (.iconst 0, 1) := by decide +kernel
theorem d_Mo_number_7 : decode b_Mo_number 7 = .ok (.putfield 93, 3) := by decide +kernel
theorem d_Mo_number_10 : decode b_Mo_number 10 = .ok (.iload_n 1, 1) := by decide +kernel
theorem d_Mo_number_11 : decode b_Mo_number 11 = .ok (.invokestatic 82, 3) := by decide +kernel
theorem d_Mo_number_14 : decode b_Mo_number 14 = .ok (.ifCond .eq 10, 3) := by decide +kernel
theorem d_Mo_number_17 : decode b_Mo_number 17 = .ok (.aload_n 0, 1) := by decide +kernel
theorem d_Mo_number_18 : decode b_Mo_number 18 = .ok (.invokevirtual 141, 3) := by decide +kernel
theorem d_Mo_number_21 : decode b_Mo_number 21 = .ok (.ifCond .eq 7, 3) := by decide +kernel
theorem d_Mo_number_24 : decode b_Mo_number 24 = .ok (.ldc2_w 145, 3) := by decide +kernel
theorem d_Mo_number_27 : decode b_Mo_number 27 = .ok (.lreturn, 1) := by decide +kernel
theorem d_Mo_number_28 : decode b_Mo_number 28 = .ok (.aload_n 0, 1) := by decide +kernel
theorem d_Mo_number_29 : decode b_Mo_number 29 = .ok (.iconst (-1), 1) := by decide +kernel
theorem d_Mo_number_30 : decode b_Mo_number 30 = .ok (.invokevirtual 147, 3) := by decide +kernel
theorem d_Mo_number_33 : decode b_Mo_number 33 = .ok (.aload_n 0, 1) := by decide +kernel
theorem d_Mo_number_34 : decode b_Mo_number 34 = .ok (.iconst 0, 1) := by decide +kernel
theorem d_Mo_number_35 : decode b_Mo_number 35 = .ok (.putfield 156, 3) := by decide +kernel
theorem d_Mo_number_38 : decode b_Mo_number 38 = .ok (.iload_n 2, 1) := by decide +kernel
theorem d_Mo_number_39 : decode b_Mo_number 39 = .ok (.iconst 1, 1) := by decide +kernel
theorem d_Mo_number_40 : decode b_Mo_number 40 = .ok (.isub, 1) := by decide +kernel
theorem d_Mo_number_41 : decode b_Mo_number 41 = .ok (.istore_n 3, 1) := by decide +kernel
theorem d_Mo_number_42 : decode b_Mo_number 42 = .ok (.iload_n 3, 1) := by decide +kernel
theorem d_Mo_number_43 : decode b_Mo_number 43 = .ok (.ifCond .lt 39, 3) := by decide +kernel
theorem d_Mo_number_46 : decode b_Mo_number 46 = .ok (.aload_n 0, 1) := by decide +kernel
theorem d_Mo_number_47 : decode b_Mo_number 47 = .ok (.aload_n 0, 1) := by decide +kernel
theorem d_Mo_number_48 : decode b_Mo_number 48 = .ok (.getfield 22, 3) := by decide +kernel
theorem d_Mo_number_51 : decode b_Mo_number 51 = .ok (.iload_n 3, 1) := by decide +kernel
theorem d_Mo_number_52 : decode b_Mo_number 52 = .ok (.iaload, 1) := by decide +kernel
theorem d_Mo_number_53 : decode b_Mo_number 53 = .ok (.invokevirtual 90, 3) := by decide +kernel
theorem d_Mo_number_56 : decode b_Mo_number 56 = .ok (.ifCond .eq 16, 3) := by decide +kernel
theorem d_Mo_number_59 : decode b_Mo_number 59 = .ok (.aload_n 0, 1) := by decide +kernel
theorem d_Mo_number_60 : decode b_Mo_number 60 = .ok (.aload_n 0, 1) := by decide +kernel
theorem d_Mo_number_61 : decode b_Mo_number 61 = .ok (.getfield 22, 3) := by decide +kernel
theorem d_Mo_number_64 : decode b_Mo_number 64 = .ok (.iload_n 3, 1) := by decide +kernel
theorem d_Mo_number_65 : decode b_Mo_number 65 = .ok (.iaload, 1) := by decide +kernel
theorem d_Mo_number_66 : decode b_Mo_number 66 = .ok (.invokevirtual 173, 3) := by decide +kernel
theorem d_Mo_number_69 : decode b_Mo_number 69 = .ok (.ifCond .ne 7, 3) := by decide +kernel
theorem d_Mo_number_72 : decode b_Mo_number 72 = .ok (.ldc2_w 145, 3) := by decide +kernel
theorem d_Mo_number_75 : decode b_Mo_number 75 = .ok (.lreturn, 1) := by decide +kernel
theorem d_Mo_number_76 : decode b_Mo_number 76 = .ok (.iinc 3 (-1), 3) := by decide +kernel
theorem d_Mo_number_79 : decode b_Mo_number 79 = .ok (.goto (-37), 3) := by decide +kernel
theorem d_Mo_number_82 : decode b_Mo_number 82 = .ok (.aload_n 0, 1) := by decide +kernel
theorem d_Mo_number_83 : decode b_Mo_number 83 = .ok (.getfield 156, 3) := by decide +kernel
theorem d_Mo_number_86 : decode b_Mo_number 86 = .ok (.iconst 1, 1) := by decide +kernel
theorem d_Mo_number_87 : decode b_Mo_number 87 = .ok (.if_icmp .ne 31, 3) := by decide +kernel
theorem d_Mo_number_90 : decode b_Mo_number 90 = .ok (.aload_n 0, 1) := by decide +kernel
theorem d_Mo_number_91 : decode b_Mo_number 91 = .ok (.getfield 55, 3) := by decide +kernel
theorem d_Mo_number_94 : decode b_Mo_number 94 = .ok (.iconst 0, 1) := by decide +kernel
theorem d_Mo_number_95 : decode b_Mo_number 95 = .ok (.iaload, 1) := by decide +kernel
theorem d_Mo_number_96 : decode b_Mo_number 96 = .ok (.iload_n 1, 1) := by decide +kernel
theorem d_Mo_number_97 : decode b_Mo_number 97 = .ok (.if_icmp .ne 21, 3) := by decide +kernel
theorem d_Mo_number_100 : decode b_Mo_number 100 = .ok (.aload_n 0, 1) := by decide +kernel
theorem d_Mo_number_101 : decode b_Mo_number 101 = .ok (.iload_n 1, 1) := by decide +kernel
theorem d_Mo_number_102 : decode b_Mo_number 102 = .ok (.aload_n 0, 1) := by decide +kernel
theorem d_Mo_number_103 : decode b_Mo_number 103 = .ok (.getfield 58, 3) := by decide +kernel
theorem d_Mo_number_106 : decode b_Mo_number 106 = .ok (.iconst 0, 1) := by decide +kernel
theorem d_Mo_number_107 : decode b_Mo_number 107 = .ok (.iaload, 1) := by decide +kernel
theorem d_Mo_number_108 : decode b_Mo_number 108 = .ok (.invokevirtual 124, 3) := by decide +kernel
theorem d_Mo_number_111 : decode b_Mo_number 111 = .ok (.ldc2_w 120, 3) := by decide +kernel
theorem d_Mo_number_114 : decode b_Mo_number 114 = .ok (.lcmp, 1) := by decide +kernel
theorem d_Mo_number_115 : decode b_Mo_number 115 = .ok (.ifCond .le 7, 3) := by decide +kernel
theorem d_Mo_number_118 : decode b_Mo_number 118 = .ok (.ldc2_w 145, 3) := by decide +kernel
theorem d_Mo_number_121 : decode b_Mo_number 121 = .ok (.lreturn, 1) := by decide +kernel
theorem d_Mo_number_122 : decode b_Mo_number 122 = .ok (.aload_n 0, 1) := by decide +kernel
theorem d_Mo_number_123 : decode b_Mo_number 123 = .ok (.getfield 61, 3) := by decide +kernel
theorem d_Mo_number_126 : decode b_Mo_number 126 = .ok (.iconst 0, 1) := by decide +kernel
theorem d_Mo_number_127 : decode b_Mo_number 127 = .ok (.laload, 1) := by decide +kernel
theorem d_Mo_number_128 : decode b_Mo_number 128 = .ok (.lreturn, 1) := by decide +kernel
theorem d_Mo_of_0 : decode b_Mo_of 0 = .ok (.iload_n 1, 1) := by decide +kernel
theorem d_Mo_of_1 : decode b_Mo_of 1 = .ok (.invokestatic 82, 3) := by decide +kernel
theorem d_Mo_of_4 : decode b_Mo_of 4 = .ok (.ifCond .eq 17, 3) := by decide +kernel
theorem d_Mo_of_7 : decode b_Mo_of 7 = .ok (.aload_n 0, 1) := by decide +kernel
theorem d_Mo_of_8 : decode b_Mo_of 8 = .ok (.getfield 45, 3) := by decide +kernel
theorem d_Mo_of_11 : decode b_Mo_of 11 = .ok (.bipush 17, 2) := by decide +kernel
theorem d_Mo_of_13 : decode b_Mo_of 13 = .ok (.iload_n 1, 1) := by decide +kernel
theorem d_Mo_of_14 : decode b_Mo_of 14 = .ok (.imul, 1) := by decide +kernel
theorem d_Mo_of_15 : decode b_Mo_of 15 = .ok (.iload_n 2, 1) := by decide +kernel
theorem d_Mo_of_16 : decode b_Mo_of 16 = .ok (.iadd, 1) := by decide +kernel
theorem d_Mo_of_17 : decode b_Mo_of 17 = .ok (.laload, 1) := by decide +kernel
theorem d_Mo_of_18 : decode b_Mo_of 18 = .ok (.goto 13, 3) := by decide +kernel
theorem d_Mo_of_21 : decode b_Mo_of 21 = .ok (.iload_n 2, 1) := by decide +kernel
theorem d_Mo_of_22 : decode b_Mo_of 22 = .ok (.iconst 1, 1) := by decide +kernel
theorem d_Mo_of_23 : decode b_Mo_of 23 = .ok (.if_icmp .ne 7, 3) := by decide +kernel
theorem d_Mo_of_26 : decode b_Mo_of 26 = .ok (.lconst 1, 1) := by decide +kernel
theorem d_Mo_of_27 : decode b_Mo_of 27 = .ok (.goto 4, 3) := by decide +kernel
theorem d_Mo_of_30 : decode b_Mo_of 30 = .ok (.lconst 0, 1) := by decide +kernel
theorem d_Mo_of_31 : decode b_Mo_of 31 = .ok (.lreturn, 1) := by decide +kernel
theorem d_Mo_product_0 : decode b_Mo_product 0 = .ok (.lload_n 0, 1) := by decide +kernel
theorem d_Mo_product_1 : decode b_Mo_product 1 = .ok (.lconst 0, 1) := by decide +kernel
theorem d_Mo_product_2 : decode b_Mo_product 2 = .ok (.lcmp, 1) := by decide +kernel
theorem d_Mo_product_3 : decode b_Mo_product 3 = .ok (.ifCond .eq 9, 3) := by decide +kernel
theorem d_Mo_product_6 : decode b_Mo_product 6 = .ok (.lload_n 2, 1) := by decide +kernel
theorem d_Mo_product_7 : decode b_Mo_product 7 = .ok (.lconst 0, 1) := by decide +kernel
theorem d_Mo_product_8 : decode b_Mo_product 8 = .ok (.lcmp, 1) := by decide +kernel
theorem d_Mo_product_9 : decode b_Mo_product 9 = .ok (.ifCond .ne 5, 3) := by decide +kernel
theorem d_Mo_product_12 : decode b_Mo_product 12 = .ok (.lconst 0, 1) := by decide +kernel
theorem d_Mo_product_13 : decode b_Mo_product 13 = .ok (.lreturn, 1) := by decide +kernel
theorem d_Mo_product_14 : decode b_Mo_product 14 = .ok (.lload_n 0, 1) := by decide +kernel
theorem d_Mo_product_15 : decode b_Mo_product 15 = .ok (.ldc2_w 120, 3) := by decide +kernel
theorem d_Mo_product_18 : decode b_Mo_product 18 = .ok (.lload_n 2, 1) := by decide +kernel
theorem d_Mo_product_19 : decode b_Mo_product 19 = .ok (.ldiv, 1) := by decide +kernel
theorem d_Mo_product_20 : decode b_Mo_product 20 = .ok (.lcmp, 1) := by decide +kernel
theorem d_Mo_product_21 : decode b_Mo_product 21 = .ok (.ifCond .le 9, 3) := by decide +kernel
theorem d_Mo_product_24 : decode b_Mo_product 24 = .ok (.ldc2_w 122, 3) := by decide +kernel
theorem d_Mo_product_27 : decode b_Mo_product 27 = .ok (.goto 6, 3) := by decide +kernel
theorem d_Mo_product_30 : decode b_Mo_product 30 = .ok (.lload_n 0, 1) := by decide +kernel
theorem d_Mo_product_31 : decode b_Mo_product 31 = .ok (.lload_n 2, 1) := by decide +kernel
theorem d_Mo_product_32 : decode b_Mo_product 32 = .ok (.lmul, 1) := by decide +kernel
theorem d_Mo_product_33 : decode b_Mo_product 33 = .ok (.lreturn, 1) := by decide +kernel
theorem d_Mo_put_0 : decode b_Mo_put 0 = .ok (.aload_n 0, 1) := by decide +kernel
