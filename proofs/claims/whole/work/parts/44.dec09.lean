theorem d_Mo_circle_243 : decode b_Mo_circle 243 = .ok (.iload_n 2, 1) := by decide +kernel
theorem d_Mo_circle_244 : decode b_Mo_circle 244 = .ok (.bipush 8, 2) := by decide +kernel
theorem d_Mo_circle_246 : decode b_Mo_circle 246 = .ok (.irem, 1) := by decide +kernel
theorem d_Mo_circle_247 : decode b_Mo_circle 247 = .ok (.iadd, 1) := by decide +kernel
theorem d_Mo_circle_248 : decode b_Mo_circle 248 = .ok (.baload, 1) := by decide +kernel
theorem d_Mo_circle_249 : decode b_Mo_circle 249 = .ok (.ifCond .eq 7, 3) := by decide +kernel
theorem d_Mo_circle_252 : decode b_Mo_circle 252 = .ok (.iconst 1, 1) := by decide +kernel
theorem d_Mo_circle_253 : decode b_Mo_circle 253 = .ok (.goto 4, 3) := by decide +kernel
theorem d_Mo_circle_256 : decode b_Mo_circle 256 = .ok (.iconst 0, 1) := by decide +kernel
theorem d_Mo_circle_257 : decode b_Mo_circle 257 = .ok (.bastore, 1) := by decide +kernel
theorem d_Mo_circle_258 : decode b_Mo_circle 258 = .ok (.iinc 2 1, 3) := by decide +kernel
theorem d_Mo_circle_261 : decode b_Mo_circle 261 = .ok (.goto (-63), 3) := by decide +kernel
theorem d_Mo_circle_264 : decode b_Mo_circle 264 = .ok (.iinc 1 1, 3) := by decide +kernel
theorem d_Mo_circle_267 : decode b_Mo_circle 267 = .ok (.goto (-77), 3) := by decide +kernel
theorem d_Mo_circle_270 : decode b_Mo_circle 270 = .ok (.iconst 0, 1) := by decide +kernel
theorem d_Mo_circle_271 : decode b_Mo_circle 271 = .ok (.istore_n 1, 1) := by decide +kernel
theorem d_Mo_circle_272 : decode b_Mo_circle 272 = .ok (.iconst 0, 1) := by decide +kernel
theorem d_Mo_circle_273 : decode b_Mo_circle 273 = .ok (.istore_n 2, 1) := by decide +kernel
theorem d_Mo_circle_274 : decode b_Mo_circle 274 = .ok (.iload_n 2, 1) := by decide +kernel
theorem d_Mo_circle_275 : decode b_Mo_circle 275 = .ok (.bipush 8, 2) := by decide +kernel
theorem d_Mo_circle_277 : decode b_Mo_circle 277 = .ok (.if_icmp .ge 31, 3) := by decide +kernel
theorem d_Mo_circle_280 : decode b_Mo_circle 280 = .ok (.iload_n 1, 1) := by decide +kernel
theorem d_Mo_circle_281 : decode b_Mo_circle 281 = .ok (.ifCond .ne 15, 3) := by decide +kernel
theorem d_Mo_circle_284 : decode b_Mo_circle 284 = .ok (.aload_n 0, 1) := by decide +kernel
theorem d_Mo_circle_285 : decode b_Mo_circle 285 = .ok (.getfield 42, 3) := by decide +kernel
theorem d_Mo_circle_288 : decode b_Mo_circle 288 = .ok (.bipush 9, 2) := by decide +kernel
theorem d_Mo_circle_290 : decode b_Mo_circle 290 = .ok (.iload_n 2, 1) := by decide +kernel
theorem d_Mo_circle_291 : decode b_Mo_circle 291 = .ok (.imul, 1) := by decide +kernel
theorem d_Mo_circle_292 : decode b_Mo_circle 292 = .ok (.baload, 1) := by decide +kernel
theorem d_Mo_circle_293 : decode b_Mo_circle 293 = .ok (.ifCond .eq 7, 3) := by decide +kernel
theorem d_Mo_circle_296 : decode b_Mo_circle 296 = .ok (.iconst 1, 1) := by decide +kernel
theorem d_Mo_circle_297 : decode b_Mo_circle 297 = .ok (.goto 4, 3) := by decide +kernel
theorem d_Mo_circle_300 : decode b_Mo_circle 300 = .ok (.iconst 0, 1) := by decide +kernel
theorem d_Mo_circle_301 : decode b_Mo_circle 301 = .ok (.istore_n 1, 1) := by decide +kernel
theorem d_Mo_circle_302 : decode b_Mo_circle 302 = .ok (.iinc 2 1, 3) := by decide +kernel
theorem d_Mo_circle_305 : decode b_Mo_circle 305 = .ok (.goto (-31), 3) := by decide +kernel
theorem d_Mo_circle_308 : decode b_Mo_circle 308 = .ok (.iload_n 1, 1) := by decide +kernel
theorem d_Mo_circle_309 : decode b_Mo_circle 309 = .ok (.ireturn, 1) := by decide +kernel
theorem d_Mo_count_0 : decode b_Mo_count 0 = .ok (.iload_n 1, 1) := by decide +kernel
theorem d_Mo_count_1 : decode b_Mo_count 1 = .ok (.ifCond .ne 10, 3) := by decide +kernel
theorem d_Mo_count_4 : decode b_Mo_count 4 = .ok (.aload_n 0, 1) := by decide +kernel
theorem d_Mo_count_5 : decode b_Mo_count 5 = .ok (.getfield 76, 3) := by decide +kernel
theorem d_Mo_count_8 : decode b_Mo_count 8 = .ok (.goto 28, 3) := by decide +kernel
theorem d_Mo_count_11 : decode b_Mo_count 11 = .ok (.iload_n 1, 1) := by decide +kernel
theorem d_Mo_count_12 : decode b_Mo_count 12 = .ok (.iconst 1, 1) := by decide +kernel
theorem d_Mo_count_13 : decode b_Mo_count 13 = .ok (.if_icmp .ne 10, 3) := by decide +kernel
theorem d_Mo_count_16 : decode b_Mo_count 16 = .ok (.aload_n 0, 1) := by decide +kernel
theorem d_Mo_count_17 : decode b_Mo_count 17 = .ok (.getfield 79, 3) := by decide +kernel
theorem d_Mo_count_20 : decode b_Mo_count 20 = .ok (.goto 16, 3) := by decide +kernel
theorem d_Mo_count_23 : decode b_Mo_count 23 = .ok (.iload_n 1, 1) := by decide +kernel
theorem d_Mo_count_24 : decode b_Mo_count 24 = .ok (.iconst 2, 1) := by decide +kernel
theorem d_Mo_count_25 : decode b_Mo_count 25 = .ok (.if_icmp .ne 10, 3) := by decide +kernel
theorem d_Mo_count_28 : decode b_Mo_count 28 = .ok (.aload_n 0, 1) := by decide +kernel
theorem d_Mo_count_29 : decode b_Mo_count 29 = .ok (.getfield 93, 3) := by decide +kernel
theorem d_Mo_count_32 : decode b_Mo_count 32 = .ok (.goto 4, 3) := by decide +kernel
theorem d_Mo_count_35 : decode b_Mo_count 35 = .ok (.iconst (-1), 1) := by decide +kernel
theorem d_Mo_count_36 : decode b_Mo_count 36 = .ok (.ireturn, 1) := by decide +kernel
theorem d_Mo_draw_0 : decode b_Mo_draw 0 = .ok (.aload_n 0, 1) := by decide +kernel
theorem d_Mo_draw_1 : decode b_Mo_draw 1 = .ok (.iload_n 1, 1) := by decide +kernel
theorem d_Mo_draw_2 : decode b_Mo_draw 2 = .ok (.iload_n 2, 1) := by decide +kernel
theorem d_Mo_draw_3 : decode b_Mo_draw 3 = .ok (.invokevirtual 153, 3) := by decide +kernel
theorem d_Mo_draw_6 : decode b_Mo_draw 6 = .ok (.lstore 5, 2) := by decide +kernel
theorem d_Mo_draw_8 : decode b_Mo_draw 8 = .ok (.lload 5, 2) := by decide +kernel
theorem d_Mo_draw_10 : decode b_Mo_draw 10 = .ok (.lconst 0, 1) := by decide +kernel
theorem d_Mo_draw_11 : decode b_Mo_draw 11 = .ok (.lcmp, 1) := by decide +kernel
theorem d_Mo_draw_12 : decode b_Mo_draw 12 = .ok (.ifCond .lt 16, 3) := by decide +kernel
theorem d_Mo_draw_15 : decode b_Mo_draw 15 = .ok (.lload_n 3, 1) := by decide +kernel
theorem d_Mo_draw_16 : decode b_Mo_draw 16 = .ok (.lconst 0, 1) := by decide +kernel
theorem d_Mo_draw_17 : decode b_Mo_draw 17 = .ok (.lcmp, 1) := by decide +kernel
theorem d_Mo_draw_18 : decode b_Mo_draw 18 = .ok (.ifCond .lt 10, 3) := by decide +kernel
theorem d_Mo_draw_21 : decode b_Mo_draw 21 = .ok (.lload_n 3, 1) := by decide +kernel
theorem d_Mo_draw_22 : decode b_Mo_draw 22 = .ok (.lload 5, 2) := by decide +kernel
theorem d_Mo_draw_24 : decode b_Mo_draw 24 = .ok (.lcmp, 1) := by decide +kernel
theorem d_Mo_draw_25 : decode b_Mo_draw 25 = .ok (.ifCond .lt 5, 3) := by decide +kernel
theorem d_Mo_draw_28 : decode b_Mo_draw 28 = .ok (.iconst (-1), 1) := by decide +kernel
theorem d_Mo_draw_29 : decode b_Mo_draw 29 = .ok (.ireturn, 1) := by decide +kernel
theorem d_Mo_draw_30 : decode b_Mo_draw 30 = .ok (.aload_n 0, 1) := by decide +kernel
theorem d_Mo_draw_31 : decode b_Mo_draw 31 = .ok (.iconst 0, 1) := by decide +kernel
theorem d_Mo_draw_32 : decode b_Mo_draw 32 = .ok (.putfield 156, 3) := by decide +kernel
theorem d_Mo_draw_35 : decode b_Mo_draw 35 = .ok (.aload_n 0, 1) := by decide +kernel
theorem d_Mo_draw_36 : decode b_Mo_draw 36 = .ok (.iload_n 1, 1) := by decide +kernel
theorem d_Mo_draw_37 : decode b_Mo_draw 37 = .ok (.iload_n 2, 1) := by decide +kernel
theorem d_Mo_draw_38 : decode b_Mo_draw 38 = .ok (.lload_n 3, 1) := by decide +kernel
theorem d_Mo_draw_39 : decode b_Mo_draw 39 = .ok (.invokevirtual 159, 3) := by decide +kernel
theorem d_Mo_draw_42 : decode b_Mo_draw 42 = .ok (.iconst 0, 1) := by decide +kernel
theorem d_Mo_draw_43 : decode b_Mo_draw 43 = .ok (.istore 7, 2) := by decide +kernel
theorem d_Mo_draw_45 : decode b_Mo_draw 45 = .ok (.iconst 0, 1) := by decide +kernel
theorem d_Mo_draw_46 : decode b_Mo_draw 46 = .ok (.istore 8, 2) := by decide +kernel
theorem d_Mo_draw_48 : decode b_Mo_draw 48 = .ok (.aload_n 0, 1) := by decide +kernel
theorem d_Mo_draw_49 : decode b_Mo_draw 49 = .ok (.getfield 156, 3) := by decide +kernel
theorem d_Mo_draw_52 : decode b_Mo_draw 52 = .ok (.ifCond .le 95, 3) := by decide +kernel
theorem d_Mo_draw_55 : decode b_Mo_draw 55 = .ok (.aload_n 0, 1) := by decide +kernel
theorem d_Mo_draw_56 : decode b_Mo_draw 56 = .ok (.dup, 1) := by decide +kernel
theorem d_Mo_draw_57 : decode b_Mo_draw 57 = .ok (.getfield 156, 3) := by decide +kernel
theorem d_Mo_draw_60 : decode b_Mo_draw 60 = .ok (.iconst 1, 1) := by decide +kernel
theorem d_Mo_draw_61 : decode b_Mo_draw 61 = .ok (.isub, 1) := by decide +kernel
theorem d_Mo_draw_62 : decode b_Mo_draw 62 = .ok (.putfield 156, 3) := by decide +kernel
theorem d_Mo_draw_65 : decode b_Mo_draw 65 = .ok (.aload_n 0, 1) := by decide +kernel
theorem d_Mo_draw_66 : decode b_Mo_draw 66 = .ok (.getfield 55, 3) := by decide +kernel
theorem d_Mo_draw_69 : decode b_Mo_draw 69 = .ok (.aload_n 0, 1) := by decide +kernel
theorem d_Mo_draw_70 : decode b_Mo_draw 70 = .ok (.getfield 156, 3) := by decide +kernel
theorem d_Mo_draw_73 : decode b_Mo_draw 73 = .ok (.iaload, 1) := by decide +kernel
theorem d_Mo_draw_74 : decode b_Mo_draw 74 = .ok (.istore 9, 2) := by decide +kernel
theorem d_Mo_draw_76 : decode b_Mo_draw 76 = .ok (.iload 9, 2) := by decide +kernel
theorem d_Mo_draw_78 : decode b_Mo_draw 78 = .ok (.invokestatic 82, 3) := by decide +kernel
theorem d_Mo_draw_81 : decode b_Mo_draw 81 = .ok (.ifCond .ne 18, 3) := by decide +kernel
theorem d_Mo_draw_84 : decode b_Mo_draw 84 = .ok (.aload_n 0, 1) := by decide +kernel
theorem d_Mo_draw_85 : decode b_Mo_draw 85 = .ok (.getfield 67, 3) := by decide +kernel
theorem d_Mo_draw_88 : decode b_Mo_draw 88 = .ok (.iload 8, 2) := by decide +kernel
theorem d_Mo_draw_90 : decode b_Mo_draw 90 = .ok (.iload 9, 2) := by decide +kernel
theorem d_Mo_draw_92 : decode b_Mo_draw 92 = .ok (.iastore, 1) := by decide +kernel
theorem d_Mo_draw_93 : decode b_Mo_draw 93 = .ok (.iinc 8 1, 3) := by decide +kernel
theorem d_Mo_draw_96 : decode b_Mo_draw 96 = .ok (.goto (-48), 3) := by decide +kernel
theorem d_Mo_draw_99 : decode b_Mo_draw 99 = .ok (.iload 7, 2) := by decide +kernel
theorem d_Mo_draw_101 : decode b_Mo_draw 101 = .ok (.sipush 200, 3) := by decide +kernel
theorem d_Mo_draw_104 : decode b_Mo_draw 104 = .ok (.if_icmp .ne 6, 3) := by decide +kernel
theorem d_Mo_draw_107 : decode b_Mo_draw 107 = .ok (.bipush (-2), 2) := by decide +kernel
theorem d_Mo_draw_109 : decode b_Mo_draw 109 = .ok (.ireturn, 1) := by decide +kernel
theorem d_Mo_draw_110 : decode b_Mo_draw 110 = .ok (.aload_n 0, 1) := by decide +kernel
theorem d_Mo_draw_111 : decode b_Mo_draw 111 = .ok (.getfield 64, 3) := by decide +kernel
theorem d_Mo_draw_114 : decode b_Mo_draw 114 = .ok (.iload 7, 2) := by decide +kernel
theorem d_Mo_draw_116 : decode b_Mo_draw 116 = .ok (.aload_n 0, 1) := by decide +kernel
theorem d_Mo_draw_117 : decode b_Mo_draw 117 = .ok (.iload 9, 2) := by decide +kernel
theorem d_Mo_draw_119 : decode b_Mo_draw 119 = .ok (.aload_n 0, 1) := by decide +kernel
theorem d_Mo_draw_120 : decode b_Mo_draw 120 = .ok (.getfield 58, 3) := by decide +kernel
theorem d_Mo_draw_123 : decode b_Mo_draw 123 = .ok (.aload_n 0, 1) := by decide +kernel
theorem d_Mo_draw_124 : decode b_Mo_draw 124 = .ok (.getfield 156, 3) := by decide +kernel
theorem d_Mo_draw_127 : decode b_Mo_draw 127 = .ok (.iaload, 1) := by decide +kernel
theorem d_Mo_draw_128 : decode b_Mo_draw 128 = .ok (.aload_n 0, 1) := by decide +kernel
theorem d_Mo_draw_129 : decode b_Mo_draw 129 = .ok (.getfield 61, 3) := by decide +kernel
theorem d_Mo_draw_132 : decode b_Mo_draw 132 = .ok (.aload_n 0, 1) := by decide +kernel
theorem d_Mo_draw_133 : decode b_Mo_draw 133 = .ok (.getfield 156, 3) := by decide +kernel
theorem d_Mo_draw_136 : decode b_Mo_draw 136 = .ok (.laload, 1) := by decide +kernel
theorem d_Mo_draw_137 : decode b_Mo_draw 137 = .ok (.invokevirtual 163, 3) := by decide +kernel
theorem d_Mo_draw_140 : decode b_Mo_draw 140 = .ok (.iastore, 1) := by decide +kernel
theorem d_Mo_draw_141 : decode b_Mo_draw 141 = .ok (.iinc 7 1, 3) := by decide +kernel
theorem d_Mo_draw_144 : decode b_Mo_draw 144 = .ok (.goto (-96), 3) := by decide +kernel
theorem d_Mo_draw_147 : decode b_Mo_draw 147 = .ok (.aload_n 0, 1) := by decide +kernel
theorem d_Mo_draw_148 : decode b_Mo_draw 148 = .ok (.iload 7, 2) := by decide +kernel
theorem d_Mo_draw_150 : decode b_Mo_draw 150 = .ok (.putfield 167, 3) := by decide +kernel
theorem d_Mo_draw_153 : decode b_Mo_draw 153 = .ok (.aload_n 0, 1) := by decide +kernel
theorem d_Mo_draw_154 : decode b_Mo_draw 154 = .ok (.iload 8, 2) := by decide +kernel
theorem d_Mo_draw_156 : decode b_Mo_draw 156 = .ok (.putfield 170, 3) := by decide +kernel
theorem d_Mo_draw_159 : decode b_Mo_draw 159 = .ok (.iconst 0, 1) := by decide +kernel
theorem d_Mo_draw_160 : decode b_Mo_draw 160 = .ok (.istore 9, 2) := by decide +kernel
theorem d_Mo_draw_162 : decode b_Mo_draw 162 = .ok (.iload 9, 2) := by decide +kernel
theorem d_Mo_draw_164 : decode b_Mo_draw 164 = .ok (.aload_n 0, 1) := by decide +kernel
theorem d_Mo_draw_165 : decode b_Mo_draw 165 = .ok (.getfield 167, 3) := by decide +kernel
theorem d_Mo_draw_168 : decode b_Mo_draw 168 = .ok (.if_icmp .ge 23, 3) := by decide +kernel
theorem d_Mo_draw_171 : decode b_Mo_draw 171 = .ok (.aload_n 0, 1) := by decide +kernel
theorem d_Mo_draw_172 : decode b_Mo_draw 172 = .ok (.getfield 25, 3) := by decide +kernel
theorem d_Mo_draw_175 : decode b_Mo_draw 175 = .ok (.iload 9, 2) := by decide +kernel
theorem d_Mo_draw_177 : decode b_Mo_draw 177 = .ok (.aload_n 0, 1) := by decide +kernel
theorem d_Mo_draw_178 : decode b_Mo_draw 178 = .ok (.getfield 64, 3) := by decide +kernel
theorem d_Mo_draw_181 : decode b_Mo_draw 181 = .ok (.iload 9, 2) := by decide +kernel
theorem d_Mo_draw_183 : decode b_Mo_draw 183 = .ok (.iaload, 1) := by decide +kernel
theorem d_Mo_draw_184 : decode b_Mo_draw 184 = .ok (.iastore, 1) := by decide +kernel
theorem d_Mo_draw_185 : decode b_Mo_draw 185 = .ok (.iinc 9 1, 3) := by decide +kernel
theorem d_Mo_draw_188 : decode b_Mo_draw 188 = .ok (.goto (-26), 3) := by decide +kernel
theorem d_Mo_draw_191 : decode b_Mo_draw 191 = .ok (.iconst 0, 1) := by decide +kernel
theorem d_Mo_draw_192 : decode b_Mo_draw 192 = .ok (.istore 9, 2) := by decide +kernel
theorem d_Mo_draw_194 : decode b_Mo_draw 194 = .ok (.iload 9, 2) := by decide +kernel
theorem d_Mo_draw_196 : decode b_Mo_draw 196 = .ok (.aload_n 0, 1) := by decide +kernel
theorem d_Mo_draw_197 : decode b_Mo_draw 197 = .ok (.getfield 170, 3) := by decide +kernel
theorem d_Mo_draw_200 : decode b_Mo_draw 200 = .ok (.if_icmp .ge 23, 3) := by decide +kernel
theorem d_Mo_draw_203 : decode b_Mo_draw 203 = .ok (.aload_n 0, 1) := by decide +kernel
theorem d_Mo_draw_204 : decode b_Mo_draw 204 = .ok (.getfield 28, 3) := by decide +kernel
theorem d_Mo_draw_207 : decode b_Mo_draw 207 = .ok (.iload 9, 2) := by decide +kernel
theorem d_Mo_draw_209 : decode b_Mo_draw 209 = .ok (.aload_n 0, 1) := by decide +kernel
theorem d_Mo_draw_210 : decode b_Mo_draw 210 = .ok (.getfield 67, 3) := by decide +kernel
theorem d_Mo_draw_213 : decode b_Mo_draw 213 = .ok (.iload 9, 2) := by decide +kernel
theorem d_Mo_draw_215 : decode b_Mo_draw 215 = .ok (.iaload, 1) := by decide +kernel
theorem d_Mo_draw_216 : decode b_Mo_draw 216 = .ok (.iastore, 1) := by decide +kernel
theorem d_Mo_draw_217 : decode b_Mo_draw 217 = .ok (.iinc 9 1, 3) := by decide +kernel
theorem d_Mo_draw_220 : decode b_Mo_draw 220 = .ok (.goto (-26), 3) := by decide +kernel
theorem d_Mo_draw_223 : decode b_Mo_draw 223 = .ok (.aload_n 0, 1) := by decide +kernel
theorem d_Mo_draw_224 : decode b_Mo_draw 224 = .ok (.getfield 167, 3) := by decide +kernel
theorem d_Mo_draw_227 : decode b_Mo_draw 227 = .ok (.ireturn, 1) := by decide +kernel
theorem d_Mo_drop_0 : decode b_Mo_drop 0 = .ok (.aload_n 0, 1) := by decide +kernel
theorem d_Mo_drop_1 : decode b_Mo_drop 1 = .ok (.iload_n 1, 1) := by decide +kernel
theorem d_Mo_drop_2 : decode b_Mo_drop 2 = .ok (.invokevirtual 90, 3) := by decide +kernel
theorem d_Mo_drop_5 : decode b_Mo_drop 5 = .ok (.ifCond .ne 5, 3) := by decide +kernel
theorem d_Mo_drop_8 : decode b_Mo_drop 8 = .ok (.iconst 0, 1) := by decide +kernel
theorem d_Mo_drop_9 : decode b_Mo_drop 9 = .ok (.ireturn, 1) := by decide +kernel
theorem d_Mo_drop_10 : decode b_Mo_drop 10 = .ok (.aload_n 0, 1) := by decide +kernel
theorem d_Mo_drop_11 : decode b_Mo_drop 11 = .ok (.dup, 1) := by decide +kernel
theorem d_Mo_drop_12 : decode b_Mo_drop 12 = .ok (.getfield 76, 3) := by decide +kernel
theorem d_Mo_drop_15 : decode b_Mo_drop 15 = .ok (.iconst 1, 1) := by decide +kernel
theorem d_Mo_drop_16 : decode b_Mo_drop 16 = .ok (.isub, 1) := by decide +kernel
theorem d_Mo_drop_17 : decode b_Mo_drop 17 = .ok (.putfield 76, 3) := by decide +kernel
theorem d_Mo_drop_20 : decode b_Mo_drop 20 = .ok (.iload_n 1, 1) := by decide +kernel
theorem d_Mo_drop_21 : decode b_Mo_drop 21 = .ok (.istore_n 2, 1) := by decide +kernel
theorem d_Mo_drop_22 : decode b_Mo_drop 22 = .ok (.iload_n 2, 1) := by decide +kernel
theorem d_Mo_drop_23 : decode b_Mo_drop 23 = .ok (.aload_n 0, 1) := by decide +kernel
theorem d_Mo_drop_24 : decode b_Mo_drop 24 = .ok (.getfield 76, 3) := by decide +kernel
theorem d_Mo_drop_27 : decode b_Mo_drop 27 = .ok (.if_icmp .ge 76, 3) := by decide +kernel
theorem d_Mo_drop_30 : decode b_Mo_drop 30 = .ok (.aload_n 0, 1) := by decide +kernel
theorem d_Mo_drop_31 : decode b_Mo_drop 31 = .ok (.getfield 7, 3) := by decide +kernel
theorem d_Mo_drop_34 : decode b_Mo_drop 34 = .ok (.iload_n 2, 1) := by decide +kernel
theorem d_Mo_drop_35 : decode b_Mo_drop 35 = .ok (.aload_n 0, 1) := by decide +kernel
theorem d_Mo_drop_36 : decode b_Mo_drop 36 = .ok (.getfield 7, 3) := by decide +kernel
theorem d_Mo_drop_39 : decode b_Mo_drop 39 = .ok (.iload_n 2, 1) := by decide +kernel
theorem d_Mo_drop_40 : decode b_Mo_drop 40 = .ok (.iconst 1, 1) := by decide +kernel
theorem d_Mo_drop_41 : decode b_Mo_drop 41 = .ok (.iadd, 1) := by decide +kernel
theorem d_Mo_drop_42 : decode b_Mo_drop 42 = .ok (.iaload, 1) := by decide +kernel
theorem d_Mo_drop_43 : decode b_Mo_drop 43 = .ok (.iastore, 1) := by decide +kernel
theorem d_Mo_drop_44 : decode b_Mo_drop 44 = .ok (.aload_n 0, 1) := by decide +kernel
theorem d_Mo_drop_45 : decode b_Mo_drop 45 = .ok (.getfield 13, 3) := by decide +kernel
theorem d_Mo_drop_48 : decode b_Mo_drop 48 = .ok (.iload_n 2, 1) := by decide +kernel
theorem d_Mo_drop_49 : decode b_Mo_drop 49 = .ok (.aload_n 0, 1) := by decide +kernel
theorem d_Mo_drop_50 : decode b_Mo_drop 50 = .ok (.getfield 13, 3) := by decide +kernel
theorem d_Mo_drop_53 : decode b_Mo_drop 53 = .ok (.iload_n 2, 1) := by decide +kernel
theorem d_Mo_drop_54 : decode b_Mo_drop 54 = .ok (.iconst 1, 1) := by decide +kernel
theorem d_Mo_drop_55 : decode b_Mo_drop 55 = .ok (.iadd, 1) := by decide +kernel
theorem d_Mo_drop_56 : decode b_Mo_drop 56 = .ok (.iaload, 1) := by decide +kernel
theorem d_Mo_drop_57 : decode b_Mo_drop 57 = .ok (.iastore, 1) := by decide +kernel
theorem d_Mo_drop_58 : decode b_Mo_drop 58 = .ok (.iconst 0, 1) := by decide +kernel
theorem d_Mo_drop_59 : decode b_Mo_drop 59 = .ok (.istore_n 3, 1) := by decide +kernel
theorem d_Mo_drop_60 : decode b_Mo_drop 60 = .ok (.iload_n 3, 1) := by decide +kernel
theorem d_Mo_drop_61 : decode b_Mo_drop 61 = .ok (.bipush 6, 2) := by decide +kernel
theorem d_Mo_drop_63 : decode b_Mo_drop 63 = .ok (.if_icmp .ge 34, 3) := by decide +kernel
theorem d_Mo_drop_66 : decode b_Mo_drop 66 = .ok (.aload_n 0, 1) := by decide +kernel
theorem d_Mo_drop_67 : decode b_Mo_drop 67 = .ok (.getfield 16, 3) := by decide +kernel
theorem d_Mo_drop_70 : decode b_Mo_drop 70 = .ok (.bipush 6, 2) := by decide +kernel
theorem d_Mo_drop_72 : decode b_Mo_drop 72 = .ok (.iload_n 2, 1) := by decide +kernel
theorem d_Mo_drop_73 : decode b_Mo_drop 73 = .ok (.imul, 1) := by decide +kernel
theorem d_Mo_drop_74 : decode b_Mo_drop 74 = .ok (.iload_n 3, 1) := by decide +kernel
theorem d_Mo_drop_75 : decode b_Mo_drop 75 = .ok (.iadd, 1) := by decide +kernel
theorem d_Mo_drop_76 : decode b_Mo_drop 76 = .ok (.aload_n 0, 1) := by decide +kernel
theorem d_Mo_drop_77 : decode b_Mo_drop 77 = .ok (.getfield 16, 3) := by decide +kernel
theorem d_Mo_drop_80 : decode b_Mo_drop 80 = .ok (.bipush 6, 2) := by decide +kernel
theorem d_Mo_drop_82 : decode b_Mo_drop 82 = .ok (.iload_n 2, 1) := by decide +kernel
theorem d_Mo_drop_83 : decode b_Mo_drop 83 = .ok (.imul, 1) := by decide +kernel
theorem d_Mo_drop_84 : decode b_Mo_drop 84 = .ok (.bipush 6, 2) := by decide +kernel
theorem d_Mo_drop_86 : decode b_Mo_drop 86 = .ok (.iadd, 1) := by decide +kernel
theorem d_Mo_drop_87 : decode b_Mo_drop 87 = .ok (.iload_n 3, 1) := by decide +kernel
theorem d_Mo_drop_88 : decode b_Mo_drop 88 = .ok (.iadd, 1) := by decide +kernel
theorem d_Mo_drop_89 : decode b_Mo_drop 89 = .ok (.iaload, 1) := by decide +kernel
theorem d_Mo_drop_90 : decode b_Mo_drop 90 = .ok (.iastore, 1) := by decide +kernel
theorem d_Mo_drop_91 : decode b_Mo_drop 91 = .ok (.iinc 3 1, 3) := by decide +kernel
theorem d_Mo_drop_94 : decode b_Mo_drop 94 = .ok (.goto (-34), 3) := by decide +kernel
theorem d_Mo_drop_97 : decode b_Mo_drop 97 = .ok (.iinc 2 1, 3) := by decide +kernel
theorem d_Mo_drop_100 : decode b_Mo_drop 100 = .ok (.goto (-78), 3) := by decide +kernel
theorem d_Mo_drop_103 : decode b_Mo_drop 103 = .ok (.aload_n 0, 1) := by decide +kernel
theorem d_Mo_drop_104 : decode b_Mo_drop 104 = .ok (.iconst 0, 1) := by decide +kernel
theorem d_Mo_drop_105 : decode b_Mo_drop 105 = .ok (.putfield 86, 3) := by decide +kernel
theorem d_Mo_drop_108 : decode b_Mo_drop 108 = .ok (.iconst 1, 1) := by decide +kernel
theorem d_Mo_drop_109 : decode b_Mo_drop 109 = .ok (.ireturn, 1) := by decide +kernel
theorem d_Mo_fill_0 : decode b_Mo_fill 0 = .ok (.iconst 0, 1) := by decide +kernel
theorem d_Mo_fill_1 : decode b_Mo_fill 1 = .ok (.istore_n 3, 1) := by decide +kernel
