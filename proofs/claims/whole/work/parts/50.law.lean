/-! THE CLAIM OUT OF ONE WALK OF THE LAW'S BODY. Your part is whole_start (and what it stands on); all else here is the same for every law, but numbers. -/
def R_law : String := "GrammarLoomLaw"
def lw_P (b : Addr) (xs : List Int32) (args : Array Value) (s : State) : Prop := args = #[.ref b] ∧ s.IntsAt b xs ∧ xs.length ≤ 2560 ∧ (Jvm.Cond.and given_1 narrow_1).before args s = true
def lw_Q (_ : Array Value) (s : State) (o : Outcome) (t : State) : Prop := o = .returned (some (.int 1)) ∧ Framed s o t [] 52 12664
def lw_Z (below : List Frame) (a : Array Value) (s : State) : State → Prop := fun t => ∃ o, t.status = .running ∧ Ended t below o ∧ lw_Q a s o t
/-- the law's own end, with 1 on the stack, nothing written that was there before, its room as the claim has it -/
theorem lw_ret {p : Program} {l : Launch} {e : Env} {s : State} {m : MethodId} {below : List Frame} {meth : Method} {c : Code} {b : Nat} (hx : p.tables.exec = Jvm.exec) (hb : c.code = code) (hr : meth.sig.returnType = ret) (hlocks : meth.locks = false) {pc : Nat} {H : Heap} {ls : Array Slot} (hdg : decode code pc = .ok (.ireturn, 1)) : W p l e room_1 s m #[Value.ref b] below meth c H [] 52 12664 (lw_Z below #[Value.ref b] s) (F0 m pc ls [.int 1]) := by
  intro T hT X
  obtain ⟨fs, hret, hrun, hended, hW, hframe⟩ := X.leave (v := some (.int 1)) (hlocks := hlocks) (fun h => by rw [hr] at h; cases h)
  have hmeth' : T.vm.method? m = some meth := X.method'
  refine ⟨T.setFrames fs, ?_, .returned (some (.int 1)), hrun, hended, rfl, ⟨_, rfl⟩, hW, hframe⟩
  jvm_step X.here [X.here.top, hx, hb, hdg, hmeth', hr, ret, narrow_b1]
  (try refine ⟨rfl, ?_⟩); (try refine ⟨rfl, ?_⟩)
  first | (intro acts; rw [hret _ acts rfl rfl rfl]) | rw [hret _ _ rfl rfl rfl]
  exact Steps.refl _
/-- what holds at the law's entry: the machine, the code, the tables' words (any of lw_tbl by 'hts w (by decide +kernel)'), the script of L ints xs at the cell b, what the Statement gives of the start (any of its parts by flat_of_before) -/
def lw_At (p : Program) (s : State) (m : MethodId) (meth : Method) (c : Code) (b L : Nat) (xs : Nat → Int32) : Prop :=
  p.tables.exec = Jvm.exec ∧ c.code = code ∧ meth.sig.returnType = ret ∧ c.maxLocals = 4 ∧ s.vm.findClass R_law = some m.cls ∧ (∀ w ∈ lw_tbl, w.before #[Value.ref b] s = true) ∧ va_X b L xs s s.heap ∧ b < s.heap.size ∧ meth.locks = false ∧ (Jvm.Cond.and given_1 narrow_1).before #[Value.ref b] s = true
theorem d_law_0 : decode code 0 = .ok (.new 7, 3) := by decide +kernel
theorem d_law_3 : decode code 3 = .ok (.dup, 1) := by decide +kernel
theorem d_law_4 : decode code 4 = .ok (.invokespecial 9, 3) := by decide +kernel
theorem d_law_7 : decode code 7 = .ok (.astore_n 1, 1) := by decide +kernel
theorem d_law_8 : decode code 8 = .ok (.new 10, 3) := by decide +kernel
theorem d_law_11 : decode code 11 = .ok (.dup, 1) := by decide +kernel
theorem d_law_12 : decode code 12 = .ok (.invokespecial 12, 3) := by decide +kernel
theorem d_law_15 : decode code 15 = .ok (.astore_n 2, 1) := by decide +kernel
theorem d_law_16 : decode code 16 = .ok (.iconst 0, 1) := by decide +kernel
theorem d_law_17 : decode code 17 = .ok (.istore_n 3, 1) := by decide +kernel
theorem d_law_18 : decode code 18 = .ok (.iload_n 3, 1) := by decide +kernel
theorem d_law_19 : decode code 19 = .ok (.aload_n 0, 1) := by decide +kernel
theorem d_law_20 : decode code 20 = .ok (.arraylength, 1) := by decide +kernel
theorem d_law_21 : decode code 21 = .ok (.iconst 5, 1) := by decide +kernel
theorem d_law_22 : decode code 22 = .ok (.isub, 1) := by decide +kernel
theorem d_law_23 : decode code 23 = .ok (.if_icmp .gt 509, 3) := by decide +kernel
theorem d_law_26 : decode code 26 = .ok (.aload_n 0, 1) := by decide +kernel
theorem d_law_27 : decode code 27 = .ok (.iload_n 3, 1) := by decide +kernel
theorem d_law_28 : decode code 28 = .ok (.iaload, 1) := by decide +kernel
theorem d_law_29 : decode code 29 = .ok (.bipush 15, 2) := by decide +kernel
theorem d_law_31 : decode code 31 = .ok (.iand, 1) := by decide +kernel
theorem d_law_32 : decode code 32 = .ok (.tableswitch 494 0 14 #[76, 99, 122, 145, 168, 201, 224, 247, 260, 294, 328, 401, 424, 447, 470], 76) := by decide +kernel
theorem d_law_108 : decode code 108 = .ok (.aload_n 1, 1) := by decide +kernel
theorem d_law_109 : decode code 109 = .ok (.aload_n 0, 1) := by decide +kernel
theorem d_law_110 : decode code 110 = .ok (.iload_n 3, 1) := by decide +kernel
theorem d_law_111 : decode code 111 = .ok (.iconst 1, 1) := by decide +kernel
theorem d_law_112 : decode code 112 = .ok (.iadd, 1) := by decide +kernel
theorem d_law_113 : decode code 113 = .ok (.iaload, 1) := by decide +kernel
theorem d_law_114 : decode code 114 = .ok (.invokevirtual 13, 3) := by decide +kernel
theorem d_law_117 : decode code 117 = .ok (.aload_n 2, 1) := by decide +kernel
theorem d_law_118 : decode code 118 = .ok (.aload_n 0, 1) := by decide +kernel
theorem d_law_119 : decode code 119 = .ok (.iload_n 3, 1) := by decide +kernel
theorem d_law_120 : decode code 120 = .ok (.iconst 1, 1) := by decide +kernel
theorem d_law_121 : decode code 121 = .ok (.iadd, 1) := by decide +kernel
theorem d_law_122 : decode code 122 = .ok (.iaload, 1) := by decide +kernel
theorem d_law_123 : decode code 123 = .ok (.invokevirtual 17, 3) := by decide +kernel
theorem d_law_126 : decode code 126 = .ok (.if_icmp .eq 400, 3) := by decide +kernel
theorem d_law_129 : decode code 129 = .ok (.iconst 0, 1) := by decide +kernel
theorem d_law_130 : decode code 130 = .ok (.ireturn, 1) := by decide +kernel
theorem d_law_131 : decode code 131 = .ok (.aload_n 1, 1) := by decide +kernel
theorem d_law_132 : decode code 132 = .ok (.aload_n 0, 1) := by decide +kernel
theorem d_law_133 : decode code 133 = .ok (.iload_n 3, 1) := by decide +kernel
theorem d_law_134 : decode code 134 = .ok (.iconst 1, 1) := by decide +kernel
theorem d_law_135 : decode code 135 = .ok (.iadd, 1) := by decide +kernel
theorem d_law_136 : decode code 136 = .ok (.iaload, 1) := by decide +kernel
theorem d_law_137 : decode code 137 = .ok (.invokevirtual 18, 3) := by decide +kernel
theorem d_law_140 : decode code 140 = .ok (.aload_n 2, 1) := by decide +kernel
theorem d_law_141 : decode code 141 = .ok (.aload_n 0, 1) := by decide +kernel
theorem d_law_142 : decode code 142 = .ok (.iload_n 3, 1) := by decide +kernel
theorem d_law_143 : decode code 143 = .ok (.iconst 1, 1) := by decide +kernel
theorem d_law_144 : decode code 144 = .ok (.iadd, 1) := by decide +kernel
theorem d_law_145 : decode code 145 = .ok (.iaload, 1) := by decide +kernel
theorem d_law_146 : decode code 146 = .ok (.invokevirtual 21, 3) := by decide +kernel
theorem d_law_149 : decode code 149 = .ok (.if_icmp .eq 377, 3) := by decide +kernel
theorem d_law_152 : decode code 152 = .ok (.iconst 0, 1) := by decide +kernel
theorem d_law_153 : decode code 153 = .ok (.ireturn, 1) := by decide +kernel
theorem d_law_154 : decode code 154 = .ok (.aload_n 1, 1) := by decide +kernel
theorem d_law_155 : decode code 155 = .ok (.aload_n 0, 1) := by decide +kernel
theorem d_law_156 : decode code 156 = .ok (.iload_n 3, 1) := by decide +kernel
theorem d_law_157 : decode code 157 = .ok (.iconst 1, 1) := by decide +kernel
theorem d_law_158 : decode code 158 = .ok (.iadd, 1) := by decide +kernel
theorem d_law_159 : decode code 159 = .ok (.iaload, 1) := by decide +kernel
theorem d_law_160 : decode code 160 = .ok (.invokevirtual 22, 3) := by decide +kernel
theorem d_law_163 : decode code 163 = .ok (.aload_n 2, 1) := by decide +kernel
theorem d_law_164 : decode code 164 = .ok (.aload_n 0, 1) := by decide +kernel
theorem d_law_165 : decode code 165 = .ok (.iload_n 3, 1) := by decide +kernel
theorem d_law_166 : decode code 166 = .ok (.iconst 1, 1) := by decide +kernel
theorem d_law_167 : decode code 167 = .ok (.iadd, 1) := by decide +kernel
theorem d_law_168 : decode code 168 = .ok (.iaload, 1) := by decide +kernel
theorem d_law_169 : decode code 169 = .ok (.invokevirtual 26, 3) := by decide +kernel
theorem d_law_172 : decode code 172 = .ok (.if_icmp .eq 354, 3) := by decide +kernel
theorem d_law_175 : decode code 175 = .ok (.iconst 0, 1) := by decide +kernel
theorem d_law_176 : decode code 176 = .ok (.ireturn, 1) := by decide +kernel
theorem d_law_177 : decode code 177 = .ok (.aload_n 1, 1) := by decide +kernel
theorem d_law_178 : decode code 178 = .ok (.aload_n 0, 1) := by decide +kernel
theorem d_law_179 : decode code 179 = .ok (.iload_n 3, 1) := by decide +kernel
theorem d_law_180 : decode code 180 = .ok (.iconst 1, 1) := by decide +kernel
theorem d_law_181 : decode code 181 = .ok (.iadd, 1) := by decide +kernel
theorem d_law_182 : decode code 182 = .ok (.iaload, 1) := by decide +kernel
theorem d_law_183 : decode code 183 = .ok (.invokevirtual 27, 3) := by decide +kernel
theorem d_law_186 : decode code 186 = .ok (.aload_n 2, 1) := by decide +kernel
theorem d_law_187 : decode code 187 = .ok (.aload_n 0, 1) := by decide +kernel
theorem d_law_188 : decode code 188 = .ok (.iload_n 3, 1) := by decide +kernel
theorem d_law_189 : decode code 189 = .ok (.iconst 1, 1) := by decide +kernel
theorem d_law_190 : decode code 190 = .ok (.iadd, 1) := by decide +kernel
theorem d_law_191 : decode code 191 = .ok (.iaload, 1) := by decide +kernel
theorem d_law_192 : decode code 192 = .ok (.invokevirtual 30, 3) := by decide +kernel
theorem d_law_195 : decode code 195 = .ok (.if_icmp .eq 331, 3) := by decide +kernel
theorem d_law_198 : decode code 198 = .ok (.iconst 0, 1) := by decide +kernel
theorem d_law_199 : decode code 199 = .ok (.ireturn, 1) := by decide +kernel
theorem d_law_200 : decode code 200 = .ok (.aload_n 1, 1) := by decide +kernel
theorem d_law_201 : decode code 201 = .ok (.aload_n 0, 1) := by decide +kernel
theorem d_law_202 : decode code 202 = .ok (.iload_n 3, 1) := by decide +kernel
theorem d_law_203 : decode code 203 = .ok (.iconst 1, 1) := by decide +kernel
theorem d_law_204 : decode code 204 = .ok (.iadd, 1) := by decide +kernel
theorem d_law_205 : decode code 205 = .ok (.iaload, 1) := by decide +kernel
theorem d_law_206 : decode code 206 = .ok (.aload_n 0, 1) := by decide +kernel
theorem d_law_207 : decode code 207 = .ok (.iload_n 3, 1) := by decide +kernel
theorem d_law_208 : decode code 208 = .ok (.iconst 2, 1) := by decide +kernel
theorem d_law_209 : decode code 209 = .ok (.iadd, 1) := by decide +kernel
theorem d_law_210 : decode code 210 = .ok (.iaload, 1) := by decide +kernel
theorem d_law_211 : decode code 211 = .ok (.invokevirtual 31, 3) := by decide +kernel
theorem d_law_214 : decode code 214 = .ok (.aload_n 2, 1) := by decide +kernel
theorem d_law_215 : decode code 215 = .ok (.aload_n 0, 1) := by decide +kernel
theorem d_law_216 : decode code 216 = .ok (.iload_n 3, 1) := by decide +kernel
theorem d_law_217 : decode code 217 = .ok (.iconst 1, 1) := by decide +kernel
theorem d_law_218 : decode code 218 = .ok (.iadd, 1) := by decide +kernel
theorem d_law_219 : decode code 219 = .ok (.iaload, 1) := by decide +kernel
theorem d_law_220 : decode code 220 = .ok (.aload_n 0, 1) := by decide +kernel
theorem d_law_221 : decode code 221 = .ok (.iload_n 3, 1) := by decide +kernel
theorem d_law_222 : decode code 222 = .ok (.iconst 2, 1) := by decide +kernel
theorem d_law_223 : decode code 223 = .ok (.iadd, 1) := by decide +kernel
theorem d_law_224 : decode code 224 = .ok (.iaload, 1) := by decide +kernel
theorem d_law_225 : decode code 225 = .ok (.invokevirtual 35, 3) := by decide +kernel
theorem d_law_228 : decode code 228 = .ok (.if_icmp .eq 298, 3) := by decide +kernel
theorem d_law_231 : decode code 231 = .ok (.iconst 0, 1) := by decide +kernel
theorem d_law_232 : decode code 232 = .ok (.ireturn, 1) := by decide +kernel
theorem d_law_233 : decode code 233 = .ok (.aload_n 1, 1) := by decide +kernel
theorem d_law_234 : decode code 234 = .ok (.aload_n 0, 1) := by decide +kernel
theorem d_law_235 : decode code 235 = .ok (.iload_n 3, 1) := by decide +kernel
theorem d_law_236 : decode code 236 = .ok (.iconst 1, 1) := by decide +kernel
theorem d_law_237 : decode code 237 = .ok (.iadd, 1) := by decide +kernel
theorem d_law_238 : decode code 238 = .ok (.iaload, 1) := by decide +kernel
theorem d_law_239 : decode code 239 = .ok (.invokevirtual 36, 3) := by decide +kernel
theorem d_law_242 : decode code 242 = .ok (.aload_n 2, 1) := by decide +kernel
theorem d_law_243 : decode code 243 = .ok (.aload_n 0, 1) := by decide +kernel
theorem d_law_244 : decode code 244 = .ok (.iload_n 3, 1) := by decide +kernel
theorem d_law_245 : decode code 245 = .ok (.iconst 1, 1) := by decide +kernel
theorem d_law_246 : decode code 246 = .ok (.iadd, 1) := by decide +kernel
theorem d_law_247 : decode code 247 = .ok (.iaload, 1) := by decide +kernel
theorem d_law_248 : decode code 248 = .ok (.invokevirtual 39, 3) := by decide +kernel
theorem d_law_251 : decode code 251 = .ok (.if_icmp .eq 275, 3) := by decide +kernel
theorem d_law_254 : decode code 254 = .ok (.iconst 0, 1) := by decide +kernel
theorem d_law_255 : decode code 255 = .ok (.ireturn, 1) := by decide +kernel
theorem d_law_256 : decode code 256 = .ok (.aload_n 1, 1) := by decide +kernel
theorem d_law_257 : decode code 257 = .ok (.aload_n 0, 1) := by decide +kernel
theorem d_law_258 : decode code 258 = .ok (.iload_n 3, 1) := by decide +kernel
theorem d_law_259 : decode code 259 = .ok (.iconst 1, 1) := by decide +kernel
theorem d_law_260 : decode code 260 = .ok (.iadd, 1) := by decide +kernel
theorem d_law_261 : decode code 261 = .ok (.iaload, 1) := by decide +kernel
theorem d_law_262 : decode code 262 = .ok (.invokevirtual 40, 3) := by decide +kernel
theorem d_law_265 : decode code 265 = .ok (.aload_n 2, 1) := by decide +kernel
theorem d_law_266 : decode code 266 = .ok (.aload_n 0, 1) := by decide +kernel
theorem d_law_267 : decode code 267 = .ok (.iload_n 3, 1) := by decide +kernel
theorem d_law_268 : decode code 268 = .ok (.iconst 1, 1) := by decide +kernel
theorem d_law_269 : decode code 269 = .ok (.iadd, 1) := by decide +kernel
theorem d_law_270 : decode code 270 = .ok (.iaload, 1) := by decide +kernel
theorem d_law_271 : decode code 271 = .ok (.invokevirtual 43, 3) := by decide +kernel
theorem d_law_274 : decode code 274 = .ok (.if_icmp .eq 252, 3) := by decide +kernel
theorem d_law_277 : decode code 277 = .ok (.iconst 0, 1) := by decide +kernel
theorem d_law_278 : decode code 278 = .ok (.ireturn, 1) := by decide +kernel
theorem d_law_279 : decode code 279 = .ok (.aload_n 1, 1) := by decide +kernel
theorem d_law_280 : decode code 280 = .ok (.invokevirtual 44, 3) := by decide +kernel
theorem d_law_283 : decode code 283 = .ok (.aload_n 2, 1) := by decide +kernel
theorem d_law_284 : decode code 284 = .ok (.invokevirtual 48, 3) := by decide +kernel
theorem d_law_287 : decode code 287 = .ok (.if_icmp .eq 239, 3) := by decide +kernel
theorem d_law_290 : decode code 290 = .ok (.iconst 0, 1) := by decide +kernel
theorem d_law_291 : decode code 291 = .ok (.ireturn, 1) := by decide +kernel
theorem d_law_292 : decode code 292 = .ok (.aload_n 1, 1) := by decide +kernel
theorem d_law_293 : decode code 293 = .ok (.aload_n 0, 1) := by decide +kernel
theorem d_law_294 : decode code 294 = .ok (.iload_n 3, 1) := by decide +kernel
theorem d_law_295 : decode code 295 = .ok (.iconst 1, 1) := by decide +kernel
theorem d_law_296 : decode code 296 = .ok (.iadd, 1) := by decide +kernel
theorem d_law_297 : decode code 297 = .ok (.iaload, 1) := by decide +kernel
theorem d_law_298 : decode code 298 = .ok (.aload_n 0, 1) := by decide +kernel
theorem d_law_299 : decode code 299 = .ok (.iload_n 3, 1) := by decide +kernel
theorem d_law_300 : decode code 300 = .ok (.iconst 2, 1) := by decide +kernel
theorem d_law_301 : decode code 301 = .ok (.iadd, 1) := by decide +kernel
theorem d_law_302 : decode code 302 = .ok (.iaload, 1) := by decide +kernel
theorem d_law_303 : decode code 303 = .ok (.invokevirtual 49, 3) := by decide +kernel
theorem d_law_306 : decode code 306 = .ok (.aload_n 2, 1) := by decide +kernel
theorem d_law_307 : decode code 307 = .ok (.aload_n 0, 1) := by decide +kernel
theorem d_law_308 : decode code 308 = .ok (.iload_n 3, 1) := by decide +kernel
theorem d_law_309 : decode code 309 = .ok (.iconst 1, 1) := by decide +kernel
theorem d_law_310 : decode code 310 = .ok (.iadd, 1) := by decide +kernel
theorem d_law_311 : decode code 311 = .ok (.iaload, 1) := by decide +kernel
theorem d_law_312 : decode code 312 = .ok (.aload_n 0, 1) := by decide +kernel
theorem d_law_313 : decode code 313 = .ok (.iload_n 3, 1) := by decide +kernel
theorem d_law_314 : decode code 314 = .ok (.iconst 2, 1) := by decide +kernel
theorem d_law_315 : decode code 315 = .ok (.iadd, 1) := by decide +kernel
theorem d_law_316 : decode code 316 = .ok (.iaload, 1) := by decide +kernel
theorem d_law_317 : decode code 317 = .ok (.invokevirtual 53, 3) := by decide +kernel
theorem d_law_320 : decode code 320 = .ok (.lcmp, 1) := by decide +kernel
theorem d_law_321 : decode code 321 = .ok (.ifCond .eq 205, 3) := by decide +kernel
theorem d_law_324 : decode code 324 = .ok (.iconst 0, 1) := by decide +kernel
theorem d_law_325 : decode code 325 = .ok (.ireturn, 1) := by decide +kernel
theorem d_law_326 : decode code 326 = .ok (.aload_n 1, 1) := by decide +kernel
theorem d_law_327 : decode code 327 = .ok (.aload_n 0, 1) := by decide +kernel
theorem d_law_328 : decode code 328 = .ok (.iload_n 3, 1) := by decide +kernel
theorem d_law_329 : decode code 329 = .ok (.iconst 1, 1) := by decide +kernel
theorem d_law_330 : decode code 330 = .ok (.iadd, 1) := by decide +kernel
theorem d_law_331 : decode code 331 = .ok (.iaload, 1) := by decide +kernel
theorem d_law_332 : decode code 332 = .ok (.aload_n 0, 1) := by decide +kernel
theorem d_law_333 : decode code 333 = .ok (.iload_n 3, 1) := by decide +kernel
theorem d_law_334 : decode code 334 = .ok (.iconst 2, 1) := by decide +kernel
theorem d_law_335 : decode code 335 = .ok (.iadd, 1) := by decide +kernel
theorem d_law_336 : decode code 336 = .ok (.iaload, 1) := by decide +kernel
theorem d_law_337 : decode code 337 = .ok (.invokevirtual 54, 3) := by decide +kernel
theorem d_law_340 : decode code 340 = .ok (.aload_n 2, 1) := by decide +kernel
theorem d_law_341 : decode code 341 = .ok (.aload_n 0, 1) := by decide +kernel
theorem d_law_342 : decode code 342 = .ok (.iload_n 3, 1) := by decide +kernel
theorem d_law_343 : decode code 343 = .ok (.iconst 1, 1) := by decide +kernel
theorem d_law_344 : decode code 344 = .ok (.iadd, 1) := by decide +kernel
theorem d_law_345 : decode code 345 = .ok (.iaload, 1) := by decide +kernel
theorem d_law_346 : decode code 346 = .ok (.aload_n 0, 1) := by decide +kernel
theorem d_law_347 : decode code 347 = .ok (.iload_n 3, 1) := by decide +kernel
theorem d_law_348 : decode code 348 = .ok (.iconst 2, 1) := by decide +kernel
theorem d_law_349 : decode code 349 = .ok (.iadd, 1) := by decide +kernel
theorem d_law_350 : decode code 350 = .ok (.iaload, 1) := by decide +kernel
theorem d_law_351 : decode code 351 = .ok (.invokevirtual 57, 3) := by decide +kernel
theorem d_law_354 : decode code 354 = .ok (.lcmp, 1) := by decide +kernel
theorem d_law_355 : decode code 355 = .ok (.ifCond .eq 171, 3) := by decide +kernel
theorem d_law_358 : decode code 358 = .ok (.iconst 0, 1) := by decide +kernel
theorem d_law_359 : decode code 359 = .ok (.ireturn, 1) := by decide +kernel
theorem d_law_360 : decode code 360 = .ok (.aload_n 1, 1) := by decide +kernel
theorem d_law_361 : decode code 361 = .ok (.aload_n 0, 1) := by decide +kernel
theorem d_law_362 : decode code 362 = .ok (.iload_n 3, 1) := by decide +kernel
theorem d_law_363 : decode code 363 = .ok (.iconst 1, 1) := by decide +kernel
theorem d_law_364 : decode code 364 = .ok (.iadd, 1) := by decide +kernel
theorem d_law_365 : decode code 365 = .ok (.iaload, 1) := by decide +kernel
theorem d_law_366 : decode code 366 = .ok (.aload_n 0, 1) := by decide +kernel
theorem d_law_367 : decode code 367 = .ok (.iload_n 3, 1) := by decide +kernel
theorem d_law_368 : decode code 368 = .ok (.iconst 2, 1) := by decide +kernel
theorem d_law_369 : decode code 369 = .ok (.iadd, 1) := by decide +kernel
theorem d_law_370 : decode code 370 = .ok (.iaload, 1) := by decide +kernel
theorem d_law_371 : decode code 371 = .ok (.aload_n 0, 1) := by decide +kernel
theorem d_law_372 : decode code 372 = .ok (.iload_n 3, 1) := by decide +kernel
theorem d_law_373 : decode code 373 = .ok (.iconst 3, 1) := by decide +kernel
theorem d_law_374 : decode code 374 = .ok (.iadd, 1) := by decide +kernel
theorem d_law_375 : decode code 375 = .ok (.iaload, 1) := by decide +kernel
theorem d_law_376 : decode code 376 = .ok (.i2l, 1) := by decide +kernel
theorem d_law_377 : decode code 377 = .ok (.bipush 32, 2) := by decide +kernel
theorem d_law_379 : decode code 379 = .ok (.lshl, 1) := by decide +kernel
theorem d_law_380 : decode code 380 = .ok (.aload_n 0, 1) := by decide +kernel
theorem d_law_381 : decode code 381 = .ok (.iload_n 3, 1) := by decide +kernel
theorem d_law_382 : decode code 382 = .ok (.iconst 4, 1) := by decide +kernel
theorem d_law_383 : decode code 383 = .ok (.iadd, 1) := by decide +kernel
theorem d_law_384 : decode code 384 = .ok (.iaload, 1) := by decide +kernel
theorem d_law_385 : decode code 385 = .ok (.i2l, 1) := by decide +kernel
theorem d_law_386 : decode code 386 = .ok (.ldc2_w 58, 3) := by decide +kernel
theorem d_law_389 : decode code 389 = .ok (.land, 1) := by decide +kernel
theorem d_law_390 : decode code 390 = .ok (.lor, 1) := by decide +kernel
theorem d_law_391 : decode code 391 = .ok (.invokevirtual 60, 3) := by decide +kernel
theorem d_law_394 : decode code 394 = .ok (.aload_n 2, 1) := by decide +kernel
theorem d_law_395 : decode code 395 = .ok (.aload_n 0, 1) := by decide +kernel
theorem d_law_396 : decode code 396 = .ok (.iload_n 3, 1) := by decide +kernel
theorem d_law_397 : decode code 397 = .ok (.iconst 1, 1) := by decide +kernel
theorem d_law_398 : decode code 398 = .ok (.iadd, 1) := by decide +kernel
theorem d_law_399 : decode code 399 = .ok (.iaload, 1) := by decide +kernel
theorem d_law_400 : decode code 400 = .ok (.aload_n 0, 1) := by decide +kernel
theorem d_law_401 : decode code 401 = .ok (.iload_n 3, 1) := by decide +kernel
theorem d_law_402 : decode code 402 = .ok (.iconst 2, 1) := by decide +kernel
theorem d_law_403 : decode code 403 = .ok (.iadd, 1) := by decide +kernel
theorem d_law_404 : decode code 404 = .ok (.iaload, 1) := by decide +kernel
theorem d_law_405 : decode code 405 = .ok (.aload_n 0, 1) := by decide +kernel
theorem d_law_406 : decode code 406 = .ok (.iload_n 3, 1) := by decide +kernel
theorem d_law_407 : decode code 407 = .ok (.iconst 3, 1) := by decide +kernel
theorem d_law_408 : decode code 408 = .ok (.iadd, 1) := by decide +kernel
theorem d_law_409 : decode code 409 = .ok (.iaload, 1) := by decide +kernel
theorem d_law_410 : decode code 410 = .ok (.i2l, 1) := by decide +kernel
theorem d_law_411 : decode code 411 = .ok (.bipush 32, 2) := by decide +kernel
theorem d_law_413 : decode code 413 = .ok (.lshl, 1) := by decide +kernel
theorem d_law_414 : decode code 414 = .ok (.aload_n 0, 1) := by decide +kernel
theorem d_law_415 : decode code 415 = .ok (.iload_n 3, 1) := by decide +kernel
theorem d_law_416 : decode code 416 = .ok (.iconst 4, 1) := by decide +kernel
theorem d_law_417 : decode code 417 = .ok (.iadd, 1) := by decide +kernel
theorem d_law_418 : decode code 418 = .ok (.iaload, 1) := by decide +kernel
theorem d_law_419 : decode code 419 = .ok (.i2l, 1) := by decide +kernel
theorem d_law_420 : decode code 420 = .ok (.ldc2_w 58, 3) := by decide +kernel
theorem d_law_423 : decode code 423 = .ok (.land, 1) := by decide +kernel
theorem d_law_424 : decode code 424 = .ok (.lor, 1) := by decide +kernel
theorem d_law_425 : decode code 425 = .ok (.invokevirtual 64, 3) := by decide +kernel
theorem d_law_428 : decode code 428 = .ok (.if_icmp .eq 98, 3) := by decide +kernel
theorem d_law_431 : decode code 431 = .ok (.iconst 0, 1) := by decide +kernel
theorem d_law_432 : decode code 432 = .ok (.ireturn, 1) := by decide +kernel
theorem d_law_433 : decode code 433 = .ok (.aload_n 1, 1) := by decide +kernel
theorem d_law_434 : decode code 434 = .ok (.aload_n 0, 1) := by decide +kernel
theorem d_law_435 : decode code 435 = .ok (.iload_n 3, 1) := by decide +kernel
theorem d_law_436 : decode code 436 = .ok (.iconst 1, 1) := by decide +kernel
theorem d_law_437 : decode code 437 = .ok (.iadd, 1) := by decide +kernel
theorem d_law_438 : decode code 438 = .ok (.iaload, 1) := by decide +kernel
theorem d_law_439 : decode code 439 = .ok (.invokevirtual 65, 3) := by decide +kernel
theorem d_law_442 : decode code 442 = .ok (.aload_n 2, 1) := by decide +kernel
theorem d_law_443 : decode code 443 = .ok (.aload_n 0, 1) := by decide +kernel
theorem d_law_444 : decode code 444 = .ok (.iload_n 3, 1) := by decide +kernel
theorem d_law_445 : decode code 445 = .ok (.iconst 1, 1) := by decide +kernel
theorem d_law_446 : decode code 446 = .ok (.iadd, 1) := by decide +kernel
theorem d_law_447 : decode code 447 = .ok (.iaload, 1) := by decide +kernel
theorem d_law_448 : decode code 448 = .ok (.invokevirtual 68, 3) := by decide +kernel
theorem d_law_451 : decode code 451 = .ok (.if_icmp .eq 75, 3) := by decide +kernel
theorem d_law_454 : decode code 454 = .ok (.iconst 0, 1) := by decide +kernel
theorem d_law_455 : decode code 455 = .ok (.ireturn, 1) := by decide +kernel
theorem d_law_456 : decode code 456 = .ok (.aload_n 1, 1) := by decide +kernel
theorem d_law_457 : decode code 457 = .ok (.aload_n 0, 1) := by decide +kernel
theorem d_law_458 : decode code 458 = .ok (.iload_n 3, 1) := by decide +kernel
theorem d_law_459 : decode code 459 = .ok (.iconst 1, 1) := by decide +kernel
theorem d_law_460 : decode code 460 = .ok (.iadd, 1) := by decide +kernel
theorem d_law_461 : decode code 461 = .ok (.iaload, 1) := by decide +kernel
theorem d_law_462 : decode code 462 = .ok (.invokevirtual 69, 3) := by decide +kernel
theorem d_law_465 : decode code 465 = .ok (.aload_n 2, 1) := by decide +kernel
theorem d_law_466 : decode code 466 = .ok (.aload_n 0, 1) := by decide +kernel
theorem d_law_467 : decode code 467 = .ok (.iload_n 3, 1) := by decide +kernel
theorem d_law_468 : decode code 468 = .ok (.iconst 1, 1) := by decide +kernel
theorem d_law_469 : decode code 469 = .ok (.iadd, 1) := by decide +kernel
theorem d_law_470 : decode code 470 = .ok (.iaload, 1) := by decide +kernel
theorem d_law_471 : decode code 471 = .ok (.invokevirtual 72, 3) := by decide +kernel
theorem d_law_474 : decode code 474 = .ok (.if_icmp .eq 52, 3) := by decide +kernel
theorem d_law_477 : decode code 477 = .ok (.iconst 0, 1) := by decide +kernel
theorem d_law_478 : decode code 478 = .ok (.ireturn, 1) := by decide +kernel
theorem d_law_479 : decode code 479 = .ok (.aload_n 1, 1) := by decide +kernel
theorem d_law_480 : decode code 480 = .ok (.aload_n 0, 1) := by decide +kernel
theorem d_law_481 : decode code 481 = .ok (.iload_n 3, 1) := by decide +kernel
theorem d_law_482 : decode code 482 = .ok (.iconst 1, 1) := by decide +kernel
theorem d_law_483 : decode code 483 = .ok (.iadd, 1) := by decide +kernel
theorem d_law_484 : decode code 484 = .ok (.iaload, 1) := by decide +kernel
theorem d_law_485 : decode code 485 = .ok (.invokevirtual 73, 3) := by decide +kernel
theorem d_law_488 : decode code 488 = .ok (.aload_n 2, 1) := by decide +kernel
theorem d_law_489 : decode code 489 = .ok (.aload_n 0, 1) := by decide +kernel
theorem d_law_490 : decode code 490 = .ok (.iload_n 3, 1) := by decide +kernel
theorem d_law_491 : decode code 491 = .ok (.iconst 1, 1) := by decide +kernel
theorem d_law_492 : decode code 492 = .ok (.iadd, 1) := by decide +kernel
theorem d_law_493 : decode code 493 = .ok (.iaload, 1) := by decide +kernel
theorem d_law_494 : decode code 494 = .ok (.invokevirtual 76, 3) := by decide +kernel
theorem d_law_497 : decode code 497 = .ok (.if_icmp .eq 29, 3) := by decide +kernel
theorem d_law_500 : decode code 500 = .ok (.iconst 0, 1) := by decide +kernel
theorem d_law_501 : decode code 501 = .ok (.ireturn, 1) := by decide +kernel
theorem d_law_502 : decode code 502 = .ok (.aload_n 1, 1) := by decide +kernel
theorem d_law_503 : decode code 503 = .ok (.aload_n 0, 1) := by decide +kernel
theorem d_law_504 : decode code 504 = .ok (.iload_n 3, 1) := by decide +kernel
theorem d_law_505 : decode code 505 = .ok (.iconst 1, 1) := by decide +kernel
theorem d_law_506 : decode code 506 = .ok (.iadd, 1) := by decide +kernel
theorem d_law_507 : decode code 507 = .ok (.iaload, 1) := by decide +kernel
theorem d_law_508 : decode code 508 = .ok (.invokevirtual 77, 3) := by decide +kernel
theorem d_law_511 : decode code 511 = .ok (.aload_n 2, 1) := by decide +kernel
theorem d_law_512 : decode code 512 = .ok (.aload_n 0, 1) := by decide +kernel
theorem d_law_513 : decode code 513 = .ok (.iload_n 3, 1) := by decide +kernel
theorem d_law_514 : decode code 514 = .ok (.iconst 1, 1) := by decide +kernel
theorem d_law_515 : decode code 515 = .ok (.iadd, 1) := by decide +kernel
theorem d_law_516 : decode code 516 = .ok (.iaload, 1) := by decide +kernel
theorem d_law_517 : decode code 517 = .ok (.invokevirtual 81, 3) := by decide +kernel
theorem d_law_520 : decode code 520 = .ok (.lcmp, 1) := by decide +kernel
theorem d_law_521 : decode code 521 = .ok (.ifCond .eq 5, 3) := by decide +kernel
theorem d_law_524 : decode code 524 = .ok (.iconst 0, 1) := by decide +kernel
theorem d_law_525 : decode code 525 = .ok (.ireturn, 1) := by decide +kernel
theorem d_law_526 : decode code 526 = .ok (.iinc 3 5, 3) := by decide +kernel
theorem d_law_529 : decode code 529 = .ok (.goto (-511), 3) := by decide +kernel
theorem d_law_532 : decode code 532 = .ok (.iconst 1, 1) := by decide +kernel
theorem d_law_533 : decode code 533 = .ok (.ireturn, 1) := by decide +kernel
abbrev lw_J (p : Program) (l : Launch) (e : Env) (s : State) (m : MethodId) (below : List Frame) (meth : Method) (c : Code) (b : Nat) (dC : Nat → ClassId) (dI : Nat → Nat → Nat) (pc : Nat) (L : List (Nat × Value)) (st : List Value) (w : va_W) : Prop := gj_J p l e room_1 s m #[Value.ref b] below meth c 52 12664 (lw_Z below #[Value.ref b] s) (dC, dI) gs_C (fun q : Nat => s.heap.size ≤ q) 4 pc L st w
section LAW0
variable {p : Program} {l : Launch} {e : Env} {R : Room} {s : State} {m : MethodId} {args : Array Value} {below : List Frame} {meth : Method} {c : Code} {cells slots : Nat} {Q : State → Prop} {D : va_G} {cl : List vw_C} {tys : List (ClassId × FieldType)} {A : Nat → Prop} {cc : ByteArray} {nL pc : Nat} {own : String} {Ts : List Cond} {L : List (Nat × Value)} {st : List Value} {w : va_W}
theorem gj_sld (X : gj_X p s m c args cc nL own Ts D cl tys) {b N : Nat} {xs : Nat → Int32} (hX : va_X b N xs s s.heap) (hbl : b < s.heap.size) (hbA : ¬ A b) {i : Int32} (hin : vp_in i N) (hdg : decode cc pc = .ok (.iaload, 1)) (kk : gj_J p l e R s m args below meth c cells slots Q D cl A nL (pc + 1) L (.int (xs i.toNatClampNeg) :: st) w) : gj_J p l e R s m args below meth c cells slots Q D cl A nL pc L (.int i :: .ref b :: st) w := fun H locs ls hP hD hS hv => va_sld X.1 X.2.1 hX hbl hbA hS hin hdg (kk H locs ls hP hD hS hv)
theorem gj_slen (X : gj_X p s m c args cc nL own Ts D cl tys) {b N : Nat} {xs : Nat → Int32} (hX : va_X b N xs s s.heap) (hbl : b < s.heap.size) (hbA : ¬ A b) (hdg : decode cc pc = .ok (.arraylength, 1)) (kk : gj_J p l e R s m args below meth c cells slots Q D cl A nL (pc + 1) L (.int (Int32.ofNat N) :: st) w) : gj_J p l e R s m args below meth c cells slots Q D cl A nL pc L (.ref b :: st) w := fun H locs ls hP hD hS hv => va_slen X.1 X.2.1 hX hbl hbA hS hdg (kk H locs ls hP hD hS hv)
theorem gj_lshl (X : gj_X p s m c args cc nL own Ts D cl tys) {x : Int64} {y : Int32} (hdg : decode cc pc = .ok (.lshl, 1)) (kk : gj_J p l e R s m args below meth c cells slots Q D cl A nL (pc + 1) L (.long (x <<< (y.toInt64 &&& 63)) :: st) w) : gj_J p l e R s m args below meth c cells slots Q D cl A nL pc L (.int y :: .long x :: st) w := fun H locs ls hP hD hS hv => lv_lshl X.1 X.2.1 hdg rfl (kk H locs ls hP hD hS hv)
end LAW0
theorem law_in {i k L : Nat} (hi : i + 5 ≤ L) (hk : k < 5) (hL : L ≤ 2560) : vp_in (nI i + nI k) L := by
  rw [nI_add]
  exact vp_in_nI (by omega) (by omega)
theorem law_C1 (h g : Nat → Nat) (cI cL cZ : ClassId) (σ μ : gs_St) : [0, 1, 2, 3, 4, 5, 6, 7, 8, 9, 10, 11, 12, 13, 14, 15, 16, 17, 18, 19, 20, 21, 22, 23, 24, 25, 26, 27, 28, 29, 30].map (fun i => (wG h cI cL σ ++ wM g cI cL cZ μ)[i]?) = (wG h cI cL σ).map some := rfl
theorem law_R1 (h g : Nat → Nat) (cI cL cZ : ClassId) (σ μ : gs_St) : [31, 32, 33, 34, 35, 36, 37, 38, 39, 40, 41, 42, 43, 44, 45, 46, 47, 48, 49, 50, 51].map (fun i => (wG h cI cL σ ++ wM g cI cL cZ μ)[i]?) = (wM g cI cL cZ μ).map some := rfl
theorem law_C2 (h g : Nat → Nat) (cI cL cZ : ClassId) (σ μ : gs_St) : [0, 1, 2, 3, 4, 5, 6, 7, 8, 9, 10, 11, 12, 13, 14, 15, 16, 17, 18, 19, 20].map (fun i => (wM g cI cL cZ μ ++ wG h cI cL σ)[i]?) = (wM g cI cL cZ μ).map some := rfl
theorem law_R2 (h g : Nat → Nat) (cI cL cZ : ClassId) (σ μ : gs_St) : [21, 22, 23, 24, 25, 26, 27, 28, 29, 30, 31, 32, 33, 34, 35, 36, 37, 38, 39, 40, 41, 42, 43, 44, 45, 46, 47, 48, 49, 50, 51].map (fun i => (wM g cI cL cZ μ ++ wG h cI cL σ)[i]?) = (wG h cI cL σ).map some := rfl
section LAW
variable {p : Program} {l : Launch} {e : Env} {s : State} {m : MethodId} {below : List Frame} {meth : Method} {c : Code} {b L : Nat} {xs : Nat → Int32} {dC : Nat → ClassId} {dI : Nat → Nat → Nat} {cI cL cZ : ClassId}
set_option maxHeartbeats 4000000 in
set_option maxRecDepth 100000 in
theorem law_c0 (X : gj_X p s m c #[Value.ref b] code 4 "GrammarLoomLaw" gj_tbl (dC, dI) gs_C (gs_T cI cL cZ)) (hX : va_X b L xs s s.heap) (hbl : b < s.heap.size) (hL : L ≤ 2560) {i : Nat} (hi : i + 5 ≤ L) {h g : Nat → Nat} {σ μ : gs_St} (hinv : lw_inv σ μ) (back : ∀ (h' : Nat → Nat) (σ' μ' : gs_St), lw_inv σ' μ' → lw_J p l e s m below meth c b dC dI (526) ([(3, .int (nI i)), (2, .ref (g 0)), (1, .ref (h' 0)), (0, .ref b)]) ([]) (wG h' cI cL σ' ++ wM g cI cL cZ μ')) : lw_J p l e s m below meth c b dC dI (108) ([(3, .int (nI i)), (2, .ref (g 0)), (1, .ref (h 0)), (0, .ref b)]) ([]) (wG h cI cL σ ++ wM g cI cL cZ μ) := by
  refine gj_aload_n X d_law_108 rfl 2 rfl ?_
  refine gj_aload_n X d_law_109 rfl 3 rfl ?_
  refine gj_iload_n X d_law_110 rfl 0 rfl ?_
  refine gj_iconst (v := 1) X d_law_111 (by decide) ?_
  refine gj_iadd X d_law_112 ?_
  refine gj_sld X hX hbl (Nat.not_le.mpr hbl) (law_in (k := 1) hi (by decide) hL) d_law_113 ?_
  refine gj_cutVI (As := [.int (xs (nI i + 1).toNatClampNeg)]) (st := []) X (c_Gl_symbol l dC dI h cI cL cZ σ ((xs (nI i + 1).toNatClampNeg)) _ (ag_symbol hinv)) ⟨gj_cwB X tw_242 tw_1 tw_239 hd_Gl_symbol rfl rfl ⟨Nat.le_of_ble_eq_true rfl, Nat.le_of_ble_eq_true rfl⟩, X.2.2.2.2.1 _ tw_240, X.2.2.2.2.1 _ tw_241⟩ 0 rfl rfl [0, 1, 2, 3, 4, 5, 6, 7, 8, 9, 10, 11, 12, 13, 14, 15, 16, 17, 18, 19, 20, 21, 22, 23, 24, 25, 26, 27, 28, 29, 30] [31, 32, 33, 34, 35, 36, 37, 38, 39, 40, 41, 42, 43, 44, 45, 46, 47, 48, 49, 50, 51] (law_C1 h g cI cL cZ σ μ) (wr := wM g cI cL cZ μ) (law_R1 h g cI cL cZ σ μ) (by decide) (by decide) (by decide) (fun _ z => z) rfl (Nat.le_of_ble_eq_true rfl) ⟨Nat.le_of_ble_eq_true rfl, Nat.le_of_ble_eq_true rfl⟩ d_law_114 rfl (fun r1 σ1 hC => ?_)
  refine gj_aload_n X d_law_117 rfl 1 rfl ?_
  refine gj_aload_n X d_law_118 rfl 3 rfl ?_
  refine gj_iload_n X d_law_119 rfl 0 rfl ?_
  refine gj_iconst (v := 1) X d_law_120 (by decide) ?_
  refine gj_iadd X d_law_121 ?_
  refine gj_sld X hX hbl (Nat.not_le.mpr hbl) (law_in (k := 1) hi (by decide) hL) d_law_122 ?_
  refine gj_cutVI (As := [.int (xs (nI i + 1).toNatClampNeg)]) (st := [.int r1]) X (c_Mo_symbol l dC dI g cI cL cZ μ ((xs (nI i + 1).toNatClampNeg)) _ hC) ⟨gj_cwB X tw_637 tw_10 tw_634 hd_Mo_symbol rfl rfl ⟨Nat.le_of_ble_eq_true rfl, Nat.le_of_ble_eq_true rfl⟩, X.2.2.2.2.1 _ tw_635, X.2.2.2.2.1 _ tw_636⟩ 0 rfl rfl [0, 1, 2, 3, 4, 5, 6, 7, 8, 9, 10, 11, 12, 13, 14, 15, 16, 17, 18, 19, 20] [21, 22, 23, 24, 25, 26, 27, 28, 29, 30, 31, 32, 33, 34, 35, 36, 37, 38, 39, 40, 41, 42, 43, 44, 45, 46, 47, 48, 49, 50, 51] (law_C2 h g cI cL cZ σ1 μ) (wr := wG h cI cL σ1) (law_R2 h g cI cL cZ σ1 μ) (by decide) (by decide) (by decide) (fun _ z => z) rfl (Nat.le_of_ble_eq_true rfl) ⟨Nat.le_of_ble_eq_true rfl, Nat.le_of_ble_eq_true rfl⟩ d_law_123 rfl (fun r2 μ1 hC => ?_)
  obtain ⟨he, hinv1⟩ := hC
  exact gj_icmp_eq (tgt := 526) X d_law_126 (by decide) (fun _ => back h σ1 μ1 hinv1) (fun z => absurd he z)
set_option maxHeartbeats 4000000 in
set_option maxRecDepth 100000 in
theorem law_c1 (X : gj_X p s m c #[Value.ref b] code 4 "GrammarLoomLaw" gj_tbl (dC, dI) gs_C (gs_T cI cL cZ)) (hX : va_X b L xs s s.heap) (hbl : b < s.heap.size) (hL : L ≤ 2560) {i : Nat} (hi : i + 5 ≤ L) {h g : Nat → Nat} {σ μ : gs_St} (hinv : lw_inv σ μ) (back : ∀ (h' : Nat → Nat) (σ' μ' : gs_St), lw_inv σ' μ' → lw_J p l e s m below meth c b dC dI (526) ([(3, .int (nI i)), (2, .ref (g 0)), (1, .ref (h' 0)), (0, .ref b)]) ([]) (wG h' cI cL σ' ++ wM g cI cL cZ μ')) : lw_J p l e s m below meth c b dC dI (131) ([(3, .int (nI i)), (2, .ref (g 0)), (1, .ref (h 0)), (0, .ref b)]) ([]) (wG h cI cL σ ++ wM g cI cL cZ μ) := by
  refine gj_aload_n X d_law_131 rfl 2 rfl ?_
  refine gj_aload_n X d_law_132 rfl 3 rfl ?_
  refine gj_iload_n X d_law_133 rfl 0 rfl ?_
  refine gj_iconst (v := 1) X d_law_134 (by decide) ?_
  refine gj_iadd X d_law_135 ?_
  refine gj_sld X hX hbl (Nat.not_le.mpr hbl) (law_in (k := 1) hi (by decide) hL) d_law_136 ?_
  refine gj_cutVI (As := [.int (xs (nI i + 1).toNatClampNeg)]) (st := []) X (c_Gl_rule l dC dI h cI cL cZ σ ((xs (nI i + 1).toNatClampNeg)) _ (ag_rule hinv)) ⟨gj_cwB X tw_246 tw_1 tw_243 hd_Gl_rule rfl rfl ⟨Nat.le_of_ble_eq_true rfl, Nat.le_of_ble_eq_true rfl⟩, X.2.2.2.2.1 _ tw_244, X.2.2.2.2.1 _ tw_245⟩ 0 rfl rfl [0, 1, 2, 3, 4, 5, 6, 7, 8, 9, 10, 11, 12, 13, 14, 15, 16, 17, 18, 19, 20, 21, 22, 23, 24, 25, 26, 27, 28, 29, 30] [31, 32, 33, 34, 35, 36, 37, 38, 39, 40, 41, 42, 43, 44, 45, 46, 47, 48, 49, 50, 51] (law_C1 h g cI cL cZ σ μ) (wr := wM g cI cL cZ μ) (law_R1 h g cI cL cZ σ μ) (by decide) (by decide) (by decide) (fun _ z => z) rfl (Nat.le_of_ble_eq_true rfl) ⟨Nat.le_of_ble_eq_true rfl, Nat.le_of_ble_eq_true rfl⟩ d_law_137 rfl (fun r1 σ1 hC => ?_)
  refine gj_aload_n X d_law_140 rfl 1 rfl ?_
  refine gj_aload_n X d_law_141 rfl 3 rfl ?_
  refine gj_iload_n X d_law_142 rfl 0 rfl ?_
  refine gj_iconst (v := 1) X d_law_143 (by decide) ?_
  refine gj_iadd X d_law_144 ?_
  refine gj_sld X hX hbl (Nat.not_le.mpr hbl) (law_in (k := 1) hi (by decide) hL) d_law_145 ?_
  refine gj_cutVI (As := [.int (xs (nI i + 1).toNatClampNeg)]) (st := [.int r1]) X (c_Mo_rule l dC dI g cI cL cZ μ ((xs (nI i + 1).toNatClampNeg)) _ hC) ⟨gj_cwB X tw_641 tw_10 tw_638 hd_Mo_rule rfl rfl ⟨Nat.le_of_ble_eq_true rfl, Nat.le_of_ble_eq_true rfl⟩, X.2.2.2.2.1 _ tw_639, X.2.2.2.2.1 _ tw_640⟩ 0 rfl rfl [0, 1, 2, 3, 4, 5, 6, 7, 8, 9, 10, 11, 12, 13, 14, 15, 16, 17, 18, 19, 20] [21, 22, 23, 24, 25, 26, 27, 28, 29, 30, 31, 32, 33, 34, 35, 36, 37, 38, 39, 40, 41, 42, 43, 44, 45, 46, 47, 48, 49, 50, 51] (law_C2 h g cI cL cZ σ1 μ) (wr := wG h cI cL σ1) (law_R2 h g cI cL cZ σ1 μ) (by decide) (by decide) (by decide) (fun _ z => z) rfl (Nat.le_of_ble_eq_true rfl) ⟨Nat.le_of_ble_eq_true rfl, Nat.le_of_ble_eq_true rfl⟩ d_law_146 rfl (fun r2 μ1 hC => ?_)
  obtain ⟨he, hinv1⟩ := hC
  exact gj_icmp_eq (tgt := 526) X d_law_149 (by decide) (fun _ => back h σ1 μ1 hinv1) (fun z => absurd he z)
set_option maxHeartbeats 4000000 in
set_option maxRecDepth 100000 in
theorem law_c2 (X : gj_X p s m c #[Value.ref b] code 4 "GrammarLoomLaw" gj_tbl (dC, dI) gs_C (gs_T cI cL cZ)) (hX : va_X b L xs s s.heap) (hbl : b < s.heap.size) (hL : L ≤ 2560) {i : Nat} (hi : i + 5 ≤ L) {h g : Nat → Nat} {σ μ : gs_St} (hinv : lw_inv σ μ) (back : ∀ (h' : Nat → Nat) (σ' μ' : gs_St), lw_inv σ' μ' → lw_J p l e s m below meth c b dC dI (526) ([(3, .int (nI i)), (2, .ref (g 0)), (1, .ref (h' 0)), (0, .ref b)]) ([]) (wG h' cI cL σ' ++ wM g cI cL cZ μ')) : lw_J p l e s m below meth c b dC dI (154) ([(3, .int (nI i)), (2, .ref (g 0)), (1, .ref (h 0)), (0, .ref b)]) ([]) (wG h cI cL σ ++ wM g cI cL cZ μ) := by
  refine gj_aload_n X d_law_154 rfl 2 rfl ?_
  refine gj_aload_n X d_law_155 rfl 3 rfl ?_
  refine gj_iload_n X d_law_156 rfl 0 rfl ?_
  refine gj_iconst (v := 1) X d_law_157 (by decide) ?_
  refine gj_iadd X d_law_158 ?_
  refine gj_sld X hX hbl (Nat.not_le.mpr hbl) (law_in (k := 1) hi (by decide) hL) d_law_159 ?_
  refine gj_cutVI (As := [.int (xs (nI i + 1).toNatClampNeg)]) (st := []) X (c_Gl_drop l dC dI h cI cL cZ σ ((xs (nI i + 1).toNatClampNeg)) _ (ag_drop hinv)) ⟨gj_cwB X tw_260 tw_1 tw_257 hd_Gl_drop rfl rfl ⟨Nat.le_of_ble_eq_true rfl, Nat.le_of_ble_eq_true rfl⟩, X.2.2.2.2.1 _ tw_258, X.2.2.2.2.1 _ tw_259⟩ 0 rfl rfl [0, 1, 2, 3, 4, 5, 6, 7, 8, 9, 10, 11, 12, 13, 14, 15, 16, 17, 18, 19, 20, 21, 22, 23, 24, 25, 26, 27, 28, 29, 30] [31, 32, 33, 34, 35, 36, 37, 38, 39, 40, 41, 42, 43, 44, 45, 46, 47, 48, 49, 50, 51] (law_C1 h g cI cL cZ σ μ) (wr := wM g cI cL cZ μ) (law_R1 h g cI cL cZ σ μ) (by decide) (by decide) (by decide) (fun _ z => z) rfl (Nat.le_of_ble_eq_true rfl) ⟨Nat.le_of_ble_eq_true rfl, Nat.le_of_ble_eq_true rfl⟩ d_law_160 rfl (fun r1 σ1 hC => ?_)
  obtain ⟨hC, _⟩ := hC
  refine gj_aload_n X d_law_163 rfl 1 rfl ?_
  refine gj_aload_n X d_law_164 rfl 3 rfl ?_
  refine gj_iload_n X d_law_165 rfl 0 rfl ?_
  refine gj_iconst (v := 1) X d_law_166 (by decide) ?_
  refine gj_iadd X d_law_167 ?_
  refine gj_sld X hX hbl (Nat.not_le.mpr hbl) (law_in (k := 1) hi (by decide) hL) d_law_168 ?_
  refine gj_cutVI (As := [.int (xs (nI i + 1).toNatClampNeg)]) (st := [.int r1]) X (c_Mo_drop l dC dI g cI cL cZ μ ((xs (nI i + 1).toNatClampNeg)) _ hC) ⟨gj_cwB X tw_648 tw_10 tw_645 hd_Mo_drop rfl rfl ⟨Nat.le_of_ble_eq_true rfl, Nat.le_of_ble_eq_true rfl⟩, X.2.2.2.2.1 _ tw_646, X.2.2.2.2.1 _ tw_647⟩ 0 rfl rfl [0, 1, 2, 3, 4, 5, 6, 7, 8, 9, 10, 11, 12, 13, 14, 15, 16, 17, 18, 19, 20] [21, 22, 23, 24, 25, 26, 27, 28, 29, 30, 31, 32, 33, 34, 35, 36, 37, 38, 39, 40, 41, 42, 43, 44, 45, 46, 47, 48, 49, 50, 51] (law_C2 h g cI cL cZ σ1 μ) (wr := wG h cI cL σ1) (law_R2 h g cI cL cZ σ1 μ) (by decide) (by decide) (by decide) (fun _ z => z) rfl (Nat.le_of_ble_eq_true rfl) ⟨Nat.le_of_ble_eq_true rfl, Nat.le_of_ble_eq_true rfl⟩ d_law_169 rfl (fun r2 μ1 hC => ?_)
  obtain ⟨hC, _⟩ := hC
  obtain ⟨he, hinv1⟩ := hC
  exact gj_icmp_eq (tgt := 526) X d_law_172 (by decide) (fun _ => back h σ1 μ1 hinv1) (fun z => absurd he z)
set_option maxHeartbeats 4000000 in
set_option maxRecDepth 100000 in
theorem law_c3 (X : gj_X p s m c #[Value.ref b] code 4 "GrammarLoomLaw" gj_tbl (dC, dI) gs_C (gs_T cI cL cZ)) (hX : va_X b L xs s s.heap) (hbl : b < s.heap.size) (hL : L ≤ 2560) {i : Nat} (hi : i + 5 ≤ L) {h g : Nat → Nat} {σ μ : gs_St} (hinv : lw_inv σ μ) (back : ∀ (h' : Nat → Nat) (σ' μ' : gs_St), lw_inv σ' μ' → lw_J p l e s m below meth c b dC dI (526) ([(3, .int (nI i)), (2, .ref (g 0)), (1, .ref (h' 0)), (0, .ref b)]) ([]) (wG h' cI cL σ' ++ wM g cI cL cZ μ')) : lw_J p l e s m below meth c b dC dI (177) ([(3, .int (nI i)), (2, .ref (g 0)), (1, .ref (h 0)), (0, .ref b)]) ([]) (wG h cI cL σ ++ wM g cI cL cZ μ) := by
  refine gj_aload_n X d_law_177 rfl 2 rfl ?_
  refine gj_aload_n X d_law_178 rfl 3 rfl ?_
  refine gj_iload_n X d_law_179 rfl 0 rfl ?_
  refine gj_iconst (v := 1) X d_law_180 (by decide) ?_
  refine gj_iadd X d_law_181 ?_
  refine gj_sld X hX hbl (Nat.not_le.mpr hbl) (law_in (k := 1) hi (by decide) hL) d_law_182 ?_
  refine gj_cutVI (As := [.int (xs (nI i + 1).toNatClampNeg)]) (st := []) X (c_Gl_count l dC dI h cI cL cZ σ ((xs (nI i + 1).toNatClampNeg)) _ (ag_count hinv)) ⟨gj_cwB X tw_272 tw_1 tw_269 hd_Gl_count rfl rfl ⟨Nat.le_of_ble_eq_true rfl, Nat.le_of_ble_eq_true rfl⟩, X.2.2.2.2.1 _ tw_270, X.2.2.2.2.1 _ tw_271⟩ 0 rfl rfl [0, 1, 2, 3, 4, 5, 6, 7, 8, 9, 10, 11, 12, 13, 14, 15, 16, 17, 18, 19, 20, 21, 22, 23, 24, 25, 26, 27, 28, 29, 30] [31, 32, 33, 34, 35, 36, 37, 38, 39, 40, 41, 42, 43, 44, 45, 46, 47, 48, 49, 50, 51] (law_C1 h g cI cL cZ σ μ) (wr := wM g cI cL cZ μ) (law_R1 h g cI cL cZ σ μ) (by decide) (by decide) (by decide) (fun _ z => z) rfl (Nat.le_of_ble_eq_true rfl) ⟨Nat.le_of_ble_eq_true rfl, Nat.le_of_ble_eq_true rfl⟩ d_law_183 rfl (fun r1 σ1 hC => ?_)
  refine gj_aload_n X d_law_186 rfl 1 rfl ?_
  refine gj_aload_n X d_law_187 rfl 3 rfl ?_
  refine gj_iload_n X d_law_188 rfl 0 rfl ?_
  refine gj_iconst (v := 1) X d_law_189 (by decide) ?_
  refine gj_iadd X d_law_190 ?_
  refine gj_sld X hX hbl (Nat.not_le.mpr hbl) (law_in (k := 1) hi (by decide) hL) d_law_191 ?_
  refine gj_cutVI (As := [.int (xs (nI i + 1).toNatClampNeg)]) (st := [.int r1]) X (c_Mo_count l dC dI g cI cL cZ μ ((xs (nI i + 1).toNatClampNeg)) _ hC) ⟨gj_cwB X tw_656 tw_10 tw_653 hd_Mo_count rfl rfl ⟨Nat.le_of_ble_eq_true rfl, Nat.le_of_ble_eq_true rfl⟩, X.2.2.2.2.1 _ tw_654, X.2.2.2.2.1 _ tw_655⟩ 0 rfl rfl [0, 1, 2, 3, 4, 5, 6, 7, 8, 9, 10, 11, 12, 13, 14, 15, 16, 17, 18, 19, 20] [21, 22, 23, 24, 25, 26, 27, 28, 29, 30, 31, 32, 33, 34, 35, 36, 37, 38, 39, 40, 41, 42, 43, 44, 45, 46, 47, 48, 49, 50, 51] (law_C2 h g cI cL cZ σ1 μ) (wr := wG h cI cL σ1) (law_R2 h g cI cL cZ σ1 μ) (by decide) (by decide) (by decide) (fun _ z => z) rfl (Nat.le_of_ble_eq_true rfl) ⟨Nat.le_of_ble_eq_true rfl, Nat.le_of_ble_eq_true rfl⟩ d_law_192 rfl (fun r2 μ1 hC => ?_)
  obtain ⟨he, hinv1⟩ := hC
  exact gj_icmp_eq (tgt := 526) X d_law_195 (by decide) (fun _ => back h σ1 μ1 hinv1) (fun z => absurd he z)
set_option maxHeartbeats 4000000 in
set_option maxRecDepth 100000 in
theorem law_c4 (X : gj_X p s m c #[Value.ref b] code 4 "GrammarLoomLaw" gj_tbl (dC, dI) gs_C (gs_T cI cL cZ)) (hX : va_X b L xs s s.heap) (hbl : b < s.heap.size) (hL : L ≤ 2560) {i : Nat} (hi : i + 5 ≤ L) {h g : Nat → Nat} {σ μ : gs_St} (hinv : lw_inv σ μ) (back : ∀ (h' : Nat → Nat) (σ' μ' : gs_St), lw_inv σ' μ' → lw_J p l e s m below meth c b dC dI (526) ([(3, .int (nI i)), (2, .ref (g 0)), (1, .ref (h' 0)), (0, .ref b)]) ([]) (wG h' cI cL σ' ++ wM g cI cL cZ μ')) : lw_J p l e s m below meth c b dC dI (200) ([(3, .int (nI i)), (2, .ref (g 0)), (1, .ref (h 0)), (0, .ref b)]) ([]) (wG h cI cL σ ++ wM g cI cL cZ μ) := by
  refine gj_aload_n X d_law_200 rfl 2 rfl ?_
  refine gj_aload_n X d_law_201 rfl 3 rfl ?_
  refine gj_iload_n X d_law_202 rfl 0 rfl ?_
  refine gj_iconst (v := 1) X d_law_203 (by decide) ?_
  refine gj_iadd X d_law_204 ?_
  refine gj_sld X hX hbl (Nat.not_le.mpr hbl) (law_in (k := 1) hi (by decide) hL) d_law_205 ?_
  refine gj_aload_n X d_law_206 rfl 3 rfl ?_
  refine gj_iload_n X d_law_207 rfl 0 rfl ?_
  refine gj_iconst (v := 2) X d_law_208 (by decide) ?_
  refine gj_iadd X d_law_209 ?_
  refine gj_sld X hX hbl (Nat.not_le.mpr hbl) (law_in (k := 2) hi (by decide) hL) d_law_210 ?_
  refine gj_cutVI (As := [.int (xs (nI i + 1).toNatClampNeg), .int (xs (nI i + 2).toNatClampNeg)]) (st := []) X (c_Gl_about l dC dI h cI cL cZ σ ((xs (nI i + 1).toNatClampNeg)) ((xs (nI i + 2).toNatClampNeg)) _ (ag_about hinv)) ⟨gj_cwB X tw_276 tw_1 tw_273 hd_Gl_about rfl rfl ⟨Nat.le_of_ble_eq_true rfl, Nat.le_of_ble_eq_true rfl⟩, X.2.2.2.2.1 _ tw_274, X.2.2.2.2.1 _ tw_275⟩ 0 rfl rfl [0, 1, 2, 3, 4, 5, 6, 7, 8, 9, 10, 11, 12, 13, 14, 15, 16, 17, 18, 19, 20, 21, 22, 23, 24, 25, 26, 27, 28, 29, 30] [31, 32, 33, 34, 35, 36, 37, 38, 39, 40, 41, 42, 43, 44, 45, 46, 47, 48, 49, 50, 51] (law_C1 h g cI cL cZ σ μ) (wr := wM g cI cL cZ μ) (law_R1 h g cI cL cZ σ μ) (by decide) (by decide) (by decide) (fun _ z => z) rfl (Nat.le_of_ble_eq_true rfl) ⟨Nat.le_of_ble_eq_true rfl, Nat.le_of_ble_eq_true rfl⟩ d_law_211 rfl (fun r1 σ1 hC => ?_)
  refine gj_aload_n X d_law_214 rfl 1 rfl ?_
  refine gj_aload_n X d_law_215 rfl 3 rfl ?_
  refine gj_iload_n X d_law_216 rfl 0 rfl ?_
  refine gj_iconst (v := 1) X d_law_217 (by decide) ?_
  refine gj_iadd X d_law_218 ?_
  refine gj_sld X hX hbl (Nat.not_le.mpr hbl) (law_in (k := 1) hi (by decide) hL) d_law_219 ?_
  refine gj_aload_n X d_law_220 rfl 3 rfl ?_
  refine gj_iload_n X d_law_221 rfl 0 rfl ?_
  refine gj_iconst (v := 2) X d_law_222 (by decide) ?_
  refine gj_iadd X d_law_223 ?_
  refine gj_sld X hX hbl (Nat.not_le.mpr hbl) (law_in (k := 2) hi (by decide) hL) d_law_224 ?_
  refine gj_cutVI (As := [.int (xs (nI i + 1).toNatClampNeg), .int (xs (nI i + 2).toNatClampNeg)]) (st := [.int r1]) X (c_Mo_about l dC dI g cI cL cZ μ ((xs (nI i + 1).toNatClampNeg)) ((xs (nI i + 2).toNatClampNeg)) _ hC) ⟨gj_cwB X tw_660 tw_10 tw_657 hd_Mo_about rfl rfl ⟨Nat.le_of_ble_eq_true rfl, Nat.le_of_ble_eq_true rfl⟩, X.2.2.2.2.1 _ tw_658, X.2.2.2.2.1 _ tw_659⟩ 0 rfl rfl [0, 1, 2, 3, 4, 5, 6, 7, 8, 9, 10, 11, 12, 13, 14, 15, 16, 17, 18, 19, 20] [21, 22, 23, 24, 25, 26, 27, 28, 29, 30, 31, 32, 33, 34, 35, 36, 37, 38, 39, 40, 41, 42, 43, 44, 45, 46, 47, 48, 49, 50, 51] (law_C2 h g cI cL cZ σ1 μ) (wr := wG h cI cL σ1) (law_R2 h g cI cL cZ σ1 μ) (by decide) (by decide) (by decide) (fun _ z => z) rfl (Nat.le_of_ble_eq_true rfl) ⟨Nat.le_of_ble_eq_true rfl, Nat.le_of_ble_eq_true rfl⟩ d_law_225 rfl (fun r2 μ1 hC => ?_)
  obtain ⟨he, hinv1⟩ := hC
  exact gj_icmp_eq (tgt := 526) X d_law_228 (by decide) (fun _ => back h σ1 μ1 hinv1) (fun z => absurd he z)
set_option maxHeartbeats 4000000 in
set_option maxRecDepth 100000 in
theorem law_c5 (X : gj_X p s m c #[Value.ref b] code 4 "GrammarLoomLaw" gj_tbl (dC, dI) gs_C (gs_T cI cL cZ)) (hX : va_X b L xs s s.heap) (hbl : b < s.heap.size) (hL : L ≤ 2560) {i : Nat} (hi : i + 5 ≤ L) {h g : Nat → Nat} {σ μ : gs_St} (hinv : lw_inv σ μ) (back : ∀ (h' : Nat → Nat) (σ' μ' : gs_St), lw_inv σ' μ' → lw_J p l e s m below meth c b dC dI (526) ([(3, .int (nI i)), (2, .ref (g 0)), (1, .ref (h' 0)), (0, .ref b)]) ([]) (wG h' cI cL σ' ++ wM g cI cL cZ μ')) : lw_J p l e s m below meth c b dC dI (233) ([(3, .int (nI i)), (2, .ref (g 0)), (1, .ref (h 0)), (0, .ref b)]) ([]) (wG h cI cL σ ++ wM g cI cL cZ μ) := by
  refine gj_aload_n X d_law_233 rfl 2 rfl ?_
  refine gj_aload_n X d_law_234 rfl 3 rfl ?_
  refine gj_iload_n X d_law_235 rfl 0 rfl ?_
  refine gj_iconst (v := 1) X d_law_236 (by decide) ?_
  refine gj_iadd X d_law_237 ?_
  refine gj_sld X hX hbl (Nat.not_le.mpr hbl) (law_in (k := 1) hi (by decide) hL) d_law_238 ?_
  refine gj_cutVI (As := [.int (xs (nI i + 1).toNatClampNeg)]) (st := []) X (c_Gl_shortest l dC dI h cI cL cZ σ ((xs (nI i + 1).toNatClampNeg)) _ (ag_shortest hinv)) ⟨gj_cwB X tw_292 tw_1 tw_289 hd_Gl_shortest rfl rfl ⟨Nat.le_of_ble_eq_true rfl, Nat.le_of_ble_eq_true rfl⟩, X.2.2.2.2.1 _ tw_290, X.2.2.2.2.1 _ tw_291⟩ 0 rfl rfl [0, 1, 2, 3, 4, 5, 6, 7, 8, 9, 10, 11, 12, 13, 14, 15, 16, 17, 18, 19, 20, 21, 22, 23, 24, 25, 26, 27, 28, 29, 30] [31, 32, 33, 34, 35, 36, 37, 38, 39, 40, 41, 42, 43, 44, 45, 46, 47, 48, 49, 50, 51] (law_C1 h g cI cL cZ σ μ) (wr := wM g cI cL cZ μ) (law_R1 h g cI cL cZ σ μ) (by decide) (by decide) (by decide) (fun _ z => z) rfl (Nat.le_of_ble_eq_true rfl) ⟨Nat.le_of_ble_eq_true rfl, Nat.le_of_ble_eq_true rfl⟩ d_law_239 rfl (fun r1 σ1 hC => ?_)
  refine gj_aload_n X d_law_242 rfl 1 rfl ?_
  refine gj_aload_n X d_law_243 rfl 3 rfl ?_
  refine gj_iload_n X d_law_244 rfl 0 rfl ?_
  refine gj_iconst (v := 1) X d_law_245 (by decide) ?_
  refine gj_iadd X d_law_246 ?_
  refine gj_sld X hX hbl (Nat.not_le.mpr hbl) (law_in (k := 1) hi (by decide) hL) d_law_247 ?_
  refine gj_cutVI (As := [.int (xs (nI i + 1).toNatClampNeg)]) (st := [.int r1]) X (c_Mo_shortest l dC dI g cI cL cZ μ ((xs (nI i + 1).toNatClampNeg)) _ hC) ⟨gj_cwB X tw_668 tw_10 tw_665 hd_Mo_shortest rfl rfl ⟨Nat.le_of_ble_eq_true rfl, Nat.le_of_ble_eq_true rfl⟩, X.2.2.2.2.1 _ tw_666, X.2.2.2.2.1 _ tw_667⟩ 0 rfl rfl [0, 1, 2, 3, 4, 5, 6, 7, 8, 9, 10, 11, 12, 13, 14, 15, 16, 17, 18, 19, 20] [21, 22, 23, 24, 25, 26, 27, 28, 29, 30, 31, 32, 33, 34, 35, 36, 37, 38, 39, 40, 41, 42, 43, 44, 45, 46, 47, 48, 49, 50, 51] (law_C2 h g cI cL cZ σ1 μ) (wr := wG h cI cL σ1) (law_R2 h g cI cL cZ σ1 μ) (by decide) (by decide) (by decide) (fun _ z => z) rfl (Nat.le_of_ble_eq_true rfl) ⟨Nat.le_of_ble_eq_true rfl, Nat.le_of_ble_eq_true rfl⟩ d_law_248 rfl (fun r2 μ1 hC => ?_)
  obtain ⟨he, hinv1⟩ := hC
  exact gj_icmp_eq (tgt := 526) X d_law_251 (by decide) (fun _ => back h σ1 μ1 hinv1) (fun z => absurd he z)
set_option maxHeartbeats 4000000 in
set_option maxRecDepth 100000 in
theorem law_c6 (X : gj_X p s m c #[Value.ref b] code 4 "GrammarLoomLaw" gj_tbl (dC, dI) gs_C (gs_T cI cL cZ)) (hX : va_X b L xs s s.heap) (hbl : b < s.heap.size) (hL : L ≤ 2560) {i : Nat} (hi : i + 5 ≤ L) {h g : Nat → Nat} {σ μ : gs_St} (hinv : lw_inv σ μ) (back : ∀ (h' : Nat → Nat) (σ' μ' : gs_St), lw_inv σ' μ' → lw_J p l e s m below meth c b dC dI (526) ([(3, .int (nI i)), (2, .ref (g 0)), (1, .ref (h' 0)), (0, .ref b)]) ([]) (wG h' cI cL σ' ++ wM g cI cL cZ μ')) : lw_J p l e s m below meth c b dC dI (256) ([(3, .int (nI i)), (2, .ref (g 0)), (1, .ref (h 0)), (0, .ref b)]) ([]) (wG h cI cL σ ++ wM g cI cL cZ μ) := by
  refine gj_aload_n X d_law_256 rfl 2 rfl ?_
  refine gj_aload_n X d_law_257 rfl 3 rfl ?_
  refine gj_iload_n X d_law_258 rfl 0 rfl ?_
  refine gj_iconst (v := 1) X d_law_259 (by decide) ?_
  refine gj_iadd X d_law_260 ?_
  refine gj_sld X hX hbl (Nat.not_le.mpr hbl) (law_in (k := 1) hi (by decide) hL) d_law_261 ?_
  refine gj_cutVI (As := [.int (xs (nI i + 1).toNatClampNeg)]) (st := []) X (c_Gl_shortestWith l dC dI h cI cL cZ σ ((xs (nI i + 1).toNatClampNeg)) _ (ag_shortestWith hinv)) ⟨gj_cwB X tw_351 tw_1 tw_348 hd_Gl_shortestWith rfl rfl ⟨Nat.le_of_ble_eq_true rfl, Nat.le_of_ble_eq_true rfl⟩, X.2.2.2.2.1 _ tw_349, X.2.2.2.2.1 _ tw_350⟩ 0 rfl rfl [0, 1, 2, 3, 4, 5, 6, 7, 8, 9, 10, 11, 12, 13, 14, 15, 16, 17, 18, 19, 20, 21, 22, 23, 24, 25, 26, 27, 28, 29, 30] [31, 32, 33, 34, 35, 36, 37, 38, 39, 40, 41, 42, 43, 44, 45, 46, 47, 48, 49, 50, 51] (law_C1 h g cI cL cZ σ μ) (wr := wM g cI cL cZ μ) (law_R1 h g cI cL cZ σ μ) (by decide) (by decide) (by decide) (fun _ z => z) rfl (Nat.le_of_ble_eq_true rfl) ⟨Nat.le_of_ble_eq_true rfl, Nat.le_of_ble_eq_true rfl⟩ d_law_262 rfl (fun r1 σ1 hC => ?_)
  refine gj_aload_n X d_law_265 rfl 1 rfl ?_
  refine gj_aload_n X d_law_266 rfl 3 rfl ?_
  refine gj_iload_n X d_law_267 rfl 0 rfl ?_
  refine gj_iconst (v := 1) X d_law_268 (by decide) ?_
  refine gj_iadd X d_law_269 ?_
  refine gj_sld X hX hbl (Nat.not_le.mpr hbl) (law_in (k := 1) hi (by decide) hL) d_law_270 ?_
  refine gj_cutVI (As := [.int (xs (nI i + 1).toNatClampNeg)]) (st := [.int r1]) X (c_Mo_shortestWith l dC dI g cI cL cZ μ ((xs (nI i + 1).toNatClampNeg)) _ hC) ⟨gj_cwB X tw_685 tw_10 tw_682 hd_Mo_shortestWith rfl rfl ⟨Nat.le_of_ble_eq_true rfl, Nat.le_of_ble_eq_true rfl⟩, X.2.2.2.2.1 _ tw_683, X.2.2.2.2.1 _ tw_684⟩ 0 rfl rfl [0, 1, 2, 3, 4, 5, 6, 7, 8, 9, 10, 11, 12, 13, 14, 15, 16, 17, 18, 19, 20] [21, 22, 23, 24, 25, 26, 27, 28, 29, 30, 31, 32, 33, 34, 35, 36, 37, 38, 39, 40, 41, 42, 43, 44, 45, 46, 47, 48, 49, 50, 51] (law_C2 h g cI cL cZ σ1 μ) (wr := wG h cI cL σ1) (law_R2 h g cI cL cZ σ1 μ) (by decide) (by decide) (by decide) (fun _ z => z) rfl (Nat.le_of_ble_eq_true rfl) ⟨Nat.le_of_ble_eq_true rfl, Nat.le_of_ble_eq_true rfl⟩ d_law_271 rfl (fun r2 μ1 hC => ?_)
  obtain ⟨he, hinv1⟩ := hC
  exact gj_icmp_eq (tgt := 526) X d_law_274 (by decide) (fun _ => back h σ1 μ1 hinv1) (fun z => absurd he z)
set_option maxHeartbeats 4000000 in
set_option maxRecDepth 100000 in
theorem law_c7 (X : gj_X p s m c #[Value.ref b] code 4 "GrammarLoomLaw" gj_tbl (dC, dI) gs_C (gs_T cI cL cZ)) (hX : va_X b L xs s s.heap) (hbl : b < s.heap.size) (hL : L ≤ 2560) {i : Nat} (hi : i + 5 ≤ L) {h g : Nat → Nat} {σ μ : gs_St} (hinv : lw_inv σ μ) (back : ∀ (h' : Nat → Nat) (σ' μ' : gs_St), lw_inv σ' μ' → lw_J p l e s m below meth c b dC dI (526) ([(3, .int (nI i)), (2, .ref (g 0)), (1, .ref (h' 0)), (0, .ref b)]) ([]) (wG h' cI cL σ' ++ wM g cI cL cZ μ')) : lw_J p l e s m below meth c b dC dI (279) ([(3, .int (nI i)), (2, .ref (g 0)), (1, .ref (h 0)), (0, .ref b)]) ([]) (wG h cI cL σ ++ wM g cI cL cZ μ) := by
  refine gj_aload_n X d_law_279 rfl 2 rfl ?_
  refine gj_cutVI (As := []) (st := []) X (c_Gl_circle l dC dI h cI cL cZ σ _ (ag_circle hinv)) ⟨gj_cwB X tw_359 tw_1 tw_356 hd_Gl_circle rfl rfl ⟨Nat.le_of_ble_eq_true rfl, Nat.le_of_ble_eq_true rfl⟩, X.2.2.2.2.1 _ tw_357, X.2.2.2.2.1 _ tw_358⟩ 0 rfl rfl [0, 1, 2, 3, 4, 5, 6, 7, 8, 9, 10, 11, 12, 13, 14, 15, 16, 17, 18, 19, 20, 21, 22, 23, 24, 25, 26, 27, 28, 29, 30] [31, 32, 33, 34, 35, 36, 37, 38, 39, 40, 41, 42, 43, 44, 45, 46, 47, 48, 49, 50, 51] (law_C1 h g cI cL cZ σ μ) (wr := wM g cI cL cZ μ) (law_R1 h g cI cL cZ σ μ) (by decide) (by decide) (by decide) (fun _ z => z) rfl (Nat.le_of_ble_eq_true rfl) ⟨Nat.le_of_ble_eq_true rfl, Nat.le_of_ble_eq_true rfl⟩ d_law_280 rfl (fun r1 σ1 hC => ?_)
  obtain ⟨hC, _⟩ := hC
  refine gj_aload_n X d_law_283 rfl 1 rfl ?_
  refine gj_cutVI (As := []) (st := [.int r1]) X (c_Mo_circle l dC dI g cI cL cZ μ _ hC) ⟨gj_cwB X tw_689 tw_10 tw_686 hd_Mo_circle rfl rfl ⟨Nat.le_of_ble_eq_true rfl, Nat.le_of_ble_eq_true rfl⟩, X.2.2.2.2.1 _ tw_687, X.2.2.2.2.1 _ tw_688⟩ 0 rfl rfl [0, 1, 2, 3, 4, 5, 6, 7, 8, 9, 10, 11, 12, 13, 14, 15, 16, 17, 18, 19, 20] [21, 22, 23, 24, 25, 26, 27, 28, 29, 30, 31, 32, 33, 34, 35, 36, 37, 38, 39, 40, 41, 42, 43, 44, 45, 46, 47, 48, 49, 50, 51] (law_C2 h g cI cL cZ σ1 μ) (wr := wG h cI cL σ1) (law_R2 h g cI cL cZ σ1 μ) (by decide) (by decide) (by decide) (fun _ z => z) rfl (Nat.le_of_ble_eq_true rfl) ⟨Nat.le_of_ble_eq_true rfl, Nat.le_of_ble_eq_true rfl⟩ d_law_284 rfl (fun r2 μ1 hC => ?_)
  obtain ⟨hC, _⟩ := hC
  obtain ⟨he, hinv1⟩ := hC
  exact gj_icmp_eq (tgt := 526) X d_law_287 (by decide) (fun _ => back h σ1 μ1 hinv1) (fun z => absurd he z)
set_option maxHeartbeats 4000000 in
set_option maxRecDepth 100000 in
theorem law_c8 (X : gj_X p s m c #[Value.ref b] code 4 "GrammarLoomLaw" gj_tbl (dC, dI) gs_C (gs_T cI cL cZ)) (hX : va_X b L xs s s.heap) (hbl : b < s.heap.size) (hL : L ≤ 2560) {i : Nat} (hi : i + 5 ≤ L) {h g : Nat → Nat} {σ μ : gs_St} (hinv : lw_inv σ μ) (back : ∀ (h' : Nat → Nat) (σ' μ' : gs_St), lw_inv σ' μ' → lw_J p l e s m below meth c b dC dI (526) ([(3, .int (nI i)), (2, .ref (g 0)), (1, .ref (h' 0)), (0, .ref b)]) ([]) (wG h' cI cL σ' ++ wM g cI cL cZ μ')) : lw_J p l e s m below meth c b dC dI (292) ([(3, .int (nI i)), (2, .ref (g 0)), (1, .ref (h 0)), (0, .ref b)]) ([]) (wG h cI cL σ ++ wM g cI cL cZ μ) := by
  refine gj_aload_n X d_law_292 rfl 2 rfl ?_
  refine gj_aload_n X d_law_293 rfl 3 rfl ?_
  refine gj_iload_n X d_law_294 rfl 0 rfl ?_
  refine gj_iconst (v := 1) X d_law_295 (by decide) ?_
  refine gj_iadd X d_law_296 ?_
  refine gj_sld X hX hbl (Nat.not_le.mpr hbl) (law_in (k := 1) hi (by decide) hL) d_law_297 ?_
  refine gj_aload_n X d_law_298 rfl 3 rfl ?_
  refine gj_iload_n X d_law_299 rfl 0 rfl ?_
  refine gj_iconst (v := 2) X d_law_300 (by decide) ?_
  refine gj_iadd X d_law_301 ?_
  refine gj_sld X hX hbl (Nat.not_le.mpr hbl) (law_in (k := 2) hi (by decide) hL) d_law_302 ?_
  refine gj_cutVL (As := [.int (xs (nI i + 1).toNatClampNeg), .int (xs (nI i + 2).toNatClampNeg)]) (st := []) X (c_Gl_trees l dC dI h cI cL cZ σ ((xs (nI i + 1).toNatClampNeg)) ((xs (nI i + 2).toNatClampNeg)) _ (ag_trees hinv)) ⟨gj_cwB X tw_367 tw_1 tw_364 hd_Gl_trees rfl rfl ⟨Nat.le_of_ble_eq_true rfl, Nat.le_of_ble_eq_true rfl⟩, X.2.2.2.2.1 _ tw_365, X.2.2.2.2.1 _ tw_366⟩ 0 rfl rfl [0, 1, 2, 3, 4, 5, 6, 7, 8, 9, 10, 11, 12, 13, 14, 15, 16, 17, 18, 19, 20, 21, 22, 23, 24, 25, 26, 27, 28, 29, 30] [31, 32, 33, 34, 35, 36, 37, 38, 39, 40, 41, 42, 43, 44, 45, 46, 47, 48, 49, 50, 51] (law_C1 h g cI cL cZ σ μ) (wr := wM g cI cL cZ μ) (law_R1 h g cI cL cZ σ μ) (by decide) (by decide) (by decide) (fun _ z => z) rfl (Nat.le_of_ble_eq_true rfl) ⟨Nat.le_of_ble_eq_true rfl, Nat.le_of_ble_eq_true rfl⟩ d_law_303 rfl (fun r1 σ1 hC => ?_)
  refine gj_aload_n X d_law_306 rfl 1 rfl ?_
  refine gj_aload_n X d_law_307 rfl 3 rfl ?_
  refine gj_iload_n X d_law_308 rfl 0 rfl ?_
  refine gj_iconst (v := 1) X d_law_309 (by decide) ?_
  refine gj_iadd X d_law_310 ?_
  refine gj_sld X hX hbl (Nat.not_le.mpr hbl) (law_in (k := 1) hi (by decide) hL) d_law_311 ?_
  refine gj_aload_n X d_law_312 rfl 3 rfl ?_
  refine gj_iload_n X d_law_313 rfl 0 rfl ?_
  refine gj_iconst (v := 2) X d_law_314 (by decide) ?_
  refine gj_iadd X d_law_315 ?_
  refine gj_sld X hX hbl (Nat.not_le.mpr hbl) (law_in (k := 2) hi (by decide) hL) d_law_316 ?_
  refine gj_cutVL (As := [.int (xs (nI i + 1).toNatClampNeg), .int (xs (nI i + 2).toNatClampNeg)]) (st := [.long r1]) X (c_Mo_trees l dC dI g cI cL cZ μ ((xs (nI i + 1).toNatClampNeg)) ((xs (nI i + 2).toNatClampNeg)) _ hC) ⟨gj_cwB X tw_701 tw_10 tw_698 hd_Mo_trees rfl rfl ⟨Nat.le_of_ble_eq_true rfl, Nat.le_of_ble_eq_true rfl⟩, X.2.2.2.2.1 _ tw_699, X.2.2.2.2.1 _ tw_700⟩ 0 rfl rfl [0, 1, 2, 3, 4, 5, 6, 7, 8, 9, 10, 11, 12, 13, 14, 15, 16, 17, 18, 19, 20] [21, 22, 23, 24, 25, 26, 27, 28, 29, 30, 31, 32, 33, 34, 35, 36, 37, 38, 39, 40, 41, 42, 43, 44, 45, 46, 47, 48, 49, 50, 51] (law_C2 h g cI cL cZ σ1 μ) (wr := wG h cI cL σ1) (law_R2 h g cI cL cZ σ1 μ) (by decide) (by decide) (by decide) (fun _ z => z) rfl (Nat.le_of_ble_eq_true rfl) ⟨Nat.le_of_ble_eq_true rfl, Nat.le_of_ble_eq_true rfl⟩ d_law_317 rfl (fun r2 μ1 hC => ?_)
  obtain ⟨he, hinv1⟩ := hC
  exact gj_lcmp_eq (tgt := 526) X d_law_320 d_law_321 (by decide) (fun _ => back h σ1 μ1 hinv1) (fun z => absurd he z)
set_option maxHeartbeats 4000000 in
set_option maxRecDepth 100000 in
theorem law_c9 (X : gj_X p s m c #[Value.ref b] code 4 "GrammarLoomLaw" gj_tbl (dC, dI) gs_C (gs_T cI cL cZ)) (hX : va_X b L xs s s.heap) (hbl : b < s.heap.size) (hL : L ≤ 2560) {i : Nat} (hi : i + 5 ≤ L) {h g : Nat → Nat} {σ μ : gs_St} (hinv : lw_inv σ μ) (back : ∀ (h' : Nat → Nat) (σ' μ' : gs_St), lw_inv σ' μ' → lw_J p l e s m below meth c b dC dI (526) ([(3, .int (nI i)), (2, .ref (g 0)), (1, .ref (h' 0)), (0, .ref b)]) ([]) (wG h' cI cL σ' ++ wM g cI cL cZ μ')) : lw_J p l e s m below meth c b dC dI (326) ([(3, .int (nI i)), (2, .ref (g 0)), (1, .ref (h 0)), (0, .ref b)]) ([]) (wG h cI cL σ ++ wM g cI cL cZ μ) := by
  refine gj_aload_n X d_law_326 rfl 2 rfl ?_
  refine gj_aload_n X d_law_327 rfl 3 rfl ?_
  refine gj_iload_n X d_law_328 rfl 0 rfl ?_
  refine gj_iconst (v := 1) X d_law_329 (by decide) ?_
  refine gj_iadd X d_law_330 ?_
  refine gj_sld X hX hbl (Nat.not_le.mpr hbl) (law_in (k := 1) hi (by decide) hL) d_law_331 ?_
  refine gj_aload_n X d_law_332 rfl 3 rfl ?_
  refine gj_iload_n X d_law_333 rfl 0 rfl ?_
  refine gj_iconst (v := 2) X d_law_334 (by decide) ?_
  refine gj_iadd X d_law_335 ?_
  refine gj_sld X hX hbl (Nat.not_le.mpr hbl) (law_in (k := 2) hi (by decide) hL) d_law_336 ?_
  refine gj_cutVL (As := [.int (xs (nI i + 1).toNatClampNeg), .int (xs (nI i + 2).toNatClampNeg)]) (st := []) X (c_Gl_treesWith l dC dI h cI cL cZ σ ((xs (nI i + 1).toNatClampNeg)) ((xs (nI i + 2).toNatClampNeg)) _ (ag_treesWith hinv)) ⟨gj_cwB X tw_424 tw_1 tw_421 hd_Gl_treesWith rfl rfl ⟨Nat.le_of_ble_eq_true rfl, Nat.le_of_ble_eq_true rfl⟩, X.2.2.2.2.1 _ tw_422, X.2.2.2.2.1 _ tw_423⟩ 0 rfl rfl [0, 1, 2, 3, 4, 5, 6, 7, 8, 9, 10, 11, 12, 13, 14, 15, 16, 17, 18, 19, 20, 21, 22, 23, 24, 25, 26, 27, 28, 29, 30] [31, 32, 33, 34, 35, 36, 37, 38, 39, 40, 41, 42, 43, 44, 45, 46, 47, 48, 49, 50, 51] (law_C1 h g cI cL cZ σ μ) (wr := wM g cI cL cZ μ) (law_R1 h g cI cL cZ σ μ) (by decide) (by decide) (by decide) (fun _ z => z) rfl (Nat.le_of_ble_eq_true rfl) ⟨Nat.le_of_ble_eq_true rfl, Nat.le_of_ble_eq_true rfl⟩ d_law_337 rfl (fun r1 σ1 hC => ?_)
  refine gj_aload_n X d_law_340 rfl 1 rfl ?_
  refine gj_aload_n X d_law_341 rfl 3 rfl ?_
  refine gj_iload_n X d_law_342 rfl 0 rfl ?_
  refine gj_iconst (v := 1) X d_law_343 (by decide) ?_
  refine gj_iadd X d_law_344 ?_
  refine gj_sld X hX hbl (Nat.not_le.mpr hbl) (law_in (k := 1) hi (by decide) hL) d_law_345 ?_
  refine gj_aload_n X d_law_346 rfl 3 rfl ?_
  refine gj_iload_n X d_law_347 rfl 0 rfl ?_
  refine gj_iconst (v := 2) X d_law_348 (by decide) ?_
  refine gj_iadd X d_law_349 ?_
  refine gj_sld X hX hbl (Nat.not_le.mpr hbl) (law_in (k := 2) hi (by decide) hL) d_law_350 ?_
  refine gj_cutVL (As := [.int (xs (nI i + 1).toNatClampNeg), .int (xs (nI i + 2).toNatClampNeg)]) (st := [.long r1]) X (c_Mo_treesWith l dC dI g cI cL cZ μ ((xs (nI i + 1).toNatClampNeg)) ((xs (nI i + 2).toNatClampNeg)) _ hC) ⟨gj_cwB X tw_731 tw_10 tw_728 hd_Mo_treesWith rfl rfl ⟨Nat.le_of_ble_eq_true rfl, Nat.le_of_ble_eq_true rfl⟩, X.2.2.2.2.1 _ tw_729, X.2.2.2.2.1 _ tw_730⟩ 0 rfl rfl [0, 1, 2, 3, 4, 5, 6, 7, 8, 9, 10, 11, 12, 13, 14, 15, 16, 17, 18, 19, 20] [21, 22, 23, 24, 25, 26, 27, 28, 29, 30, 31, 32, 33, 34, 35, 36, 37, 38, 39, 40, 41, 42, 43, 44, 45, 46, 47, 48, 49, 50, 51] (law_C2 h g cI cL cZ σ1 μ) (wr := wG h cI cL σ1) (law_R2 h g cI cL cZ σ1 μ) (by decide) (by decide) (by decide) (fun _ z => z) rfl (Nat.le_of_ble_eq_true rfl) ⟨Nat.le_of_ble_eq_true rfl, Nat.le_of_ble_eq_true rfl⟩ d_law_351 rfl (fun r2 μ1 hC => ?_)
  obtain ⟨he, hinv1⟩ := hC
  exact gj_lcmp_eq (tgt := 526) X d_law_354 d_law_355 (by decide) (fun _ => back h σ1 μ1 hinv1) (fun z => absurd he z)
set_option maxHeartbeats 4000000 in
set_option maxRecDepth 100000 in
theorem law_c10 (X : gj_X p s m c #[Value.ref b] code 4 "GrammarLoomLaw" gj_tbl (dC, dI) gs_C (gs_T cI cL cZ)) (hX : va_X b L xs s s.heap) (hbl : b < s.heap.size) (hL : L ≤ 2560) {i : Nat} (hi : i + 5 ≤ L) {h g : Nat → Nat} {σ μ : gs_St} (hinv : lw_inv σ μ) (back : ∀ (h' : Nat → Nat) (σ' μ' : gs_St), lw_inv σ' μ' → lw_J p l e s m below meth c b dC dI (526) ([(3, .int (nI i)), (2, .ref (g 0)), (1, .ref (h' 0)), (0, .ref b)]) ([]) (wG h' cI cL σ' ++ wM g cI cL cZ μ')) : lw_J p l e s m below meth c b dC dI (360) ([(3, .int (nI i)), (2, .ref (g 0)), (1, .ref (h 0)), (0, .ref b)]) ([]) (wG h cI cL σ ++ wM g cI cL cZ μ) := by
  refine gj_aload_n X d_law_360 rfl 2 rfl ?_
  refine gj_aload_n X d_law_361 rfl 3 rfl ?_
  refine gj_iload_n X d_law_362 rfl 0 rfl ?_
  refine gj_iconst (v := 1) X d_law_363 (by decide) ?_
  refine gj_iadd X d_law_364 ?_
  refine gj_sld X hX hbl (Nat.not_le.mpr hbl) (law_in (k := 1) hi (by decide) hL) d_law_365 ?_
  refine gj_aload_n X d_law_366 rfl 3 rfl ?_
  refine gj_iload_n X d_law_367 rfl 0 rfl ?_
  refine gj_iconst (v := 2) X d_law_368 (by decide) ?_
  refine gj_iadd X d_law_369 ?_
  refine gj_sld X hX hbl (Nat.not_le.mpr hbl) (law_in (k := 2) hi (by decide) hL) d_law_370 ?_
  refine gj_aload_n X d_law_371 rfl 3 rfl ?_
  refine gj_iload_n X d_law_372 rfl 0 rfl ?_
  refine gj_iconst (v := 3) X d_law_373 (by decide) ?_
  refine gj_iadd X d_law_374 ?_
  refine gj_sld X hX hbl (Nat.not_le.mpr hbl) (law_in (k := 3) hi (by decide) hL) d_law_375 ?_
  refine gj_i2l X d_law_376 ?_
  refine gj_bipush (v := 32) X d_law_377 (by decide) ?_
  refine gj_lshl X d_law_379 ?_
  refine gj_aload_n X d_law_380 rfl 3 rfl ?_
  refine gj_iload_n X d_law_381 rfl 0 rfl ?_
  refine gj_iconst (v := 4) X d_law_382 (by decide) ?_
  refine gj_iadd X d_law_383 ?_
  refine gj_sld X hX hbl (Nat.not_le.mpr hbl) (law_in (k := 4) hi (by decide) hL) d_law_384 ?_
  refine gj_i2l X d_law_385 ?_
  refine gj_ldc2 (v := 4294967295) X tw_765 d_law_386 ?_
  refine gj_land X d_law_389 ?_
  refine gj_lor X d_law_390 ?_
  refine gj_cutVI (As := [.int (xs (nI i + 1).toNatClampNeg), .int (xs (nI i + 2).toNatClampNeg), .long ((((xs (nI i + 3).toNatClampNeg).toInt64) <<< (((32 : Int32)).toInt64 &&& 63)) ||| (((xs (nI i + 4).toNatClampNeg).toInt64) &&& 4294967295))]) (st := []) X (c_Gl_draw l dC dI h cI cL cZ σ ((xs (nI i + 1).toNatClampNeg)) ((xs (nI i + 2).toNatClampNeg)) (((((xs (nI i + 3).toNatClampNeg).toInt64) <<< (((32 : Int32)).toInt64 &&& 63)) ||| (((xs (nI i + 4).toNatClampNeg).toInt64) &&& 4294967295))) _ (ag_draw hinv)) ⟨gj_cwB X tw_433 tw_1 tw_430 hd_Gl_draw rfl rfl ⟨Nat.le_of_ble_eq_true rfl, Nat.le_of_ble_eq_true rfl⟩, X.2.2.2.2.1 _ tw_431, X.2.2.2.2.1 _ tw_432⟩ 0 rfl rfl [0, 1, 2, 3, 4, 5, 6, 7, 8, 9, 10, 11, 12, 13, 14, 15, 16, 17, 18, 19, 20, 21, 22, 23, 24, 25, 26, 27, 28, 29, 30] [31, 32, 33, 34, 35, 36, 37, 38, 39, 40, 41, 42, 43, 44, 45, 46, 47, 48, 49, 50, 51] (law_C1 h g cI cL cZ σ μ) (wr := wM g cI cL cZ μ) (law_R1 h g cI cL cZ σ μ) (by decide) (by decide) (by decide) (fun _ z => z) rfl (Nat.le_of_ble_eq_true rfl) ⟨Nat.le_of_ble_eq_true rfl, Nat.le_of_ble_eq_true rfl⟩ d_law_391 rfl (fun r1 σ1 hC => ?_)
  refine gj_aload_n X d_law_394 rfl 1 rfl ?_
  refine gj_aload_n X d_law_395 rfl 3 rfl ?_
  refine gj_iload_n X d_law_396 rfl 0 rfl ?_
  refine gj_iconst (v := 1) X d_law_397 (by decide) ?_
  refine gj_iadd X d_law_398 ?_
  refine gj_sld X hX hbl (Nat.not_le.mpr hbl) (law_in (k := 1) hi (by decide) hL) d_law_399 ?_
  refine gj_aload_n X d_law_400 rfl 3 rfl ?_
  refine gj_iload_n X d_law_401 rfl 0 rfl ?_
  refine gj_iconst (v := 2) X d_law_402 (by decide) ?_
  refine gj_iadd X d_law_403 ?_
  refine gj_sld X hX hbl (Nat.not_le.mpr hbl) (law_in (k := 2) hi (by decide) hL) d_law_404 ?_
  refine gj_aload_n X d_law_405 rfl 3 rfl ?_
  refine gj_iload_n X d_law_406 rfl 0 rfl ?_
  refine gj_iconst (v := 3) X d_law_407 (by decide) ?_
  refine gj_iadd X d_law_408 ?_
  refine gj_sld X hX hbl (Nat.not_le.mpr hbl) (law_in (k := 3) hi (by decide) hL) d_law_409 ?_
  refine gj_i2l X d_law_410 ?_
  refine gj_bipush (v := 32) X d_law_411 (by decide) ?_
  refine gj_lshl X d_law_413 ?_
  refine gj_aload_n X d_law_414 rfl 3 rfl ?_
  refine gj_iload_n X d_law_415 rfl 0 rfl ?_
  refine gj_iconst (v := 4) X d_law_416 (by decide) ?_
  refine gj_iadd X d_law_417 ?_
  refine gj_sld X hX hbl (Nat.not_le.mpr hbl) (law_in (k := 4) hi (by decide) hL) d_law_418 ?_
  refine gj_i2l X d_law_419 ?_
  refine gj_ldc2 (v := 4294967295) X tw_765 d_law_420 ?_
  refine gj_land X d_law_423 ?_
  refine gj_lor X d_law_424 ?_
  refine gj_cutVI (As := [.int (xs (nI i + 1).toNatClampNeg), .int (xs (nI i + 2).toNatClampNeg), .long ((((xs (nI i + 3).toNatClampNeg).toInt64) <<< (((32 : Int32)).toInt64 &&& 63)) ||| (((xs (nI i + 4).toNatClampNeg).toInt64) &&& 4294967295))]) (st := [.int r1]) X (c_Mo_draw l dC dI g cI cL cZ μ ((xs (nI i + 1).toNatClampNeg)) ((xs (nI i + 2).toNatClampNeg)) (((((xs (nI i + 3).toNatClampNeg).toInt64) <<< (((32 : Int32)).toInt64 &&& 63)) ||| (((xs (nI i + 4).toNatClampNeg).toInt64) &&& 4294967295))) _ hC) ⟨gj_cwB X tw_736 tw_10 tw_733 hd_Mo_draw rfl rfl ⟨Nat.le_of_ble_eq_true rfl, Nat.le_of_ble_eq_true rfl⟩, X.2.2.2.2.1 _ tw_734, X.2.2.2.2.1 _ tw_735⟩ 0 rfl rfl [0, 1, 2, 3, 4, 5, 6, 7, 8, 9, 10, 11, 12, 13, 14, 15, 16, 17, 18, 19, 20] [21, 22, 23, 24, 25, 26, 27, 28, 29, 30, 31, 32, 33, 34, 35, 36, 37, 38, 39, 40, 41, 42, 43, 44, 45, 46, 47, 48, 49, 50, 51] (law_C2 (bif σ1.2 then gs_sw h else h) g cI cL cZ σ1.1 μ) (wr := wG (bif σ1.2 then gs_sw h else h) cI cL σ1.1) (law_R2 (bif σ1.2 then gs_sw h else h) g cI cL cZ σ1.1 μ) (by decide) (by decide) (by decide) (fun _ z => z) rfl (Nat.le_of_ble_eq_true rfl) ⟨Nat.le_of_ble_eq_true rfl, Nat.le_of_ble_eq_true rfl⟩ d_law_425 rfl (fun r2 μ1 hC => ?_)
  obtain ⟨he, hinv1⟩ := hC
  have hb := back (bif σ1.2 then gs_sw h else h) σ1.1 μ1 hinv1
  have e0 : (bif σ1.2 then gs_sw h else h) 0 = h 0 := by cases σ1.2 <;> rfl
  rw [e0] at hb
  exact gj_icmp_eq (tgt := 526) X d_law_428 (by decide) (fun _ => hb) (fun z => absurd he z)
set_option maxHeartbeats 4000000 in
set_option maxRecDepth 100000 in
theorem law_c11 (X : gj_X p s m c #[Value.ref b] code 4 "GrammarLoomLaw" gj_tbl (dC, dI) gs_C (gs_T cI cL cZ)) (hX : va_X b L xs s s.heap) (hbl : b < s.heap.size) (hL : L ≤ 2560) {i : Nat} (hi : i + 5 ≤ L) {h g : Nat → Nat} {σ μ : gs_St} (hinv : lw_inv σ μ) (back : ∀ (h' : Nat → Nat) (σ' μ' : gs_St), lw_inv σ' μ' → lw_J p l e s m below meth c b dC dI (526) ([(3, .int (nI i)), (2, .ref (g 0)), (1, .ref (h' 0)), (0, .ref b)]) ([]) (wG h' cI cL σ' ++ wM g cI cL cZ μ')) : lw_J p l e s m below meth c b dC dI (433) ([(3, .int (nI i)), (2, .ref (g 0)), (1, .ref (h 0)), (0, .ref b)]) ([]) (wG h cI cL σ ++ wM g cI cL cZ μ) := by
  refine gj_aload_n X d_law_433 rfl 2 rfl ?_
  refine gj_aload_n X d_law_434 rfl 3 rfl ?_
  refine gj_iload_n X d_law_435 rfl 0 rfl ?_
  refine gj_iconst (v := 1) X d_law_436 (by decide) ?_
  refine gj_iadd X d_law_437 ?_
  refine gj_sld X hX hbl (Nat.not_le.mpr hbl) (law_in (k := 1) hi (by decide) hL) d_law_438 ?_
  refine gj_cutVI (As := [.int (xs (nI i + 1).toNatClampNeg)]) (st := []) X (c_Gl_row l dC dI h cI cL cZ σ ((xs (nI i + 1).toNatClampNeg)) _ (ag_row hinv)) ⟨gj_cwB X tw_484 tw_1 tw_481 hd_Gl_row rfl rfl ⟨Nat.le_of_ble_eq_true rfl, Nat.le_of_ble_eq_true rfl⟩, X.2.2.2.2.1 _ tw_482, X.2.2.2.2.1 _ tw_483⟩ 0 rfl rfl [0, 1, 2, 3, 4, 5, 6, 7, 8, 9, 10, 11, 12, 13, 14, 15, 16, 17, 18, 19, 20, 21, 22, 23, 24, 25, 26, 27, 28, 29, 30] [31, 32, 33, 34, 35, 36, 37, 38, 39, 40, 41, 42, 43, 44, 45, 46, 47, 48, 49, 50, 51] (law_C1 h g cI cL cZ σ μ) (wr := wM g cI cL cZ μ) (law_R1 h g cI cL cZ σ μ) (by decide) (by decide) (by decide) (fun _ z => z) rfl (Nat.le_of_ble_eq_true rfl) ⟨Nat.le_of_ble_eq_true rfl, Nat.le_of_ble_eq_true rfl⟩ d_law_439 rfl (fun r1 σ1 hC => ?_)
  refine gj_aload_n X d_law_442 rfl 1 rfl ?_
  refine gj_aload_n X d_law_443 rfl 3 rfl ?_
  refine gj_iload_n X d_law_444 rfl 0 rfl ?_
  refine gj_iconst (v := 1) X d_law_445 (by decide) ?_
  refine gj_iadd X d_law_446 ?_
  refine gj_sld X hX hbl (Nat.not_le.mpr hbl) (law_in (k := 1) hi (by decide) hL) d_law_447 ?_
  refine gj_cutVI (As := [.int (xs (nI i + 1).toNatClampNeg)]) (st := [.int r1]) X (c_Mo_row l dC dI g cI cL cZ μ ((xs (nI i + 1).toNatClampNeg)) _ hC) ⟨gj_cwB X tw_748 tw_10 tw_745 hd_Mo_row rfl rfl ⟨Nat.le_of_ble_eq_true rfl, Nat.le_of_ble_eq_true rfl⟩, X.2.2.2.2.1 _ tw_746, X.2.2.2.2.1 _ tw_747⟩ 0 rfl rfl [0, 1, 2, 3, 4, 5, 6, 7, 8, 9, 10, 11, 12, 13, 14, 15, 16, 17, 18, 19, 20] [21, 22, 23, 24, 25, 26, 27, 28, 29, 30, 31, 32, 33, 34, 35, 36, 37, 38, 39, 40, 41, 42, 43, 44, 45, 46, 47, 48, 49, 50, 51] (law_C2 h g cI cL cZ σ1 μ) (wr := wG h cI cL σ1) (law_R2 h g cI cL cZ σ1 μ) (by decide) (by decide) (by decide) (fun _ z => z) rfl (Nat.le_of_ble_eq_true rfl) ⟨Nat.le_of_ble_eq_true rfl, Nat.le_of_ble_eq_true rfl⟩ d_law_448 rfl (fun r2 μ1 hC => ?_)
  obtain ⟨he, hinv1⟩ := hC
  exact gj_icmp_eq (tgt := 526) X d_law_451 (by decide) (fun _ => back h σ1 μ1 hinv1) (fun z => absurd he z)
set_option maxHeartbeats 4000000 in
set_option maxRecDepth 100000 in
theorem law_c12 (X : gj_X p s m c #[Value.ref b] code 4 "GrammarLoomLaw" gj_tbl (dC, dI) gs_C (gs_T cI cL cZ)) (hX : va_X b L xs s s.heap) (hbl : b < s.heap.size) (hL : L ≤ 2560) {i : Nat} (hi : i + 5 ≤ L) {h g : Nat → Nat} {σ μ : gs_St} (hinv : lw_inv σ μ) (back : ∀ (h' : Nat → Nat) (σ' μ' : gs_St), lw_inv σ' μ' → lw_J p l e s m below meth c b dC dI (526) ([(3, .int (nI i)), (2, .ref (g 0)), (1, .ref (h' 0)), (0, .ref b)]) ([]) (wG h' cI cL σ' ++ wM g cI cL cZ μ')) : lw_J p l e s m below meth c b dC dI (456) ([(3, .int (nI i)), (2, .ref (g 0)), (1, .ref (h 0)), (0, .ref b)]) ([]) (wG h cI cL σ ++ wM g cI cL cZ μ) := by
  refine gj_aload_n X d_law_456 rfl 2 rfl ?_
  refine gj_aload_n X d_law_457 rfl 3 rfl ?_
  refine gj_iload_n X d_law_458 rfl 0 rfl ?_
  refine gj_iconst (v := 1) X d_law_459 (by decide) ?_
  refine gj_iadd X d_law_460 ?_
  refine gj_sld X hX hbl (Nat.not_le.mpr hbl) (law_in (k := 1) hi (by decide) hL) d_law_461 ?_
  refine gj_cutVI (As := [.int (xs (nI i + 1).toNatClampNeg)]) (st := []) X (c_Gl_leaf l dC dI h cI cL cZ σ ((xs (nI i + 1).toNatClampNeg)) _ (ag_leaf hinv)) ⟨gj_cwB X tw_492 tw_1 tw_489 hd_Gl_leaf rfl rfl ⟨Nat.le_of_ble_eq_true rfl, Nat.le_of_ble_eq_true rfl⟩, X.2.2.2.2.1 _ tw_490, X.2.2.2.2.1 _ tw_491⟩ 0 rfl rfl [0, 1, 2, 3, 4, 5, 6, 7, 8, 9, 10, 11, 12, 13, 14, 15, 16, 17, 18, 19, 20, 21, 22, 23, 24, 25, 26, 27, 28, 29, 30] [31, 32, 33, 34, 35, 36, 37, 38, 39, 40, 41, 42, 43, 44, 45, 46, 47, 48, 49, 50, 51] (law_C1 h g cI cL cZ σ μ) (wr := wM g cI cL cZ μ) (law_R1 h g cI cL cZ σ μ) (by decide) (by decide) (by decide) (fun _ z => z) rfl (Nat.le_of_ble_eq_true rfl) ⟨Nat.le_of_ble_eq_true rfl, Nat.le_of_ble_eq_true rfl⟩ d_law_462 rfl (fun r1 σ1 hC => ?_)
  refine gj_aload_n X d_law_465 rfl 1 rfl ?_
  refine gj_aload_n X d_law_466 rfl 3 rfl ?_
  refine gj_iload_n X d_law_467 rfl 0 rfl ?_
  refine gj_iconst (v := 1) X d_law_468 (by decide) ?_
  refine gj_iadd X d_law_469 ?_
  refine gj_sld X hX hbl (Nat.not_le.mpr hbl) (law_in (k := 1) hi (by decide) hL) d_law_470 ?_
  refine gj_cutVI (As := [.int (xs (nI i + 1).toNatClampNeg)]) (st := [.int r1]) X (c_Mo_leaf l dC dI g cI cL cZ μ ((xs (nI i + 1).toNatClampNeg)) _ hC) ⟨gj_cwB X tw_752 tw_10 tw_749 hd_Mo_leaf rfl rfl ⟨Nat.le_of_ble_eq_true rfl, Nat.le_of_ble_eq_true rfl⟩, X.2.2.2.2.1 _ tw_750, X.2.2.2.2.1 _ tw_751⟩ 0 rfl rfl [0, 1, 2, 3, 4, 5, 6, 7, 8, 9, 10, 11, 12, 13, 14, 15, 16, 17, 18, 19, 20] [21, 22, 23, 24, 25, 26, 27, 28, 29, 30, 31, 32, 33, 34, 35, 36, 37, 38, 39, 40, 41, 42, 43, 44, 45, 46, 47, 48, 49, 50, 51] (law_C2 h g cI cL cZ σ1 μ) (wr := wG h cI cL σ1) (law_R2 h g cI cL cZ σ1 μ) (by decide) (by decide) (by decide) (fun _ z => z) rfl (Nat.le_of_ble_eq_true rfl) ⟨Nat.le_of_ble_eq_true rfl, Nat.le_of_ble_eq_true rfl⟩ d_law_471 rfl (fun r2 μ1 hC => ?_)
  obtain ⟨he, hinv1⟩ := hC
  exact gj_icmp_eq (tgt := 526) X d_law_474 (by decide) (fun _ => back h σ1 μ1 hinv1) (fun z => absurd he z)
set_option maxHeartbeats 4000000 in
set_option maxRecDepth 100000 in
theorem law_c13 (X : gj_X p s m c #[Value.ref b] code 4 "GrammarLoomLaw" gj_tbl (dC, dI) gs_C (gs_T cI cL cZ)) (hX : va_X b L xs s s.heap) (hbl : b < s.heap.size) (hL : L ≤ 2560) {i : Nat} (hi : i + 5 ≤ L) {h g : Nat → Nat} {σ μ : gs_St} (hinv : lw_inv σ μ) (back : ∀ (h' : Nat → Nat) (σ' μ' : gs_St), lw_inv σ' μ' → lw_J p l e s m below meth c b dC dI (526) ([(3, .int (nI i)), (2, .ref (g 0)), (1, .ref (h' 0)), (0, .ref b)]) ([]) (wG h' cI cL σ' ++ wM g cI cL cZ μ')) : lw_J p l e s m below meth c b dC dI (479) ([(3, .int (nI i)), (2, .ref (g 0)), (1, .ref (h 0)), (0, .ref b)]) ([]) (wG h cI cL σ ++ wM g cI cL cZ μ) := by
  refine gj_aload_n X d_law_479 rfl 2 rfl ?_
  refine gj_aload_n X d_law_480 rfl 3 rfl ?_
  refine gj_iload_n X d_law_481 rfl 0 rfl ?_
  refine gj_iconst (v := 1) X d_law_482 (by decide) ?_
  refine gj_iadd X d_law_483 ?_
  refine gj_sld X hX hbl (Nat.not_le.mpr hbl) (law_in (k := 1) hi (by decide) hL) d_law_484 ?_
  refine gj_cutVI (As := [.int (xs (nI i + 1).toNatClampNeg)]) (st := []) X (c_Gl_list l dC dI h cI cL cZ σ ((xs (nI i + 1).toNatClampNeg)) _ (ag_list hinv)) ⟨gj_cwB X tw_500 tw_1 tw_497 hd_Gl_list rfl rfl ⟨Nat.le_of_ble_eq_true rfl, Nat.le_of_ble_eq_true rfl⟩, X.2.2.2.2.1 _ tw_498, X.2.2.2.2.1 _ tw_499⟩ 0 rfl rfl [0, 1, 2, 3, 4, 5, 6, 7, 8, 9, 10, 11, 12, 13, 14, 15, 16, 17, 18, 19, 20, 21, 22, 23, 24, 25, 26, 27, 28, 29, 30] [31, 32, 33, 34, 35, 36, 37, 38, 39, 40, 41, 42, 43, 44, 45, 46, 47, 48, 49, 50, 51] (law_C1 h g cI cL cZ σ μ) (wr := wM g cI cL cZ μ) (law_R1 h g cI cL cZ σ μ) (by decide) (by decide) (by decide) (fun _ z => z) rfl (Nat.le_of_ble_eq_true rfl) ⟨Nat.le_of_ble_eq_true rfl, Nat.le_of_ble_eq_true rfl⟩ d_law_485 rfl (fun r1 σ1 hC => ?_)
  refine gj_aload_n X d_law_488 rfl 1 rfl ?_
  refine gj_aload_n X d_law_489 rfl 3 rfl ?_
  refine gj_iload_n X d_law_490 rfl 0 rfl ?_
  refine gj_iconst (v := 1) X d_law_491 (by decide) ?_
  refine gj_iadd X d_law_492 ?_
  refine gj_sld X hX hbl (Nat.not_le.mpr hbl) (law_in (k := 1) hi (by decide) hL) d_law_493 ?_
  refine gj_cutVI (As := [.int (xs (nI i + 1).toNatClampNeg)]) (st := [.int r1]) X (c_Mo_list l dC dI g cI cL cZ μ ((xs (nI i + 1).toNatClampNeg)) _ hC) ⟨gj_cwB X tw_756 tw_10 tw_753 hd_Mo_list rfl rfl ⟨Nat.le_of_ble_eq_true rfl, Nat.le_of_ble_eq_true rfl⟩, X.2.2.2.2.1 _ tw_754, X.2.2.2.2.1 _ tw_755⟩ 0 rfl rfl [0, 1, 2, 3, 4, 5, 6, 7, 8, 9, 10, 11, 12, 13, 14, 15, 16, 17, 18, 19, 20] [21, 22, 23, 24, 25, 26, 27, 28, 29, 30, 31, 32, 33, 34, 35, 36, 37, 38, 39, 40, 41, 42, 43, 44, 45, 46, 47, 48, 49, 50, 51] (law_C2 h g cI cL cZ σ1 μ) (wr := wG h cI cL σ1) (law_R2 h g cI cL cZ σ1 μ) (by decide) (by decide) (by decide) (fun _ z => z) rfl (Nat.le_of_ble_eq_true rfl) ⟨Nat.le_of_ble_eq_true rfl, Nat.le_of_ble_eq_true rfl⟩ d_law_494 rfl (fun r2 μ1 hC => ?_)
  obtain ⟨he, hinv1⟩ := hC
  exact gj_icmp_eq (tgt := 526) X d_law_497 (by decide) (fun _ => back h σ1 μ1 hinv1) (fun z => absurd he z)
set_option maxHeartbeats 4000000 in
set_option maxRecDepth 100000 in
theorem law_c14 (X : gj_X p s m c #[Value.ref b] code 4 "GrammarLoomLaw" gj_tbl (dC, dI) gs_C (gs_T cI cL cZ)) (hX : va_X b L xs s s.heap) (hbl : b < s.heap.size) (hL : L ≤ 2560) {i : Nat} (hi : i + 5 ≤ L) {h g : Nat → Nat} {σ μ : gs_St} (hinv : lw_inv σ μ) (back : ∀ (h' : Nat → Nat) (σ' μ' : gs_St), lw_inv σ' μ' → lw_J p l e s m below meth c b dC dI (526) ([(3, .int (nI i)), (2, .ref (g 0)), (1, .ref (h' 0)), (0, .ref b)]) ([]) (wG h' cI cL σ' ++ wM g cI cL cZ μ')) : lw_J p l e s m below meth c b dC dI (502) ([(3, .int (nI i)), (2, .ref (g 0)), (1, .ref (h 0)), (0, .ref b)]) ([]) (wG h cI cL σ ++ wM g cI cL cZ μ) := by
  refine gj_aload_n X d_law_502 rfl 2 rfl ?_
  refine gj_aload_n X d_law_503 rfl 3 rfl ?_
  refine gj_iload_n X d_law_504 rfl 0 rfl ?_
  refine gj_iconst (v := 1) X d_law_505 (by decide) ?_
  refine gj_iadd X d_law_506 ?_
  refine gj_sld X hX hbl (Nat.not_le.mpr hbl) (law_in (k := 1) hi (by decide) hL) d_law_507 ?_
  refine gj_cutVL (As := [.int (xs (nI i + 1).toNatClampNeg)]) (st := []) X (c_Gl_number l dC dI h cI cL cZ σ ((xs (nI i + 1).toNatClampNeg)) _ (ag_number hinv)) ⟨gj_cwB X tw_508 tw_1 tw_505 hd_Gl_number rfl rfl ⟨Nat.le_of_ble_eq_true rfl, Nat.le_of_ble_eq_true rfl⟩, X.2.2.2.2.1 _ tw_506, X.2.2.2.2.1 _ tw_507⟩ 0 rfl rfl [0, 1, 2, 3, 4, 5, 6, 7, 8, 9, 10, 11, 12, 13, 14, 15, 16, 17, 18, 19, 20, 21, 22, 23, 24, 25, 26, 27, 28, 29, 30] [31, 32, 33, 34, 35, 36, 37, 38, 39, 40, 41, 42, 43, 44, 45, 46, 47, 48, 49, 50, 51] (law_C1 h g cI cL cZ σ μ) (wr := wM g cI cL cZ μ) (law_R1 h g cI cL cZ σ μ) (by decide) (by decide) (by decide) (fun _ z => z) rfl (Nat.le_of_ble_eq_true rfl) ⟨Nat.le_of_ble_eq_true rfl, Nat.le_of_ble_eq_true rfl⟩ d_law_508 rfl (fun r1 σ1 hC => ?_)
  refine gj_aload_n X d_law_511 rfl 1 rfl ?_
  refine gj_aload_n X d_law_512 rfl 3 rfl ?_
  refine gj_iload_n X d_law_513 rfl 0 rfl ?_
  refine gj_iconst (v := 1) X d_law_514 (by decide) ?_
  refine gj_iadd X d_law_515 ?_
  refine gj_sld X hX hbl (Nat.not_le.mpr hbl) (law_in (k := 1) hi (by decide) hL) d_law_516 ?_
  refine gj_cutVL (As := [.int (xs (nI i + 1).toNatClampNeg)]) (st := [.long r1]) X (c_Mo_number l dC dI g cI cL cZ μ ((xs (nI i + 1).toNatClampNeg)) _ hC) ⟨gj_cwB X tw_760 tw_10 tw_757 hd_Mo_number rfl rfl ⟨Nat.le_of_ble_eq_true rfl, Nat.le_of_ble_eq_true rfl⟩, X.2.2.2.2.1 _ tw_758, X.2.2.2.2.1 _ tw_759⟩ 0 rfl rfl [0, 1, 2, 3, 4, 5, 6, 7, 8, 9, 10, 11, 12, 13, 14, 15, 16, 17, 18, 19, 20] [21, 22, 23, 24, 25, 26, 27, 28, 29, 30, 31, 32, 33, 34, 35, 36, 37, 38, 39, 40, 41, 42, 43, 44, 45, 46, 47, 48, 49, 50, 51] (law_C2 h g cI cL cZ σ1 μ) (wr := wG h cI cL σ1) (law_R2 h g cI cL cZ σ1 μ) (by decide) (by decide) (by decide) (fun _ z => z) rfl (Nat.le_of_ble_eq_true rfl) ⟨Nat.le_of_ble_eq_true rfl, Nat.le_of_ble_eq_true rfl⟩ d_law_517 rfl (fun r2 μ1 hC => ?_)
  obtain ⟨he, hinv1⟩ := hC
  exact gj_lcmp_eq (tgt := 526) X d_law_520 d_law_521 (by decide) (fun _ => back h σ1 μ1 hinv1) (fun z => absurd he z)
set_option maxHeartbeats 4000000 in
set_option maxRecDepth 100000 in
theorem law_loop (X : gj_X p s m c #[Value.ref b] code 4 "GrammarLoomLaw" gj_tbl (dC, dI) gs_C (gs_T cI cL cZ)) (hX : va_X b L xs s s.heap) (hbl : b < s.heap.size) (hL : L ≤ 2560) (hr : meth.sig.returnType = ret) (hlk : meth.locks = false) (g : Nat → Nat) : ∀ (n i : Nat), L - i ≤ n → i ≤ 2600 → ∀ (h : Nat → Nat) (σ μ : gs_St), lw_inv σ μ → lw_J p l e s m below meth c b dC dI (18) ([(3, .int (nI i)), (2, .ref (g 0)), (1, .ref (h 0)), (0, .ref b)]) ([]) (wG h cI cL σ ++ wM g cI cL cZ μ) := by
  intro n
  induction n using Nat.strongRecOn with
  | _ n ih =>
    intro i hn hi0 h σ μ hinv
    refine gj_iload_n X d_law_18 rfl 0 rfl ?_
    refine gj_aload_n X d_law_19 rfl 3 rfl ?_
    refine gj_slen X hX hbl (Nat.not_le.mpr hbl) d_law_20 ?_
    refine gj_iconst (v := 5) X d_law_21 (by decide) ?_
    refine gj_isub X d_law_22 ?_
    refine gj_icmp_gt (tgt := 532) X d_law_23 (by decide) (fun c0 => ?_) (fun c0 => ?_)
    · refine gj_iconst (v := 1) X d_law_532 (by decide) ?_
      exact fun H locs ls hP hD hS hv => va_forget hS.2.2 (lw_ret X.1 X.2.1 hr hlk d_law_533)
    · have hi : i + 5 ≤ L := by
        have e1 : (nI L - nI 5).toInt = (L : Int) - 5 := pk_sub_toInt (by omega) (by decide)
        have e2 : (nI i).toInt = (i : Int) := nI_toInt (by omega)
        have c1 : ¬ (nI L - nI 5).toInt < (nI i).toInt := fun z => c0 (Int32.lt_iff_toInt_lt.mpr z)
        rw [e1, e2] at c1
        omega
      have back : ∀ (h' : Nat → Nat) (σ' μ' : gs_St), lw_inv σ' μ' → lw_J p l e s m below meth c b dC dI (526) ([(3, .int (nI i)), (2, .ref (g 0)), (1, .ref (h' 0)), (0, .ref b)]) ([]) (wG h' cI cL σ' ++ wM g cI cL cZ μ') := fun h' σ' μ' hinv' => by
        refine gj_iinc (v := nI (i + 5)) (L' := [(3, .int (nI (i + 5))), (2, .ref (g 0)), (1, .ref (h' 0)), (0, .ref b)]) X d_law_526 0 rfl (nI_add i 5) (by decide) rfl ?_
        refine gj_goto (tgt := 18) X d_law_529 (by decide) ?_
        exact ih (L - (i + 5)) (by omega) (i + 5) (Nat.le_refl _) (by omega) h' σ' μ' hinv'
      refine gj_aload_n X d_law_26 rfl 3 rfl ?_
      refine gj_iload_n X d_law_27 rfl 0 rfl ?_
      refine gj_sld X hX hbl (Nat.not_le.mpr hbl) (vp_in_nI (by omega) (by omega)) d_law_28 ?_
      refine gj_bipush (v := 15) X d_law_29 (by decide) ?_
      refine gj_iand X d_law_31 ?_
      obtain ⟨j, hj, ej⟩ := pk_andE (xs (nI i).toNatClampNeg) (m := 15) 4 (by decide)
      rw [ej]
      rcases (show j = 0 ∨ j = 1 ∨ j = 2 ∨ j = 3 ∨ j = 4 ∨ j = 5 ∨ j = 6 ∨ j = 7 ∨ j = 8 ∨ j = 9 ∨ j = 10 ∨ j = 11 ∨ j = 12 ∨ j = 13 ∨ j = 14 ∨ j = 15 by omega) with rfl | rfl | rfl | rfl | rfl | rfl | rfl | rfl | rfl | rfl | rfl | rfl | rfl | rfl | rfl | rfl
      · exact gj_tableIn (tgt := 108) X d_law_32 (by decide) (by decide) rfl (by decide) (law_c0 X hX hbl hL hi hinv back)
      · exact gj_tableIn (tgt := 131) X d_law_32 (by decide) (by decide) rfl (by decide) (law_c1 X hX hbl hL hi hinv back)
      · exact gj_tableIn (tgt := 154) X d_law_32 (by decide) (by decide) rfl (by decide) (law_c2 X hX hbl hL hi hinv back)
      · exact gj_tableIn (tgt := 177) X d_law_32 (by decide) (by decide) rfl (by decide) (law_c3 X hX hbl hL hi hinv back)
      · exact gj_tableIn (tgt := 200) X d_law_32 (by decide) (by decide) rfl (by decide) (law_c4 X hX hbl hL hi hinv back)
      · exact gj_tableIn (tgt := 233) X d_law_32 (by decide) (by decide) rfl (by decide) (law_c5 X hX hbl hL hi hinv back)
      · exact gj_tableIn (tgt := 256) X d_law_32 (by decide) (by decide) rfl (by decide) (law_c6 X hX hbl hL hi hinv back)
      · exact gj_tableIn (tgt := 279) X d_law_32 (by decide) (by decide) rfl (by decide) (law_c7 X hX hbl hL hi hinv back)
      · exact gj_tableIn (tgt := 292) X d_law_32 (by decide) (by decide) rfl (by decide) (law_c8 X hX hbl hL hi hinv back)
      · exact gj_tableIn (tgt := 326) X d_law_32 (by decide) (by decide) rfl (by decide) (law_c9 X hX hbl hL hi hinv back)
      · exact gj_tableIn (tgt := 360) X d_law_32 (by decide) (by decide) rfl (by decide) (law_c10 X hX hbl hL hi hinv back)
      · exact gj_tableIn (tgt := 433) X d_law_32 (by decide) (by decide) rfl (by decide) (law_c11 X hX hbl hL hi hinv back)
      · exact gj_tableIn (tgt := 456) X d_law_32 (by decide) (by decide) rfl (by decide) (law_c12 X hX hbl hL hi hinv back)
      · exact gj_tableIn (tgt := 479) X d_law_32 (by decide) (by decide) rfl (by decide) (law_c13 X hX hbl hL hi hinv back)
      · exact gj_tableIn (tgt := 502) X d_law_32 (by decide) (by decide) rfl (by decide) (law_c14 X hX hbl hL hi hinv back)
      · exact gj_tableOut (tgt := 526) X d_law_32 (by decide) (by decide) (back h σ μ hinv)
end LAW
