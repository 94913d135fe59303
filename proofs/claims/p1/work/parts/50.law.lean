/-! THE CLAIM OUT OF ONE WALK OF THE LAW'S BODY. Your part is whole_start (and what it stands on); all else here is the same for every law, but numbers. -/
def R_law : String := "HeightFineLaw"
def lw_P (b : Addr) (xs : List Int32) (args : Array Value) (s : State) : Prop := args = #[.ref b] ∧ s.IntsAt b xs ∧ xs.length ≤ 6 ∧ (Jvm.Cond.and given_1 narrow_1).before args s = true
def lw_Q (_ : Array Value) (s : State) (o : Outcome) (t : State) : Prop := o = .returned (some (.int 1)) ∧ Framed s o t [] 600000 7302250
def lw_Z (below : List Frame) (a : Array Value) (s : State) : State → Prop := fun t => ∃ o, t.status = .running ∧ Ended t below o ∧ lw_Q a s o t
/-- the law's own end, with 1 on the stack, nothing written that was there before, its room as the claim has it -/
theorem lw_ret {p : Program} {l : Launch} {e : Env} {s : State} {m : MethodId} {below : List Frame} {meth : Method} {c : Code} {b : Nat} (hx : p.tables.exec = Jvm.exec) (hb : c.code = code) (hr : meth.sig.returnType = ret) (hlocks : meth.locks = false) {pc : Nat} {H : Heap} {ls : Array Slot} (hdg : decode code pc = .ok (.ireturn, 1)) : W p l e room_1 s m #[Value.ref b] below meth c H [] 600000 7302250 (lw_Z below #[Value.ref b] s) (F0 m pc ls [.int 1]) := by
  intro T hT X
  obtain ⟨fs, hret, hrun, hended, hW, hframe⟩ := X.leave (v := some (.int 1)) (hlocks := hlocks) (fun h => by rw [hr] at h; cases h)
  have hmeth' : T.vm.method? m = some meth := X.method'
  refine ⟨T.setFrames fs, ?_, .returned (some (.int 1)), hrun, hended, rfl, ⟨_, rfl⟩, hW, hframe⟩
  jvm_step X.here [X.here.top, hx, hb, hdg, hmeth', hr, ret, narrow_b1]
  (try refine ⟨rfl, ?_⟩); (try refine ⟨rfl, ?_⟩)
  first | (intro acts; rw [hret _ acts rfl rfl rfl]) | rw [hret _ _ rfl rfl rfl]
  exact Steps.refl _
/-- what holds at the law's entry: the machine, the code, the tables' words (any of lw_tbl by 'hts w (by decide +kernel)'), the script of L ints xs at the cell b, what the Statement gives of the start (any of its parts by flat_of_before) -/
def lw_At (p : Program) (s : State) (m : MethodId) (meth : Method) (c : Code) (b L : Nat) (xs : Nat → Int32) : Prop :=
  p.tables.exec = Jvm.exec ∧ c.code = code ∧ meth.sig.returnType = ret ∧ c.maxLocals = 4 ∧ s.vm.findClass R_law = some m.cls ∧ (∀ w ∈ lw_tbl, w.before #[Value.ref b] s = true) ∧ va_X b L xs s s.heap ∧ b < s.heap.size ∧ meth.locks = false ∧ (Jvm.Cond.and given_1 narrow_1).before #[Value.ref b] s = true
theorem dL_law_0 : decode code 0 = .ok (.new 7, 3) := by decide +kernel
theorem dL_law_3 : decode code 3 = .ok (.dup, 1) := by decide +kernel
theorem dL_law_4 : decode code 4 = .ok (.invokespecial 9, 3) := by decide +kernel
theorem dL_law_7 : decode code 7 = .ok (.astore_n 1, 1) := by decide +kernel
theorem dL_law_8 : decode code 8 = .ok (.new 10, 3) := by decide +kernel
theorem dL_law_11 : decode code 11 = .ok (.dup, 1) := by decide +kernel
theorem dL_law_12 : decode code 12 = .ok (.invokespecial 12, 3) := by decide +kernel
theorem dL_law_15 : decode code 15 = .ok (.astore_n 2, 1) := by decide +kernel
theorem dL_law_16 : decode code 16 = .ok (.iconst 0, 1) := by decide +kernel
theorem dL_law_17 : decode code 17 = .ok (.istore_n 3, 1) := by decide +kernel
theorem dL_law_18 : decode code 18 = .ok (.iload_n 3, 1) := by decide +kernel
theorem dL_law_19 : decode code 19 = .ok (.aload_n 0, 1) := by decide +kernel
theorem dL_law_20 : decode code 20 = .ok (.arraylength, 1) := by decide +kernel
theorem dL_law_21 : decode code 21 = .ok (.bipush 6, 2) := by decide +kernel
theorem dL_law_23 : decode code 23 = .ok (.isub, 1) := by decide +kernel
theorem dL_law_24 : decode code 24 = .ok (.if_icmp .gt 1353, 3) := by decide +kernel
theorem dL_law_27 : decode code 27 = .ok (.aload_n 0, 1) := by decide +kernel
theorem dL_law_28 : decode code 28 = .ok (.iload_n 3, 1) := by decide +kernel
theorem dL_law_29 : decode code 29 = .ok (.iaload, 1) := by decide +kernel
theorem dL_law_30 : decode code 30 = .ok (.bipush 31, 2) := by decide +kernel
theorem dL_law_32 : decode code 32 = .ok (.iand, 1) := by decide +kernel
theorem dL_law_33 : decode code 33 = .ok (.tableswitch 1338 0 28 #[131, 194, 217, 250, 273, 306, 349, 382, 435, 478, 521, 580, 633, 686, 729, 762, 805, 869, 922, 975, 1018, 1052, 1085, 1134, 1183, 1226, 1269, 1292, 1315], 131) := by decide +kernel
theorem dL_law_164 : decode code 164 = .ok (.aload_n 1, 1) := by decide +kernel
theorem dL_law_165 : decode code 165 = .ok (.aload_n 0, 1) := by decide +kernel
theorem dL_law_166 : decode code 166 = .ok (.iload_n 3, 1) := by decide +kernel
theorem dL_law_167 : decode code 167 = .ok (.iconst 1, 1) := by decide +kernel
theorem dL_law_168 : decode code 168 = .ok (.iadd, 1) := by decide +kernel
theorem dL_law_169 : decode code 169 = .ok (.iaload, 1) := by decide +kernel
theorem dL_law_170 : decode code 170 = .ok (.aload_n 0, 1) := by decide +kernel
theorem dL_law_171 : decode code 171 = .ok (.iload_n 3, 1) := by decide +kernel
theorem dL_law_172 : decode code 172 = .ok (.iconst 2, 1) := by decide +kernel
theorem dL_law_173 : decode code 173 = .ok (.iadd, 1) := by decide +kernel
theorem dL_law_174 : decode code 174 = .ok (.iaload, 1) := by decide +kernel
theorem dL_law_175 : decode code 175 = .ok (.aload_n 0, 1) := by decide +kernel
theorem dL_law_176 : decode code 176 = .ok (.iload_n 3, 1) := by decide +kernel
theorem dL_law_177 : decode code 177 = .ok (.iconst 3, 1) := by decide +kernel
theorem dL_law_178 : decode code 178 = .ok (.iadd, 1) := by decide +kernel
theorem dL_law_179 : decode code 179 = .ok (.iaload, 1) := by decide +kernel
theorem dL_law_180 : decode code 180 = .ok (.aload_n 0, 1) := by decide +kernel
theorem dL_law_181 : decode code 181 = .ok (.iload_n 3, 1) := by decide +kernel
theorem dL_law_182 : decode code 182 = .ok (.iconst 4, 1) := by decide +kernel
theorem dL_law_183 : decode code 183 = .ok (.iadd, 1) := by decide +kernel
theorem dL_law_184 : decode code 184 = .ok (.iaload, 1) := by decide +kernel
theorem dL_law_185 : decode code 185 = .ok (.aload_n 0, 1) := by decide +kernel
theorem dL_law_186 : decode code 186 = .ok (.iload_n 3, 1) := by decide +kernel
theorem dL_law_187 : decode code 187 = .ok (.iconst 5, 1) := by decide +kernel
theorem dL_law_188 : decode code 188 = .ok (.iadd, 1) := by decide +kernel
theorem dL_law_189 : decode code 189 = .ok (.iaload, 1) := by decide +kernel
theorem dL_law_190 : decode code 190 = .ok (.invokevirtual 13, 3) := by decide +kernel
theorem dL_law_193 : decode code 193 = .ok (.aload_n 2, 1) := by decide +kernel
theorem dL_law_194 : decode code 194 = .ok (.aload_n 0, 1) := by decide +kernel
theorem dL_law_195 : decode code 195 = .ok (.iload_n 3, 1) := by decide +kernel
theorem dL_law_196 : decode code 196 = .ok (.iconst 1, 1) := by decide +kernel
theorem dL_law_197 : decode code 197 = .ok (.iadd, 1) := by decide +kernel
theorem dL_law_198 : decode code 198 = .ok (.iaload, 1) := by decide +kernel
theorem dL_law_199 : decode code 199 = .ok (.aload_n 0, 1) := by decide +kernel
theorem dL_law_200 : decode code 200 = .ok (.iload_n 3, 1) := by decide +kernel
theorem dL_law_201 : decode code 201 = .ok (.iconst 2, 1) := by decide +kernel
theorem dL_law_202 : decode code 202 = .ok (.iadd, 1) := by decide +kernel
theorem dL_law_203 : decode code 203 = .ok (.iaload, 1) := by decide +kernel
theorem dL_law_204 : decode code 204 = .ok (.aload_n 0, 1) := by decide +kernel
theorem dL_law_205 : decode code 205 = .ok (.iload_n 3, 1) := by decide +kernel
theorem dL_law_206 : decode code 206 = .ok (.iconst 3, 1) := by decide +kernel
theorem dL_law_207 : decode code 207 = .ok (.iadd, 1) := by decide +kernel
theorem dL_law_208 : decode code 208 = .ok (.iaload, 1) := by decide +kernel
theorem dL_law_209 : decode code 209 = .ok (.aload_n 0, 1) := by decide +kernel
theorem dL_law_210 : decode code 210 = .ok (.iload_n 3, 1) := by decide +kernel
theorem dL_law_211 : decode code 211 = .ok (.iconst 4, 1) := by decide +kernel
theorem dL_law_212 : decode code 212 = .ok (.iadd, 1) := by decide +kernel
theorem dL_law_213 : decode code 213 = .ok (.iaload, 1) := by decide +kernel
theorem dL_law_214 : decode code 214 = .ok (.aload_n 0, 1) := by decide +kernel
theorem dL_law_215 : decode code 215 = .ok (.iload_n 3, 1) := by decide +kernel
theorem dL_law_216 : decode code 216 = .ok (.iconst 5, 1) := by decide +kernel
theorem dL_law_217 : decode code 217 = .ok (.iadd, 1) := by decide +kernel
theorem dL_law_218 : decode code 218 = .ok (.iaload, 1) := by decide +kernel
theorem dL_law_219 : decode code 219 = .ok (.invokevirtual 17, 3) := by decide +kernel
theorem dL_law_222 : decode code 222 = .ok (.if_icmp .eq 1149, 3) := by decide +kernel
theorem dL_law_227 : decode code 227 = .ok (.aload_n 1, 1) := by decide +kernel
theorem dL_law_228 : decode code 228 = .ok (.aload_n 0, 1) := by decide +kernel
theorem dL_law_229 : decode code 229 = .ok (.iload_n 3, 1) := by decide +kernel
theorem dL_law_230 : decode code 230 = .ok (.iconst 1, 1) := by decide +kernel
theorem dL_law_231 : decode code 231 = .ok (.iadd, 1) := by decide +kernel
theorem dL_law_232 : decode code 232 = .ok (.iaload, 1) := by decide +kernel
theorem dL_law_233 : decode code 233 = .ok (.invokevirtual 18, 3) := by decide +kernel
theorem dL_law_236 : decode code 236 = .ok (.aload_n 2, 1) := by decide +kernel
theorem dL_law_237 : decode code 237 = .ok (.aload_n 0, 1) := by decide +kernel
theorem dL_law_238 : decode code 238 = .ok (.iload_n 3, 1) := by decide +kernel
theorem dL_law_239 : decode code 239 = .ok (.iconst 1, 1) := by decide +kernel
theorem dL_law_240 : decode code 240 = .ok (.iadd, 1) := by decide +kernel
theorem dL_law_241 : decode code 241 = .ok (.iaload, 1) := by decide +kernel
theorem dL_law_242 : decode code 242 = .ok (.invokevirtual 22, 3) := by decide +kernel
theorem dL_law_245 : decode code 245 = .ok (.if_icmp .eq 1126, 3) := by decide +kernel
theorem dL_law_250 : decode code 250 = .ok (.aload_n 1, 1) := by decide +kernel
theorem dL_law_251 : decode code 251 = .ok (.aload_n 0, 1) := by decide +kernel
theorem dL_law_252 : decode code 252 = .ok (.iload_n 3, 1) := by decide +kernel
theorem dL_law_253 : decode code 253 = .ok (.iconst 1, 1) := by decide +kernel
theorem dL_law_254 : decode code 254 = .ok (.iadd, 1) := by decide +kernel
theorem dL_law_255 : decode code 255 = .ok (.iaload, 1) := by decide +kernel
theorem dL_law_256 : decode code 256 = .ok (.aload_n 0, 1) := by decide +kernel
theorem dL_law_257 : decode code 257 = .ok (.iload_n 3, 1) := by decide +kernel
theorem dL_law_258 : decode code 258 = .ok (.iconst 2, 1) := by decide +kernel
theorem dL_law_259 : decode code 259 = .ok (.iadd, 1) := by decide +kernel
theorem dL_law_260 : decode code 260 = .ok (.iaload, 1) := by decide +kernel
theorem dL_law_261 : decode code 261 = .ok (.invokevirtual 23, 3) := by decide +kernel
theorem dL_law_264 : decode code 264 = .ok (.aload_n 2, 1) := by decide +kernel
theorem dL_law_265 : decode code 265 = .ok (.aload_n 0, 1) := by decide +kernel
theorem dL_law_266 : decode code 266 = .ok (.iload_n 3, 1) := by decide +kernel
theorem dL_law_267 : decode code 267 = .ok (.iconst 1, 1) := by decide +kernel
theorem dL_law_268 : decode code 268 = .ok (.iadd, 1) := by decide +kernel
theorem dL_law_269 : decode code 269 = .ok (.iaload, 1) := by decide +kernel
theorem dL_law_270 : decode code 270 = .ok (.aload_n 0, 1) := by decide +kernel
theorem dL_law_271 : decode code 271 = .ok (.iload_n 3, 1) := by decide +kernel
theorem dL_law_272 : decode code 272 = .ok (.iconst 2, 1) := by decide +kernel
theorem dL_law_273 : decode code 273 = .ok (.iadd, 1) := by decide +kernel
theorem dL_law_274 : decode code 274 = .ok (.iaload, 1) := by decide +kernel
theorem dL_law_275 : decode code 275 = .ok (.invokevirtual 27, 3) := by decide +kernel
theorem dL_law_278 : decode code 278 = .ok (.if_icmp .eq 1093, 3) := by decide +kernel
theorem dL_law_283 : decode code 283 = .ok (.aload_n 1, 1) := by decide +kernel
theorem dL_law_284 : decode code 284 = .ok (.aload_n 0, 1) := by decide +kernel
theorem dL_law_285 : decode code 285 = .ok (.iload_n 3, 1) := by decide +kernel
theorem dL_law_286 : decode code 286 = .ok (.iconst 1, 1) := by decide +kernel
theorem dL_law_287 : decode code 287 = .ok (.iadd, 1) := by decide +kernel
theorem dL_law_288 : decode code 288 = .ok (.iaload, 1) := by decide +kernel
theorem dL_law_289 : decode code 289 = .ok (.invokevirtual 28, 3) := by decide +kernel
theorem dL_law_292 : decode code 292 = .ok (.aload_n 2, 1) := by decide +kernel
theorem dL_law_293 : decode code 293 = .ok (.aload_n 0, 1) := by decide +kernel
theorem dL_law_294 : decode code 294 = .ok (.iload_n 3, 1) := by decide +kernel
theorem dL_law_295 : decode code 295 = .ok (.iconst 1, 1) := by decide +kernel
theorem dL_law_296 : decode code 296 = .ok (.iadd, 1) := by decide +kernel
theorem dL_law_297 : decode code 297 = .ok (.iaload, 1) := by decide +kernel
theorem dL_law_298 : decode code 298 = .ok (.invokevirtual 31, 3) := by decide +kernel
theorem dL_law_301 : decode code 301 = .ok (.if_icmp .eq 1070, 3) := by decide +kernel
theorem dL_law_306 : decode code 306 = .ok (.aload_n 1, 1) := by decide +kernel
theorem dL_law_307 : decode code 307 = .ok (.aload_n 0, 1) := by decide +kernel
theorem dL_law_308 : decode code 308 = .ok (.iload_n 3, 1) := by decide +kernel
theorem dL_law_309 : decode code 309 = .ok (.iconst 1, 1) := by decide +kernel
theorem dL_law_310 : decode code 310 = .ok (.iadd, 1) := by decide +kernel
theorem dL_law_311 : decode code 311 = .ok (.iaload, 1) := by decide +kernel
theorem dL_law_312 : decode code 312 = .ok (.aload_n 0, 1) := by decide +kernel
theorem dL_law_313 : decode code 313 = .ok (.iload_n 3, 1) := by decide +kernel
theorem dL_law_314 : decode code 314 = .ok (.iconst 2, 1) := by decide +kernel
theorem dL_law_315 : decode code 315 = .ok (.iadd, 1) := by decide +kernel
theorem dL_law_316 : decode code 316 = .ok (.iaload, 1) := by decide +kernel
theorem dL_law_317 : decode code 317 = .ok (.invokevirtual 32, 3) := by decide +kernel
theorem dL_law_320 : decode code 320 = .ok (.aload_n 2, 1) := by decide +kernel
theorem dL_law_321 : decode code 321 = .ok (.aload_n 0, 1) := by decide +kernel
theorem dL_law_322 : decode code 322 = .ok (.iload_n 3, 1) := by decide +kernel
theorem dL_law_323 : decode code 323 = .ok (.iconst 1, 1) := by decide +kernel
theorem dL_law_324 : decode code 324 = .ok (.iadd, 1) := by decide +kernel
theorem dL_law_325 : decode code 325 = .ok (.iaload, 1) := by decide +kernel
theorem dL_law_326 : decode code 326 = .ok (.aload_n 0, 1) := by decide +kernel
theorem dL_law_327 : decode code 327 = .ok (.iload_n 3, 1) := by decide +kernel
theorem dL_law_328 : decode code 328 = .ok (.iconst 2, 1) := by decide +kernel
theorem dL_law_329 : decode code 329 = .ok (.iadd, 1) := by decide +kernel
theorem dL_law_330 : decode code 330 = .ok (.iaload, 1) := by decide +kernel
theorem dL_law_331 : decode code 331 = .ok (.invokevirtual 35, 3) := by decide +kernel
theorem dL_law_334 : decode code 334 = .ok (.if_icmp .eq 1037, 3) := by decide +kernel
theorem dL_law_339 : decode code 339 = .ok (.aload_n 1, 1) := by decide +kernel
theorem dL_law_340 : decode code 340 = .ok (.aload_n 0, 1) := by decide +kernel
theorem dL_law_341 : decode code 341 = .ok (.iload_n 3, 1) := by decide +kernel
theorem dL_law_342 : decode code 342 = .ok (.iconst 1, 1) := by decide +kernel
theorem dL_law_343 : decode code 343 = .ok (.iadd, 1) := by decide +kernel
theorem dL_law_344 : decode code 344 = .ok (.iaload, 1) := by decide +kernel
theorem dL_law_345 : decode code 345 = .ok (.aload_n 0, 1) := by decide +kernel
theorem dL_law_346 : decode code 346 = .ok (.iload_n 3, 1) := by decide +kernel
theorem dL_law_347 : decode code 347 = .ok (.iconst 2, 1) := by decide +kernel
theorem dL_law_348 : decode code 348 = .ok (.iadd, 1) := by decide +kernel
theorem dL_law_349 : decode code 349 = .ok (.iaload, 1) := by decide +kernel
theorem dL_law_350 : decode code 350 = .ok (.aload_n 0, 1) := by decide +kernel
theorem dL_law_351 : decode code 351 = .ok (.iload_n 3, 1) := by decide +kernel
theorem dL_law_352 : decode code 352 = .ok (.iconst 3, 1) := by decide +kernel
theorem dL_law_353 : decode code 353 = .ok (.iadd, 1) := by decide +kernel
theorem dL_law_354 : decode code 354 = .ok (.iaload, 1) := by decide +kernel
theorem dL_law_355 : decode code 355 = .ok (.invokevirtual 36, 3) := by decide +kernel
theorem dL_law_358 : decode code 358 = .ok (.aload_n 2, 1) := by decide +kernel
theorem dL_law_359 : decode code 359 = .ok (.aload_n 0, 1) := by decide +kernel
theorem dL_law_360 : decode code 360 = .ok (.iload_n 3, 1) := by decide +kernel
theorem dL_law_361 : decode code 361 = .ok (.iconst 1, 1) := by decide +kernel
theorem dL_law_362 : decode code 362 = .ok (.iadd, 1) := by decide +kernel
theorem dL_law_363 : decode code 363 = .ok (.iaload, 1) := by decide +kernel
theorem dL_law_364 : decode code 364 = .ok (.aload_n 0, 1) := by decide +kernel
theorem dL_law_365 : decode code 365 = .ok (.iload_n 3, 1) := by decide +kernel
theorem dL_law_366 : decode code 366 = .ok (.iconst 2, 1) := by decide +kernel
theorem dL_law_367 : decode code 367 = .ok (.iadd, 1) := by decide +kernel
theorem dL_law_368 : decode code 368 = .ok (.iaload, 1) := by decide +kernel
theorem dL_law_369 : decode code 369 = .ok (.aload_n 0, 1) := by decide +kernel
theorem dL_law_370 : decode code 370 = .ok (.iload_n 3, 1) := by decide +kernel
theorem dL_law_371 : decode code 371 = .ok (.iconst 3, 1) := by decide +kernel
theorem dL_law_372 : decode code 372 = .ok (.iadd, 1) := by decide +kernel
theorem dL_law_373 : decode code 373 = .ok (.iaload, 1) := by decide +kernel
theorem dL_law_374 : decode code 374 = .ok (.invokevirtual 40, 3) := by decide +kernel
theorem dL_law_377 : decode code 377 = .ok (.if_icmp .eq 994, 3) := by decide +kernel
theorem dL_law_382 : decode code 382 = .ok (.aload_n 1, 1) := by decide +kernel
theorem dL_law_383 : decode code 383 = .ok (.aload_n 0, 1) := by decide +kernel
theorem dL_law_384 : decode code 384 = .ok (.iload_n 3, 1) := by decide +kernel
theorem dL_law_385 : decode code 385 = .ok (.iconst 1, 1) := by decide +kernel
theorem dL_law_386 : decode code 386 = .ok (.iadd, 1) := by decide +kernel
theorem dL_law_387 : decode code 387 = .ok (.iaload, 1) := by decide +kernel
theorem dL_law_388 : decode code 388 = .ok (.aload_n 0, 1) := by decide +kernel
theorem dL_law_389 : decode code 389 = .ok (.iload_n 3, 1) := by decide +kernel
theorem dL_law_390 : decode code 390 = .ok (.iconst 2, 1) := by decide +kernel
theorem dL_law_391 : decode code 391 = .ok (.iadd, 1) := by decide +kernel
theorem dL_law_392 : decode code 392 = .ok (.iaload, 1) := by decide +kernel
theorem dL_law_393 : decode code 393 = .ok (.invokevirtual 41, 3) := by decide +kernel
theorem dL_law_396 : decode code 396 = .ok (.aload_n 2, 1) := by decide +kernel
theorem dL_law_397 : decode code 397 = .ok (.aload_n 0, 1) := by decide +kernel
theorem dL_law_398 : decode code 398 = .ok (.iload_n 3, 1) := by decide +kernel
theorem dL_law_399 : decode code 399 = .ok (.iconst 1, 1) := by decide +kernel
theorem dL_law_400 : decode code 400 = .ok (.iadd, 1) := by decide +kernel
theorem dL_law_401 : decode code 401 = .ok (.iaload, 1) := by decide +kernel
theorem dL_law_402 : decode code 402 = .ok (.aload_n 0, 1) := by decide +kernel
theorem dL_law_403 : decode code 403 = .ok (.iload_n 3, 1) := by decide +kernel
theorem dL_law_404 : decode code 404 = .ok (.iconst 2, 1) := by decide +kernel
theorem dL_law_405 : decode code 405 = .ok (.iadd, 1) := by decide +kernel
theorem dL_law_406 : decode code 406 = .ok (.iaload, 1) := by decide +kernel
theorem dL_law_407 : decode code 407 = .ok (.invokevirtual 44, 3) := by decide +kernel
theorem dL_law_410 : decode code 410 = .ok (.if_icmp .eq 961, 3) := by decide +kernel
theorem dL_law_415 : decode code 415 = .ok (.aload_n 1, 1) := by decide +kernel
theorem dL_law_416 : decode code 416 = .ok (.aload_n 0, 1) := by decide +kernel
theorem dL_law_417 : decode code 417 = .ok (.iload_n 3, 1) := by decide +kernel
theorem dL_law_418 : decode code 418 = .ok (.iconst 1, 1) := by decide +kernel
theorem dL_law_419 : decode code 419 = .ok (.iadd, 1) := by decide +kernel
theorem dL_law_420 : decode code 420 = .ok (.iaload, 1) := by decide +kernel
theorem dL_law_421 : decode code 421 = .ok (.aload_n 0, 1) := by decide +kernel
theorem dL_law_422 : decode code 422 = .ok (.iload_n 3, 1) := by decide +kernel
theorem dL_law_423 : decode code 423 = .ok (.iconst 2, 1) := by decide +kernel
theorem dL_law_424 : decode code 424 = .ok (.iadd, 1) := by decide +kernel
theorem dL_law_425 : decode code 425 = .ok (.iaload, 1) := by decide +kernel
theorem dL_law_426 : decode code 426 = .ok (.aload_n 0, 1) := by decide +kernel
theorem dL_law_427 : decode code 427 = .ok (.iload_n 3, 1) := by decide +kernel
theorem dL_law_428 : decode code 428 = .ok (.iconst 3, 1) := by decide +kernel
theorem dL_law_429 : decode code 429 = .ok (.iadd, 1) := by decide +kernel
theorem dL_law_430 : decode code 430 = .ok (.iaload, 1) := by decide +kernel
theorem dL_law_431 : decode code 431 = .ok (.aload_n 0, 1) := by decide +kernel
theorem dL_law_432 : decode code 432 = .ok (.iload_n 3, 1) := by decide +kernel
theorem dL_law_433 : decode code 433 = .ok (.iconst 4, 1) := by decide +kernel
theorem dL_law_434 : decode code 434 = .ok (.iadd, 1) := by decide +kernel
theorem dL_law_435 : decode code 435 = .ok (.iaload, 1) := by decide +kernel
theorem dL_law_436 : decode code 436 = .ok (.invokevirtual 45, 3) := by decide +kernel
theorem dL_law_439 : decode code 439 = .ok (.aload_n 2, 1) := by decide +kernel
theorem dL_law_440 : decode code 440 = .ok (.aload_n 0, 1) := by decide +kernel
theorem dL_law_441 : decode code 441 = .ok (.iload_n 3, 1) := by decide +kernel
theorem dL_law_442 : decode code 442 = .ok (.iconst 1, 1) := by decide +kernel
theorem dL_law_443 : decode code 443 = .ok (.iadd, 1) := by decide +kernel
theorem dL_law_444 : decode code 444 = .ok (.iaload, 1) := by decide +kernel
theorem dL_law_445 : decode code 445 = .ok (.aload_n 0, 1) := by decide +kernel
theorem dL_law_446 : decode code 446 = .ok (.iload_n 3, 1) := by decide +kernel
theorem dL_law_447 : decode code 447 = .ok (.iconst 2, 1) := by decide +kernel
theorem dL_law_448 : decode code 448 = .ok (.iadd, 1) := by decide +kernel
theorem dL_law_449 : decode code 449 = .ok (.iaload, 1) := by decide +kernel
theorem dL_law_450 : decode code 450 = .ok (.aload_n 0, 1) := by decide +kernel
theorem dL_law_451 : decode code 451 = .ok (.iload_n 3, 1) := by decide +kernel
theorem dL_law_452 : decode code 452 = .ok (.iconst 3, 1) := by decide +kernel
theorem dL_law_453 : decode code 453 = .ok (.iadd, 1) := by decide +kernel
theorem dL_law_454 : decode code 454 = .ok (.iaload, 1) := by decide +kernel
theorem dL_law_455 : decode code 455 = .ok (.aload_n 0, 1) := by decide +kernel
theorem dL_law_456 : decode code 456 = .ok (.iload_n 3, 1) := by decide +kernel
theorem dL_law_457 : decode code 457 = .ok (.iconst 4, 1) := by decide +kernel
theorem dL_law_458 : decode code 458 = .ok (.iadd, 1) := by decide +kernel
theorem dL_law_459 : decode code 459 = .ok (.iaload, 1) := by decide +kernel
theorem dL_law_460 : decode code 460 = .ok (.invokevirtual 49, 3) := by decide +kernel
theorem dL_law_463 : decode code 463 = .ok (.if_icmp .eq 908, 3) := by decide +kernel
theorem dL_law_468 : decode code 468 = .ok (.aload_n 1, 1) := by decide +kernel
theorem dL_law_469 : decode code 469 = .ok (.aload_n 0, 1) := by decide +kernel
theorem dL_law_470 : decode code 470 = .ok (.iload_n 3, 1) := by decide +kernel
theorem dL_law_471 : decode code 471 = .ok (.iconst 1, 1) := by decide +kernel
theorem dL_law_472 : decode code 472 = .ok (.iadd, 1) := by decide +kernel
theorem dL_law_473 : decode code 473 = .ok (.iaload, 1) := by decide +kernel
theorem dL_law_474 : decode code 474 = .ok (.aload_n 0, 1) := by decide +kernel
theorem dL_law_475 : decode code 475 = .ok (.iload_n 3, 1) := by decide +kernel
theorem dL_law_476 : decode code 476 = .ok (.iconst 2, 1) := by decide +kernel
theorem dL_law_477 : decode code 477 = .ok (.iadd, 1) := by decide +kernel
theorem dL_law_478 : decode code 478 = .ok (.iaload, 1) := by decide +kernel
theorem dL_law_479 : decode code 479 = .ok (.aload_n 0, 1) := by decide +kernel
theorem dL_law_480 : decode code 480 = .ok (.iload_n 3, 1) := by decide +kernel
theorem dL_law_481 : decode code 481 = .ok (.iconst 3, 1) := by decide +kernel
theorem dL_law_482 : decode code 482 = .ok (.iadd, 1) := by decide +kernel
theorem dL_law_483 : decode code 483 = .ok (.iaload, 1) := by decide +kernel
theorem dL_law_484 : decode code 484 = .ok (.invokevirtual 50, 3) := by decide +kernel
theorem dL_law_487 : decode code 487 = .ok (.aload_n 2, 1) := by decide +kernel
theorem dL_law_488 : decode code 488 = .ok (.aload_n 0, 1) := by decide +kernel
theorem dL_law_489 : decode code 489 = .ok (.iload_n 3, 1) := by decide +kernel
theorem dL_law_490 : decode code 490 = .ok (.iconst 1, 1) := by decide +kernel
theorem dL_law_491 : decode code 491 = .ok (.iadd, 1) := by decide +kernel
theorem dL_law_492 : decode code 492 = .ok (.iaload, 1) := by decide +kernel
theorem dL_law_493 : decode code 493 = .ok (.aload_n 0, 1) := by decide +kernel
theorem dL_law_494 : decode code 494 = .ok (.iload_n 3, 1) := by decide +kernel
theorem dL_law_495 : decode code 495 = .ok (.iconst 2, 1) := by decide +kernel
theorem dL_law_496 : decode code 496 = .ok (.iadd, 1) := by decide +kernel
theorem dL_law_497 : decode code 497 = .ok (.iaload, 1) := by decide +kernel
theorem dL_law_498 : decode code 498 = .ok (.aload_n 0, 1) := by decide +kernel
theorem dL_law_499 : decode code 499 = .ok (.iload_n 3, 1) := by decide +kernel
theorem dL_law_500 : decode code 500 = .ok (.iconst 3, 1) := by decide +kernel
theorem dL_law_501 : decode code 501 = .ok (.iadd, 1) := by decide +kernel
theorem dL_law_502 : decode code 502 = .ok (.iaload, 1) := by decide +kernel
theorem dL_law_503 : decode code 503 = .ok (.invokevirtual 53, 3) := by decide +kernel
theorem dL_law_506 : decode code 506 = .ok (.if_icmp .eq 865, 3) := by decide +kernel
theorem dL_law_511 : decode code 511 = .ok (.aload_n 1, 1) := by decide +kernel
theorem dL_law_512 : decode code 512 = .ok (.aload_n 0, 1) := by decide +kernel
theorem dL_law_513 : decode code 513 = .ok (.iload_n 3, 1) := by decide +kernel
theorem dL_law_514 : decode code 514 = .ok (.iconst 1, 1) := by decide +kernel
theorem dL_law_515 : decode code 515 = .ok (.iadd, 1) := by decide +kernel
theorem dL_law_516 : decode code 516 = .ok (.iaload, 1) := by decide +kernel
theorem dL_law_517 : decode code 517 = .ok (.aload_n 0, 1) := by decide +kernel
theorem dL_law_518 : decode code 518 = .ok (.iload_n 3, 1) := by decide +kernel
theorem dL_law_519 : decode code 519 = .ok (.iconst 2, 1) := by decide +kernel
theorem dL_law_520 : decode code 520 = .ok (.iadd, 1) := by decide +kernel
theorem dL_law_521 : decode code 521 = .ok (.iaload, 1) := by decide +kernel
theorem dL_law_522 : decode code 522 = .ok (.aload_n 0, 1) := by decide +kernel
theorem dL_law_523 : decode code 523 = .ok (.iload_n 3, 1) := by decide +kernel
theorem dL_law_524 : decode code 524 = .ok (.iconst 3, 1) := by decide +kernel
theorem dL_law_525 : decode code 525 = .ok (.iadd, 1) := by decide +kernel
theorem dL_law_526 : decode code 526 = .ok (.iaload, 1) := by decide +kernel
theorem dL_law_527 : decode code 527 = .ok (.invokevirtual 54, 3) := by decide +kernel
theorem dL_law_530 : decode code 530 = .ok (.aload_n 2, 1) := by decide +kernel
theorem dL_law_531 : decode code 531 = .ok (.aload_n 0, 1) := by decide +kernel
theorem dL_law_532 : decode code 532 = .ok (.iload_n 3, 1) := by decide +kernel
theorem dL_law_533 : decode code 533 = .ok (.iconst 1, 1) := by decide +kernel
theorem dL_law_534 : decode code 534 = .ok (.iadd, 1) := by decide +kernel
theorem dL_law_535 : decode code 535 = .ok (.iaload, 1) := by decide +kernel
theorem dL_law_536 : decode code 536 = .ok (.aload_n 0, 1) := by decide +kernel
theorem dL_law_537 : decode code 537 = .ok (.iload_n 3, 1) := by decide +kernel
theorem dL_law_538 : decode code 538 = .ok (.iconst 2, 1) := by decide +kernel
theorem dL_law_539 : decode code 539 = .ok (.iadd, 1) := by decide +kernel
theorem dL_law_540 : decode code 540 = .ok (.iaload, 1) := by decide +kernel
theorem dL_law_541 : decode code 541 = .ok (.aload_n 0, 1) := by decide +kernel
theorem dL_law_542 : decode code 542 = .ok (.iload_n 3, 1) := by decide +kernel
theorem dL_law_543 : decode code 543 = .ok (.iconst 3, 1) := by decide +kernel
theorem dL_law_544 : decode code 544 = .ok (.iadd, 1) := by decide +kernel
theorem dL_law_545 : decode code 545 = .ok (.iaload, 1) := by decide +kernel
theorem dL_law_546 : decode code 546 = .ok (.invokevirtual 57, 3) := by decide +kernel
theorem dL_law_549 : decode code 549 = .ok (.if_icmp .eq 822, 3) := by decide +kernel
theorem dL_law_554 : decode code 554 = .ok (.aload_n 1, 1) := by decide +kernel
theorem dL_law_555 : decode code 555 = .ok (.aload_n 0, 1) := by decide +kernel
theorem dL_law_556 : decode code 556 = .ok (.iload_n 3, 1) := by decide +kernel
theorem dL_law_557 : decode code 557 = .ok (.iconst 1, 1) := by decide +kernel
theorem dL_law_558 : decode code 558 = .ok (.iadd, 1) := by decide +kernel
theorem dL_law_559 : decode code 559 = .ok (.iaload, 1) := by decide +kernel
theorem dL_law_560 : decode code 560 = .ok (.aload_n 0, 1) := by decide +kernel
theorem dL_law_561 : decode code 561 = .ok (.iload_n 3, 1) := by decide +kernel
theorem dL_law_562 : decode code 562 = .ok (.iconst 2, 1) := by decide +kernel
theorem dL_law_563 : decode code 563 = .ok (.iadd, 1) := by decide +kernel
theorem dL_law_564 : decode code 564 = .ok (.iaload, 1) := by decide +kernel
theorem dL_law_565 : decode code 565 = .ok (.aload_n 0, 1) := by decide +kernel
theorem dL_law_566 : decode code 566 = .ok (.iload_n 3, 1) := by decide +kernel
theorem dL_law_567 : decode code 567 = .ok (.iconst 3, 1) := by decide +kernel
theorem dL_law_568 : decode code 568 = .ok (.iadd, 1) := by decide +kernel
theorem dL_law_569 : decode code 569 = .ok (.iaload, 1) := by decide +kernel
theorem dL_law_570 : decode code 570 = .ok (.ifCond .eq 7, 3) := by decide +kernel
theorem dL_law_573 : decode code 573 = .ok (.iconst 1, 1) := by decide +kernel
theorem dL_law_574 : decode code 574 = .ok (.goto 4, 3) := by decide +kernel
theorem dL_law_577 : decode code 577 = .ok (.iconst 0, 1) := by decide +kernel
theorem dL_law_578 : decode code 578 = .ok (.invokevirtual 58, 3) := by decide +kernel
theorem dL_law_581 : decode code 581 = .ok (.aload_n 2, 1) := by decide +kernel
theorem dL_law_582 : decode code 582 = .ok (.aload_n 0, 1) := by decide +kernel
theorem dL_law_583 : decode code 583 = .ok (.iload_n 3, 1) := by decide +kernel
theorem dL_law_584 : decode code 584 = .ok (.iconst 1, 1) := by decide +kernel
theorem dL_law_585 : decode code 585 = .ok (.iadd, 1) := by decide +kernel
theorem dL_law_586 : decode code 586 = .ok (.iaload, 1) := by decide +kernel
theorem dL_law_587 : decode code 587 = .ok (.aload_n 0, 1) := by decide +kernel
theorem dL_law_588 : decode code 588 = .ok (.iload_n 3, 1) := by decide +kernel
theorem dL_law_589 : decode code 589 = .ok (.iconst 2, 1) := by decide +kernel
theorem dL_law_590 : decode code 590 = .ok (.iadd, 1) := by decide +kernel
theorem dL_law_591 : decode code 591 = .ok (.iaload, 1) := by decide +kernel
theorem dL_law_592 : decode code 592 = .ok (.aload_n 0, 1) := by decide +kernel
theorem dL_law_593 : decode code 593 = .ok (.iload_n 3, 1) := by decide +kernel
theorem dL_law_594 : decode code 594 = .ok (.iconst 3, 1) := by decide +kernel
theorem dL_law_595 : decode code 595 = .ok (.iadd, 1) := by decide +kernel
theorem dL_law_596 : decode code 596 = .ok (.iaload, 1) := by decide +kernel
theorem dL_law_597 : decode code 597 = .ok (.ifCond .eq 7, 3) := by decide +kernel
theorem dL_law_600 : decode code 600 = .ok (.iconst 1, 1) := by decide +kernel
theorem dL_law_601 : decode code 601 = .ok (.goto 4, 3) := by decide +kernel
theorem dL_law_604 : decode code 604 = .ok (.iconst 0, 1) := by decide +kernel
theorem dL_law_605 : decode code 605 = .ok (.invokevirtual 62, 3) := by decide +kernel
theorem dL_law_608 : decode code 608 = .ok (.if_icmp .eq 763, 3) := by decide +kernel
theorem dL_law_613 : decode code 613 = .ok (.aload_n 1, 1) := by decide +kernel
theorem dL_law_614 : decode code 614 = .ok (.aload_n 0, 1) := by decide +kernel
theorem dL_law_615 : decode code 615 = .ok (.iload_n 3, 1) := by decide +kernel
theorem dL_law_616 : decode code 616 = .ok (.iconst 1, 1) := by decide +kernel
theorem dL_law_617 : decode code 617 = .ok (.iadd, 1) := by decide +kernel
theorem dL_law_618 : decode code 618 = .ok (.iaload, 1) := by decide +kernel
theorem dL_law_619 : decode code 619 = .ok (.aload_n 0, 1) := by decide +kernel
theorem dL_law_620 : decode code 620 = .ok (.iload_n 3, 1) := by decide +kernel
theorem dL_law_621 : decode code 621 = .ok (.iconst 2, 1) := by decide +kernel
theorem dL_law_622 : decode code 622 = .ok (.iadd, 1) := by decide +kernel
theorem dL_law_623 : decode code 623 = .ok (.iaload, 1) := by decide +kernel
theorem dL_law_624 : decode code 624 = .ok (.aload_n 0, 1) := by decide +kernel
theorem dL_law_625 : decode code 625 = .ok (.iload_n 3, 1) := by decide +kernel
theorem dL_law_626 : decode code 626 = .ok (.iconst 3, 1) := by decide +kernel
theorem dL_law_627 : decode code 627 = .ok (.iadd, 1) := by decide +kernel
theorem dL_law_628 : decode code 628 = .ok (.iaload, 1) := by decide +kernel
theorem dL_law_629 : decode code 629 = .ok (.aload_n 0, 1) := by decide +kernel
theorem dL_law_630 : decode code 630 = .ok (.iload_n 3, 1) := by decide +kernel
theorem dL_law_631 : decode code 631 = .ok (.iconst 4, 1) := by decide +kernel
theorem dL_law_632 : decode code 632 = .ok (.iadd, 1) := by decide +kernel
theorem dL_law_633 : decode code 633 = .ok (.iaload, 1) := by decide +kernel
theorem dL_law_634 : decode code 634 = .ok (.invokevirtual 63, 3) := by decide +kernel
theorem dL_law_637 : decode code 637 = .ok (.aload_n 2, 1) := by decide +kernel
theorem dL_law_638 : decode code 638 = .ok (.aload_n 0, 1) := by decide +kernel
theorem dL_law_639 : decode code 639 = .ok (.iload_n 3, 1) := by decide +kernel
theorem dL_law_640 : decode code 640 = .ok (.iconst 1, 1) := by decide +kernel
theorem dL_law_641 : decode code 641 = .ok (.iadd, 1) := by decide +kernel
theorem dL_law_642 : decode code 642 = .ok (.iaload, 1) := by decide +kernel
theorem dL_law_643 : decode code 643 = .ok (.aload_n 0, 1) := by decide +kernel
theorem dL_law_644 : decode code 644 = .ok (.iload_n 3, 1) := by decide +kernel
theorem dL_law_645 : decode code 645 = .ok (.iconst 2, 1) := by decide +kernel
theorem dL_law_646 : decode code 646 = .ok (.iadd, 1) := by decide +kernel
theorem dL_law_647 : decode code 647 = .ok (.iaload, 1) := by decide +kernel
theorem dL_law_648 : decode code 648 = .ok (.aload_n 0, 1) := by decide +kernel
theorem dL_law_649 : decode code 649 = .ok (.iload_n 3, 1) := by decide +kernel
theorem dL_law_650 : decode code 650 = .ok (.iconst 3, 1) := by decide +kernel
theorem dL_law_651 : decode code 651 = .ok (.iadd, 1) := by decide +kernel
theorem dL_law_652 : decode code 652 = .ok (.iaload, 1) := by decide +kernel
theorem dL_law_653 : decode code 653 = .ok (.aload_n 0, 1) := by decide +kernel
theorem dL_law_654 : decode code 654 = .ok (.iload_n 3, 1) := by decide +kernel
theorem dL_law_655 : decode code 655 = .ok (.iconst 4, 1) := by decide +kernel
theorem dL_law_656 : decode code 656 = .ok (.iadd, 1) := by decide +kernel
theorem dL_law_657 : decode code 657 = .ok (.iaload, 1) := by decide +kernel
theorem dL_law_658 : decode code 658 = .ok (.invokevirtual 66, 3) := by decide +kernel
theorem dL_law_661 : decode code 661 = .ok (.if_icmp .eq 710, 3) := by decide +kernel
theorem dL_law_666 : decode code 666 = .ok (.aload_n 1, 1) := by decide +kernel
theorem dL_law_667 : decode code 667 = .ok (.aload_n 0, 1) := by decide +kernel
theorem dL_law_668 : decode code 668 = .ok (.iload_n 3, 1) := by decide +kernel
theorem dL_law_669 : decode code 669 = .ok (.iconst 1, 1) := by decide +kernel
theorem dL_law_670 : decode code 670 = .ok (.iadd, 1) := by decide +kernel
theorem dL_law_671 : decode code 671 = .ok (.iaload, 1) := by decide +kernel
theorem dL_law_672 : decode code 672 = .ok (.aload_n 0, 1) := by decide +kernel
theorem dL_law_673 : decode code 673 = .ok (.iload_n 3, 1) := by decide +kernel
theorem dL_law_674 : decode code 674 = .ok (.iconst 2, 1) := by decide +kernel
theorem dL_law_675 : decode code 675 = .ok (.iadd, 1) := by decide +kernel
theorem dL_law_676 : decode code 676 = .ok (.iaload, 1) := by decide +kernel
theorem dL_law_677 : decode code 677 = .ok (.aload_n 0, 1) := by decide +kernel
theorem dL_law_678 : decode code 678 = .ok (.iload_n 3, 1) := by decide +kernel
theorem dL_law_679 : decode code 679 = .ok (.iconst 3, 1) := by decide +kernel
theorem dL_law_680 : decode code 680 = .ok (.iadd, 1) := by decide +kernel
theorem dL_law_681 : decode code 681 = .ok (.iaload, 1) := by decide +kernel
theorem dL_law_682 : decode code 682 = .ok (.aload_n 0, 1) := by decide +kernel
theorem dL_law_683 : decode code 683 = .ok (.iload_n 3, 1) := by decide +kernel
theorem dL_law_684 : decode code 684 = .ok (.iconst 4, 1) := by decide +kernel
theorem dL_law_685 : decode code 685 = .ok (.iadd, 1) := by decide +kernel
theorem dL_law_686 : decode code 686 = .ok (.iaload, 1) := by decide +kernel
theorem dL_law_687 : decode code 687 = .ok (.invokevirtual 67, 3) := by decide +kernel
theorem dL_law_690 : decode code 690 = .ok (.aload_n 2, 1) := by decide +kernel
theorem dL_law_691 : decode code 691 = .ok (.aload_n 0, 1) := by decide +kernel
theorem dL_law_692 : decode code 692 = .ok (.iload_n 3, 1) := by decide +kernel
theorem dL_law_693 : decode code 693 = .ok (.iconst 1, 1) := by decide +kernel
theorem dL_law_694 : decode code 694 = .ok (.iadd, 1) := by decide +kernel
theorem dL_law_695 : decode code 695 = .ok (.iaload, 1) := by decide +kernel
theorem dL_law_696 : decode code 696 = .ok (.aload_n 0, 1) := by decide +kernel
theorem dL_law_697 : decode code 697 = .ok (.iload_n 3, 1) := by decide +kernel
theorem dL_law_698 : decode code 698 = .ok (.iconst 2, 1) := by decide +kernel
theorem dL_law_699 : decode code 699 = .ok (.iadd, 1) := by decide +kernel
theorem dL_law_700 : decode code 700 = .ok (.iaload, 1) := by decide +kernel
theorem dL_law_701 : decode code 701 = .ok (.aload_n 0, 1) := by decide +kernel
theorem dL_law_702 : decode code 702 = .ok (.iload_n 3, 1) := by decide +kernel
theorem dL_law_703 : decode code 703 = .ok (.iconst 3, 1) := by decide +kernel
theorem dL_law_704 : decode code 704 = .ok (.iadd, 1) := by decide +kernel
theorem dL_law_705 : decode code 705 = .ok (.iaload, 1) := by decide +kernel
theorem dL_law_706 : decode code 706 = .ok (.aload_n 0, 1) := by decide +kernel
theorem dL_law_707 : decode code 707 = .ok (.iload_n 3, 1) := by decide +kernel
theorem dL_law_708 : decode code 708 = .ok (.iconst 4, 1) := by decide +kernel
theorem dL_law_709 : decode code 709 = .ok (.iadd, 1) := by decide +kernel
theorem dL_law_710 : decode code 710 = .ok (.iaload, 1) := by decide +kernel
theorem dL_law_711 : decode code 711 = .ok (.invokevirtual 70, 3) := by decide +kernel
theorem dL_law_714 : decode code 714 = .ok (.if_icmp .eq 657, 3) := by decide +kernel
theorem dL_law_719 : decode code 719 = .ok (.aload_n 1, 1) := by decide +kernel
theorem dL_law_720 : decode code 720 = .ok (.aload_n 0, 1) := by decide +kernel
theorem dL_law_721 : decode code 721 = .ok (.iload_n 3, 1) := by decide +kernel
theorem dL_law_722 : decode code 722 = .ok (.iconst 1, 1) := by decide +kernel
theorem dL_law_723 : decode code 723 = .ok (.iadd, 1) := by decide +kernel
theorem dL_law_724 : decode code 724 = .ok (.iaload, 1) := by decide +kernel
theorem dL_law_725 : decode code 725 = .ok (.aload_n 0, 1) := by decide +kernel
theorem dL_law_726 : decode code 726 = .ok (.iload_n 3, 1) := by decide +kernel
theorem dL_law_727 : decode code 727 = .ok (.iconst 2, 1) := by decide +kernel
theorem dL_law_728 : decode code 728 = .ok (.iadd, 1) := by decide +kernel
theorem dL_law_729 : decode code 729 = .ok (.iaload, 1) := by decide +kernel
theorem dL_law_730 : decode code 730 = .ok (.aload_n 0, 1) := by decide +kernel
theorem dL_law_731 : decode code 731 = .ok (.iload_n 3, 1) := by decide +kernel
theorem dL_law_732 : decode code 732 = .ok (.iconst 3, 1) := by decide +kernel
theorem dL_law_733 : decode code 733 = .ok (.iadd, 1) := by decide +kernel
theorem dL_law_734 : decode code 734 = .ok (.iaload, 1) := by decide +kernel
theorem dL_law_735 : decode code 735 = .ok (.invokevirtual 71, 3) := by decide +kernel
theorem dL_law_738 : decode code 738 = .ok (.aload_n 2, 1) := by decide +kernel
theorem dL_law_739 : decode code 739 = .ok (.aload_n 0, 1) := by decide +kernel
theorem dL_law_740 : decode code 740 = .ok (.iload_n 3, 1) := by decide +kernel
theorem dL_law_741 : decode code 741 = .ok (.iconst 1, 1) := by decide +kernel
theorem dL_law_742 : decode code 742 = .ok (.iadd, 1) := by decide +kernel
theorem dL_law_743 : decode code 743 = .ok (.iaload, 1) := by decide +kernel
theorem dL_law_744 : decode code 744 = .ok (.aload_n 0, 1) := by decide +kernel
theorem dL_law_745 : decode code 745 = .ok (.iload_n 3, 1) := by decide +kernel
theorem dL_law_746 : decode code 746 = .ok (.iconst 2, 1) := by decide +kernel
theorem dL_law_747 : decode code 747 = .ok (.iadd, 1) := by decide +kernel
theorem dL_law_748 : decode code 748 = .ok (.iaload, 1) := by decide +kernel
theorem dL_law_749 : decode code 749 = .ok (.aload_n 0, 1) := by decide +kernel
theorem dL_law_750 : decode code 750 = .ok (.iload_n 3, 1) := by decide +kernel
theorem dL_law_751 : decode code 751 = .ok (.iconst 3, 1) := by decide +kernel
theorem dL_law_752 : decode code 752 = .ok (.iadd, 1) := by decide +kernel
theorem dL_law_753 : decode code 753 = .ok (.iaload, 1) := by decide +kernel
theorem dL_law_754 : decode code 754 = .ok (.invokevirtual 74, 3) := by decide +kernel
theorem dL_law_757 : decode code 757 = .ok (.if_icmp .eq 614, 3) := by decide +kernel
theorem dL_law_762 : decode code 762 = .ok (.aload_n 1, 1) := by decide +kernel
theorem dL_law_763 : decode code 763 = .ok (.aload_n 0, 1) := by decide +kernel
theorem dL_law_764 : decode code 764 = .ok (.iload_n 3, 1) := by decide +kernel
theorem dL_law_765 : decode code 765 = .ok (.iconst 1, 1) := by decide +kernel
theorem dL_law_766 : decode code 766 = .ok (.iadd, 1) := by decide +kernel
theorem dL_law_767 : decode code 767 = .ok (.iaload, 1) := by decide +kernel
theorem dL_law_768 : decode code 768 = .ok (.aload_n 0, 1) := by decide +kernel
theorem dL_law_769 : decode code 769 = .ok (.iload_n 3, 1) := by decide +kernel
theorem dL_law_770 : decode code 770 = .ok (.iconst 2, 1) := by decide +kernel
theorem dL_law_771 : decode code 771 = .ok (.iadd, 1) := by decide +kernel
theorem dL_law_772 : decode code 772 = .ok (.iaload, 1) := by decide +kernel
theorem dL_law_773 : decode code 773 = .ok (.invokevirtual 75, 3) := by decide +kernel
theorem dL_law_776 : decode code 776 = .ok (.aload_n 2, 1) := by decide +kernel
theorem dL_law_777 : decode code 777 = .ok (.aload_n 0, 1) := by decide +kernel
theorem dL_law_778 : decode code 778 = .ok (.iload_n 3, 1) := by decide +kernel
theorem dL_law_779 : decode code 779 = .ok (.iconst 1, 1) := by decide +kernel
theorem dL_law_780 : decode code 780 = .ok (.iadd, 1) := by decide +kernel
theorem dL_law_781 : decode code 781 = .ok (.iaload, 1) := by decide +kernel
theorem dL_law_782 : decode code 782 = .ok (.aload_n 0, 1) := by decide +kernel
theorem dL_law_783 : decode code 783 = .ok (.iload_n 3, 1) := by decide +kernel
theorem dL_law_784 : decode code 784 = .ok (.iconst 2, 1) := by decide +kernel
theorem dL_law_785 : decode code 785 = .ok (.iadd, 1) := by decide +kernel
theorem dL_law_786 : decode code 786 = .ok (.iaload, 1) := by decide +kernel
theorem dL_law_787 : decode code 787 = .ok (.invokevirtual 78, 3) := by decide +kernel
theorem dL_law_790 : decode code 790 = .ok (.if_icmp .eq 581, 3) := by decide +kernel
theorem dL_law_795 : decode code 795 = .ok (.aload_n 1, 1) := by decide +kernel
theorem dL_law_796 : decode code 796 = .ok (.aload_n 0, 1) := by decide +kernel
theorem dL_law_797 : decode code 797 = .ok (.iload_n 3, 1) := by decide +kernel
theorem dL_law_798 : decode code 798 = .ok (.iconst 1, 1) := by decide +kernel
theorem dL_law_799 : decode code 799 = .ok (.iadd, 1) := by decide +kernel
theorem dL_law_800 : decode code 800 = .ok (.iaload, 1) := by decide +kernel
theorem dL_law_801 : decode code 801 = .ok (.aload_n 0, 1) := by decide +kernel
theorem dL_law_802 : decode code 802 = .ok (.iload_n 3, 1) := by decide +kernel
theorem dL_law_803 : decode code 803 = .ok (.iconst 2, 1) := by decide +kernel
theorem dL_law_804 : decode code 804 = .ok (.iadd, 1) := by decide +kernel
theorem dL_law_805 : decode code 805 = .ok (.iaload, 1) := by decide +kernel
theorem dL_law_806 : decode code 806 = .ok (.aload_n 0, 1) := by decide +kernel
theorem dL_law_807 : decode code 807 = .ok (.iload_n 3, 1) := by decide +kernel
theorem dL_law_808 : decode code 808 = .ok (.iconst 3, 1) := by decide +kernel
theorem dL_law_809 : decode code 809 = .ok (.iadd, 1) := by decide +kernel
theorem dL_law_810 : decode code 810 = .ok (.iaload, 1) := by decide +kernel
theorem dL_law_811 : decode code 811 = .ok (.invokevirtual 79, 3) := by decide +kernel
theorem dL_law_814 : decode code 814 = .ok (.aload_n 2, 1) := by decide +kernel
theorem dL_law_815 : decode code 815 = .ok (.aload_n 0, 1) := by decide +kernel
theorem dL_law_816 : decode code 816 = .ok (.iload_n 3, 1) := by decide +kernel
theorem dL_law_817 : decode code 817 = .ok (.iconst 1, 1) := by decide +kernel
theorem dL_law_818 : decode code 818 = .ok (.iadd, 1) := by decide +kernel
theorem dL_law_819 : decode code 819 = .ok (.iaload, 1) := by decide +kernel
theorem dL_law_820 : decode code 820 = .ok (.aload_n 0, 1) := by decide +kernel
theorem dL_law_821 : decode code 821 = .ok (.iload_n 3, 1) := by decide +kernel
theorem dL_law_822 : decode code 822 = .ok (.iconst 2, 1) := by decide +kernel
theorem dL_law_823 : decode code 823 = .ok (.iadd, 1) := by decide +kernel
theorem dL_law_824 : decode code 824 = .ok (.iaload, 1) := by decide +kernel
theorem dL_law_825 : decode code 825 = .ok (.aload_n 0, 1) := by decide +kernel
theorem dL_law_826 : decode code 826 = .ok (.iload_n 3, 1) := by decide +kernel
theorem dL_law_827 : decode code 827 = .ok (.iconst 3, 1) := by decide +kernel
theorem dL_law_828 : decode code 828 = .ok (.iadd, 1) := by decide +kernel
theorem dL_law_829 : decode code 829 = .ok (.iaload, 1) := by decide +kernel
theorem dL_law_830 : decode code 830 = .ok (.invokevirtual 82, 3) := by decide +kernel
theorem dL_law_833 : decode code 833 = .ok (.if_icmp .eq 538, 3) := by decide +kernel
theorem dL_law_838 : decode code 838 = .ok (.aload_n 1, 1) := by decide +kernel
theorem dL_law_839 : decode code 839 = .ok (.aload_n 0, 1) := by decide +kernel
theorem dL_law_840 : decode code 840 = .ok (.iload_n 3, 1) := by decide +kernel
theorem dL_law_841 : decode code 841 = .ok (.iconst 1, 1) := by decide +kernel
theorem dL_law_842 : decode code 842 = .ok (.iadd, 1) := by decide +kernel
theorem dL_law_843 : decode code 843 = .ok (.iaload, 1) := by decide +kernel
theorem dL_law_844 : decode code 844 = .ok (.aload_n 0, 1) := by decide +kernel
theorem dL_law_845 : decode code 845 = .ok (.iload_n 3, 1) := by decide +kernel
theorem dL_law_846 : decode code 846 = .ok (.iconst 2, 1) := by decide +kernel
theorem dL_law_847 : decode code 847 = .ok (.iadd, 1) := by decide +kernel
theorem dL_law_848 : decode code 848 = .ok (.iaload, 1) := by decide +kernel
theorem dL_law_849 : decode code 849 = .ok (.aload_n 0, 1) := by decide +kernel
theorem dL_law_850 : decode code 850 = .ok (.iload_n 3, 1) := by decide +kernel
theorem dL_law_851 : decode code 851 = .ok (.iconst 3, 1) := by decide +kernel
theorem dL_law_852 : decode code 852 = .ok (.iadd, 1) := by decide +kernel
theorem dL_law_853 : decode code 853 = .ok (.iaload, 1) := by decide +kernel
theorem dL_law_854 : decode code 854 = .ok (.aload_n 0, 1) := by decide +kernel
theorem dL_law_855 : decode code 855 = .ok (.iload_n 3, 1) := by decide +kernel
theorem dL_law_856 : decode code 856 = .ok (.iconst 4, 1) := by decide +kernel
theorem dL_law_857 : decode code 857 = .ok (.iadd, 1) := by decide +kernel
theorem dL_law_858 : decode code 858 = .ok (.iaload, 1) := by decide +kernel
theorem dL_law_859 : decode code 859 = .ok (.aload_n 0, 1) := by decide +kernel
theorem dL_law_860 : decode code 860 = .ok (.iload_n 3, 1) := by decide +kernel
theorem dL_law_861 : decode code 861 = .ok (.iconst 5, 1) := by decide +kernel
theorem dL_law_862 : decode code 862 = .ok (.iadd, 1) := by decide +kernel
theorem dL_law_863 : decode code 863 = .ok (.iaload, 1) := by decide +kernel
theorem dL_law_864 : decode code 864 = .ok (.invokevirtual 83, 3) := by decide +kernel
theorem dL_law_867 : decode code 867 = .ok (.aload_n 2, 1) := by decide +kernel
theorem dL_law_868 : decode code 868 = .ok (.aload_n 0, 1) := by decide +kernel
theorem dL_law_869 : decode code 869 = .ok (.iload_n 3, 1) := by decide +kernel
theorem dL_law_870 : decode code 870 = .ok (.iconst 1, 1) := by decide +kernel
theorem dL_law_871 : decode code 871 = .ok (.iadd, 1) := by decide +kernel
theorem dL_law_872 : decode code 872 = .ok (.iaload, 1) := by decide +kernel
theorem dL_law_873 : decode code 873 = .ok (.aload_n 0, 1) := by decide +kernel
theorem dL_law_874 : decode code 874 = .ok (.iload_n 3, 1) := by decide +kernel
theorem dL_law_875 : decode code 875 = .ok (.iconst 2, 1) := by decide +kernel
theorem dL_law_876 : decode code 876 = .ok (.iadd, 1) := by decide +kernel
theorem dL_law_877 : decode code 877 = .ok (.iaload, 1) := by decide +kernel
theorem dL_law_878 : decode code 878 = .ok (.aload_n 0, 1) := by decide +kernel
theorem dL_law_879 : decode code 879 = .ok (.iload_n 3, 1) := by decide +kernel
theorem dL_law_880 : decode code 880 = .ok (.iconst 3, 1) := by decide +kernel
theorem dL_law_881 : decode code 881 = .ok (.iadd, 1) := by decide +kernel
theorem dL_law_882 : decode code 882 = .ok (.iaload, 1) := by decide +kernel
theorem dL_law_883 : decode code 883 = .ok (.aload_n 0, 1) := by decide +kernel
theorem dL_law_884 : decode code 884 = .ok (.iload_n 3, 1) := by decide +kernel
theorem dL_law_885 : decode code 885 = .ok (.iconst 4, 1) := by decide +kernel
theorem dL_law_886 : decode code 886 = .ok (.iadd, 1) := by decide +kernel
theorem dL_law_887 : decode code 887 = .ok (.iaload, 1) := by decide +kernel
theorem dL_law_888 : decode code 888 = .ok (.aload_n 0, 1) := by decide +kernel
theorem dL_law_889 : decode code 889 = .ok (.iload_n 3, 1) := by decide +kernel
theorem dL_law_890 : decode code 890 = .ok (.iconst 5, 1) := by decide +kernel
theorem dL_law_891 : decode code 891 = .ok (.iadd, 1) := by decide +kernel
theorem dL_law_892 : decode code 892 = .ok (.iaload, 1) := by decide +kernel
theorem dL_law_893 : decode code 893 = .ok (.invokevirtual 87, 3) := by decide +kernel
theorem dL_law_896 : decode code 896 = .ok (.lcmp, 1) := by decide +kernel
theorem dL_law_897 : decode code 897 = .ok (.ifCond .eq 474, 3) := by decide +kernel
theorem dL_law_902 : decode code 902 = .ok (.aload_n 1, 1) := by decide +kernel
theorem dL_law_903 : decode code 903 = .ok (.aload_n 0, 1) := by decide +kernel
theorem dL_law_904 : decode code 904 = .ok (.iload_n 3, 1) := by decide +kernel
theorem dL_law_905 : decode code 905 = .ok (.iconst 1, 1) := by decide +kernel
theorem dL_law_906 : decode code 906 = .ok (.iadd, 1) := by decide +kernel
theorem dL_law_907 : decode code 907 = .ok (.iaload, 1) := by decide +kernel
theorem dL_law_908 : decode code 908 = .ok (.aload_n 0, 1) := by decide +kernel
theorem dL_law_909 : decode code 909 = .ok (.iload_n 3, 1) := by decide +kernel
theorem dL_law_910 : decode code 910 = .ok (.iconst 2, 1) := by decide +kernel
theorem dL_law_911 : decode code 911 = .ok (.iadd, 1) := by decide +kernel
theorem dL_law_912 : decode code 912 = .ok (.iaload, 1) := by decide +kernel
theorem dL_law_913 : decode code 913 = .ok (.aload_n 0, 1) := by decide +kernel
theorem dL_law_914 : decode code 914 = .ok (.iload_n 3, 1) := by decide +kernel
theorem dL_law_915 : decode code 915 = .ok (.iconst 3, 1) := by decide +kernel
theorem dL_law_916 : decode code 916 = .ok (.iadd, 1) := by decide +kernel
theorem dL_law_917 : decode code 917 = .ok (.iaload, 1) := by decide +kernel
theorem dL_law_918 : decode code 918 = .ok (.aload_n 0, 1) := by decide +kernel
theorem dL_law_919 : decode code 919 = .ok (.iload_n 3, 1) := by decide +kernel
theorem dL_law_920 : decode code 920 = .ok (.iconst 4, 1) := by decide +kernel
theorem dL_law_921 : decode code 921 = .ok (.iadd, 1) := by decide +kernel
theorem dL_law_922 : decode code 922 = .ok (.iaload, 1) := by decide +kernel
theorem dL_law_923 : decode code 923 = .ok (.invokevirtual 88, 3) := by decide +kernel
theorem dL_law_926 : decode code 926 = .ok (.aload_n 2, 1) := by decide +kernel
theorem dL_law_927 : decode code 927 = .ok (.aload_n 0, 1) := by decide +kernel
theorem dL_law_928 : decode code 928 = .ok (.iload_n 3, 1) := by decide +kernel
theorem dL_law_929 : decode code 929 = .ok (.iconst 1, 1) := by decide +kernel
theorem dL_law_930 : decode code 930 = .ok (.iadd, 1) := by decide +kernel
theorem dL_law_931 : decode code 931 = .ok (.iaload, 1) := by decide +kernel
theorem dL_law_932 : decode code 932 = .ok (.aload_n 0, 1) := by decide +kernel
theorem dL_law_933 : decode code 933 = .ok (.iload_n 3, 1) := by decide +kernel
theorem dL_law_934 : decode code 934 = .ok (.iconst 2, 1) := by decide +kernel
theorem dL_law_935 : decode code 935 = .ok (.iadd, 1) := by decide +kernel
theorem dL_law_936 : decode code 936 = .ok (.iaload, 1) := by decide +kernel
theorem dL_law_937 : decode code 937 = .ok (.aload_n 0, 1) := by decide +kernel
theorem dL_law_938 : decode code 938 = .ok (.iload_n 3, 1) := by decide +kernel
theorem dL_law_939 : decode code 939 = .ok (.iconst 3, 1) := by decide +kernel
theorem dL_law_940 : decode code 940 = .ok (.iadd, 1) := by decide +kernel
theorem dL_law_941 : decode code 941 = .ok (.iaload, 1) := by decide +kernel
theorem dL_law_942 : decode code 942 = .ok (.aload_n 0, 1) := by decide +kernel
theorem dL_law_943 : decode code 943 = .ok (.iload_n 3, 1) := by decide +kernel
theorem dL_law_944 : decode code 944 = .ok (.iconst 4, 1) := by decide +kernel
theorem dL_law_945 : decode code 945 = .ok (.iadd, 1) := by decide +kernel
theorem dL_law_946 : decode code 946 = .ok (.iaload, 1) := by decide +kernel
theorem dL_law_947 : decode code 947 = .ok (.invokevirtual 91, 3) := by decide +kernel
theorem dL_law_950 : decode code 950 = .ok (.if_icmp .eq 421, 3) := by decide +kernel
theorem dL_law_955 : decode code 955 = .ok (.aload_n 1, 1) := by decide +kernel
theorem dL_law_956 : decode code 956 = .ok (.aload_n 0, 1) := by decide +kernel
theorem dL_law_957 : decode code 957 = .ok (.iload_n 3, 1) := by decide +kernel
theorem dL_law_958 : decode code 958 = .ok (.iconst 1, 1) := by decide +kernel
theorem dL_law_959 : decode code 959 = .ok (.iadd, 1) := by decide +kernel
theorem dL_law_960 : decode code 960 = .ok (.iaload, 1) := by decide +kernel
theorem dL_law_961 : decode code 961 = .ok (.aload_n 0, 1) := by decide +kernel
theorem dL_law_962 : decode code 962 = .ok (.iload_n 3, 1) := by decide +kernel
theorem dL_law_963 : decode code 963 = .ok (.iconst 2, 1) := by decide +kernel
theorem dL_law_964 : decode code 964 = .ok (.iadd, 1) := by decide +kernel
theorem dL_law_965 : decode code 965 = .ok (.iaload, 1) := by decide +kernel
theorem dL_law_966 : decode code 966 = .ok (.aload_n 0, 1) := by decide +kernel
theorem dL_law_967 : decode code 967 = .ok (.iload_n 3, 1) := by decide +kernel
theorem dL_law_968 : decode code 968 = .ok (.iconst 3, 1) := by decide +kernel
theorem dL_law_969 : decode code 969 = .ok (.iadd, 1) := by decide +kernel
theorem dL_law_970 : decode code 970 = .ok (.iaload, 1) := by decide +kernel
theorem dL_law_971 : decode code 971 = .ok (.aload_n 0, 1) := by decide +kernel
theorem dL_law_972 : decode code 972 = .ok (.iload_n 3, 1) := by decide +kernel
theorem dL_law_973 : decode code 973 = .ok (.iconst 4, 1) := by decide +kernel
theorem dL_law_974 : decode code 974 = .ok (.iadd, 1) := by decide +kernel
theorem dL_law_975 : decode code 975 = .ok (.iaload, 1) := by decide +kernel
theorem dL_law_976 : decode code 976 = .ok (.invokevirtual 92, 3) := by decide +kernel
theorem dL_law_979 : decode code 979 = .ok (.aload_n 2, 1) := by decide +kernel
theorem dL_law_980 : decode code 980 = .ok (.aload_n 0, 1) := by decide +kernel
theorem dL_law_981 : decode code 981 = .ok (.iload_n 3, 1) := by decide +kernel
theorem dL_law_982 : decode code 982 = .ok (.iconst 1, 1) := by decide +kernel
theorem dL_law_983 : decode code 983 = .ok (.iadd, 1) := by decide +kernel
theorem dL_law_984 : decode code 984 = .ok (.iaload, 1) := by decide +kernel
theorem dL_law_985 : decode code 985 = .ok (.aload_n 0, 1) := by decide +kernel
theorem dL_law_986 : decode code 986 = .ok (.iload_n 3, 1) := by decide +kernel
theorem dL_law_987 : decode code 987 = .ok (.iconst 2, 1) := by decide +kernel
theorem dL_law_988 : decode code 988 = .ok (.iadd, 1) := by decide +kernel
theorem dL_law_989 : decode code 989 = .ok (.iaload, 1) := by decide +kernel
theorem dL_law_990 : decode code 990 = .ok (.aload_n 0, 1) := by decide +kernel
theorem dL_law_991 : decode code 991 = .ok (.iload_n 3, 1) := by decide +kernel
theorem dL_law_992 : decode code 992 = .ok (.iconst 3, 1) := by decide +kernel
theorem dL_law_993 : decode code 993 = .ok (.iadd, 1) := by decide +kernel
theorem dL_law_994 : decode code 994 = .ok (.iaload, 1) := by decide +kernel
theorem dL_law_995 : decode code 995 = .ok (.aload_n 0, 1) := by decide +kernel
theorem dL_law_996 : decode code 996 = .ok (.iload_n 3, 1) := by decide +kernel
theorem dL_law_997 : decode code 997 = .ok (.iconst 4, 1) := by decide +kernel
theorem dL_law_998 : decode code 998 = .ok (.iadd, 1) := by decide +kernel
theorem dL_law_999 : decode code 999 = .ok (.iaload, 1) := by decide +kernel
theorem dL_law_1000 : decode code 1000 = .ok (.invokevirtual 95, 3) := by decide +kernel
theorem dL_law_1003 : decode code 1003 = .ok (.if_icmp .eq 368, 3) := by decide +kernel
theorem dL_law_1008 : decode code 1008 = .ok (.aload_n 1, 1) := by decide +kernel
theorem dL_law_1009 : decode code 1009 = .ok (.aload_n 0, 1) := by decide +kernel
theorem dL_law_1010 : decode code 1010 = .ok (.iload_n 3, 1) := by decide +kernel
theorem dL_law_1011 : decode code 1011 = .ok (.iconst 1, 1) := by decide +kernel
theorem dL_law_1012 : decode code 1012 = .ok (.iadd, 1) := by decide +kernel
theorem dL_law_1013 : decode code 1013 = .ok (.iaload, 1) := by decide +kernel
theorem dL_law_1014 : decode code 1014 = .ok (.aload_n 0, 1) := by decide +kernel
theorem dL_law_1015 : decode code 1015 = .ok (.iload_n 3, 1) := by decide +kernel
theorem dL_law_1016 : decode code 1016 = .ok (.iconst 2, 1) := by decide +kernel
theorem dL_law_1017 : decode code 1017 = .ok (.iadd, 1) := by decide +kernel
theorem dL_law_1018 : decode code 1018 = .ok (.iaload, 1) := by decide +kernel
theorem dL_law_1019 : decode code 1019 = .ok (.aload_n 0, 1) := by decide +kernel
theorem dL_law_1020 : decode code 1020 = .ok (.iload_n 3, 1) := by decide +kernel
theorem dL_law_1021 : decode code 1021 = .ok (.iconst 3, 1) := by decide +kernel
theorem dL_law_1022 : decode code 1022 = .ok (.iadd, 1) := by decide +kernel
theorem dL_law_1023 : decode code 1023 = .ok (.iaload, 1) := by decide +kernel
theorem dL_law_1024 : decode code 1024 = .ok (.invokevirtual 96, 3) := by decide +kernel
theorem dL_law_1027 : decode code 1027 = .ok (.aload_n 2, 1) := by decide +kernel
theorem dL_law_1028 : decode code 1028 = .ok (.aload_n 0, 1) := by decide +kernel
theorem dL_law_1029 : decode code 1029 = .ok (.iload_n 3, 1) := by decide +kernel
theorem dL_law_1030 : decode code 1030 = .ok (.iconst 1, 1) := by decide +kernel
theorem dL_law_1031 : decode code 1031 = .ok (.iadd, 1) := by decide +kernel
theorem dL_law_1032 : decode code 1032 = .ok (.iaload, 1) := by decide +kernel
theorem dL_law_1033 : decode code 1033 = .ok (.aload_n 0, 1) := by decide +kernel
theorem dL_law_1034 : decode code 1034 = .ok (.iload_n 3, 1) := by decide +kernel
theorem dL_law_1035 : decode code 1035 = .ok (.iconst 2, 1) := by decide +kernel
theorem dL_law_1036 : decode code 1036 = .ok (.iadd, 1) := by decide +kernel
theorem dL_law_1037 : decode code 1037 = .ok (.iaload, 1) := by decide +kernel
theorem dL_law_1038 : decode code 1038 = .ok (.aload_n 0, 1) := by decide +kernel
theorem dL_law_1039 : decode code 1039 = .ok (.iload_n 3, 1) := by decide +kernel
theorem dL_law_1040 : decode code 1040 = .ok (.iconst 3, 1) := by decide +kernel
theorem dL_law_1041 : decode code 1041 = .ok (.iadd, 1) := by decide +kernel
theorem dL_law_1042 : decode code 1042 = .ok (.iaload, 1) := by decide +kernel
theorem dL_law_1043 : decode code 1043 = .ok (.invokevirtual 99, 3) := by decide +kernel
theorem dL_law_1046 : decode code 1046 = .ok (.if_icmp .eq 325, 3) := by decide +kernel
theorem dL_law_1051 : decode code 1051 = .ok (.aload_n 1, 1) := by decide +kernel
theorem dL_law_1052 : decode code 1052 = .ok (.aload_n 0, 1) := by decide +kernel
theorem dL_law_1053 : decode code 1053 = .ok (.iload_n 3, 1) := by decide +kernel
theorem dL_law_1054 : decode code 1054 = .ok (.iconst 1, 1) := by decide +kernel
theorem dL_law_1055 : decode code 1055 = .ok (.iadd, 1) := by decide +kernel
theorem dL_law_1056 : decode code 1056 = .ok (.iaload, 1) := by decide +kernel
theorem dL_law_1057 : decode code 1057 = .ok (.aload_n 0, 1) := by decide +kernel
theorem dL_law_1058 : decode code 1058 = .ok (.iload_n 3, 1) := by decide +kernel
theorem dL_law_1059 : decode code 1059 = .ok (.iconst 2, 1) := by decide +kernel
theorem dL_law_1060 : decode code 1060 = .ok (.iadd, 1) := by decide +kernel
theorem dL_law_1061 : decode code 1061 = .ok (.iaload, 1) := by decide +kernel
theorem dL_law_1062 : decode code 1062 = .ok (.invokevirtual 100, 3) := by decide +kernel
theorem dL_law_1065 : decode code 1065 = .ok (.aload_n 2, 1) := by decide +kernel
theorem dL_law_1066 : decode code 1066 = .ok (.aload_n 0, 1) := by decide +kernel
theorem dL_law_1067 : decode code 1067 = .ok (.iload_n 3, 1) := by decide +kernel
theorem dL_law_1068 : decode code 1068 = .ok (.iconst 1, 1) := by decide +kernel
theorem dL_law_1069 : decode code 1069 = .ok (.iadd, 1) := by decide +kernel
theorem dL_law_1070 : decode code 1070 = .ok (.iaload, 1) := by decide +kernel
theorem dL_law_1071 : decode code 1071 = .ok (.aload_n 0, 1) := by decide +kernel
theorem dL_law_1072 : decode code 1072 = .ok (.iload_n 3, 1) := by decide +kernel
theorem dL_law_1073 : decode code 1073 = .ok (.iconst 2, 1) := by decide +kernel
theorem dL_law_1074 : decode code 1074 = .ok (.iadd, 1) := by decide +kernel
theorem dL_law_1075 : decode code 1075 = .ok (.iaload, 1) := by decide +kernel
theorem dL_law_1076 : decode code 1076 = .ok (.invokevirtual 104, 3) := by decide +kernel
theorem dL_law_1079 : decode code 1079 = .ok (.lcmp, 1) := by decide +kernel
theorem dL_law_1080 : decode code 1080 = .ok (.ifCond .eq 291, 3) := by decide +kernel
theorem dL_law_1085 : decode code 1085 = .ok (.aload_n 1, 1) := by decide +kernel
theorem dL_law_1086 : decode code 1086 = .ok (.aload_n 0, 1) := by decide +kernel
theorem dL_law_1087 : decode code 1087 = .ok (.iload_n 3, 1) := by decide +kernel
theorem dL_law_1088 : decode code 1088 = .ok (.iconst 1, 1) := by decide +kernel
theorem dL_law_1089 : decode code 1089 = .ok (.iadd, 1) := by decide +kernel
theorem dL_law_1090 : decode code 1090 = .ok (.iaload, 1) := by decide +kernel
theorem dL_law_1091 : decode code 1091 = .ok (.aload_n 0, 1) := by decide +kernel
theorem dL_law_1092 : decode code 1092 = .ok (.iload_n 3, 1) := by decide +kernel
theorem dL_law_1093 : decode code 1093 = .ok (.iconst 2, 1) := by decide +kernel
theorem dL_law_1094 : decode code 1094 = .ok (.iadd, 1) := by decide +kernel
theorem dL_law_1095 : decode code 1095 = .ok (.iaload, 1) := by decide +kernel
theorem dL_law_1096 : decode code 1096 = .ok (.invokevirtual 105, 3) := by decide +kernel
theorem dL_law_1099 : decode code 1099 = .ok (.aload_n 2, 1) := by decide +kernel
theorem dL_law_1100 : decode code 1100 = .ok (.aload_n 0, 1) := by decide +kernel
theorem dL_law_1101 : decode code 1101 = .ok (.iload_n 3, 1) := by decide +kernel
theorem dL_law_1102 : decode code 1102 = .ok (.iconst 1, 1) := by decide +kernel
theorem dL_law_1103 : decode code 1103 = .ok (.iadd, 1) := by decide +kernel
theorem dL_law_1104 : decode code 1104 = .ok (.iaload, 1) := by decide +kernel
theorem dL_law_1105 : decode code 1105 = .ok (.aload_n 0, 1) := by decide +kernel
theorem dL_law_1106 : decode code 1106 = .ok (.iload_n 3, 1) := by decide +kernel
theorem dL_law_1107 : decode code 1107 = .ok (.iconst 2, 1) := by decide +kernel
theorem dL_law_1108 : decode code 1108 = .ok (.iadd, 1) := by decide +kernel
theorem dL_law_1109 : decode code 1109 = .ok (.iaload, 1) := by decide +kernel
theorem dL_law_1110 : decode code 1110 = .ok (.invokevirtual 108, 3) := by decide +kernel
theorem dL_law_1113 : decode code 1113 = .ok (.if_icmp .eq 258, 3) := by decide +kernel
theorem dL_law_1118 : decode code 1118 = .ok (.aload_n 1, 1) := by decide +kernel
theorem dL_law_1119 : decode code 1119 = .ok (.aload_n 0, 1) := by decide +kernel
theorem dL_law_1120 : decode code 1120 = .ok (.iload_n 3, 1) := by decide +kernel
theorem dL_law_1121 : decode code 1121 = .ok (.iconst 1, 1) := by decide +kernel
theorem dL_law_1122 : decode code 1122 = .ok (.iadd, 1) := by decide +kernel
theorem dL_law_1123 : decode code 1123 = .ok (.iaload, 1) := by decide +kernel
theorem dL_law_1124 : decode code 1124 = .ok (.aload_n 0, 1) := by decide +kernel
theorem dL_law_1125 : decode code 1125 = .ok (.iload_n 3, 1) := by decide +kernel
theorem dL_law_1126 : decode code 1126 = .ok (.iconst 2, 1) := by decide +kernel
theorem dL_law_1127 : decode code 1127 = .ok (.iadd, 1) := by decide +kernel
theorem dL_law_1128 : decode code 1128 = .ok (.iaload, 1) := by decide +kernel
theorem dL_law_1129 : decode code 1129 = .ok (.ifCond .eq 7, 3) := by decide +kernel
theorem dL_law_1132 : decode code 1132 = .ok (.iconst 1, 1) := by decide +kernel
theorem dL_law_1133 : decode code 1133 = .ok (.goto 4, 3) := by decide +kernel
theorem dL_law_1136 : decode code 1136 = .ok (.iconst 0, 1) := by decide +kernel
theorem dL_law_1137 : decode code 1137 = .ok (.invokevirtual 109, 3) := by decide +kernel
theorem dL_law_1140 : decode code 1140 = .ok (.aload_n 2, 1) := by decide +kernel
theorem dL_law_1141 : decode code 1141 = .ok (.aload_n 0, 1) := by decide +kernel
theorem dL_law_1142 : decode code 1142 = .ok (.iload_n 3, 1) := by decide +kernel
theorem dL_law_1143 : decode code 1143 = .ok (.iconst 1, 1) := by decide +kernel
theorem dL_law_1144 : decode code 1144 = .ok (.iadd, 1) := by decide +kernel
theorem dL_law_1145 : decode code 1145 = .ok (.iaload, 1) := by decide +kernel
theorem dL_law_1146 : decode code 1146 = .ok (.aload_n 0, 1) := by decide +kernel
theorem dL_law_1147 : decode code 1147 = .ok (.iload_n 3, 1) := by decide +kernel
theorem dL_law_1148 : decode code 1148 = .ok (.iconst 2, 1) := by decide +kernel
theorem dL_law_1149 : decode code 1149 = .ok (.iadd, 1) := by decide +kernel
theorem dL_law_1150 : decode code 1150 = .ok (.iaload, 1) := by decide +kernel
theorem dL_law_1151 : decode code 1151 = .ok (.ifCond .eq 7, 3) := by decide +kernel
theorem dL_law_1154 : decode code 1154 = .ok (.iconst 1, 1) := by decide +kernel
theorem dL_law_1155 : decode code 1155 = .ok (.goto 4, 3) := by decide +kernel
theorem dL_law_1158 : decode code 1158 = .ok (.iconst 0, 1) := by decide +kernel
theorem dL_law_1159 : decode code 1159 = .ok (.invokevirtual 113, 3) := by decide +kernel
theorem dL_law_1162 : decode code 1162 = .ok (.if_icmp .eq 209, 3) := by decide +kernel
theorem dL_law_1167 : decode code 1167 = .ok (.aload_n 1, 1) := by decide +kernel
theorem dL_law_1168 : decode code 1168 = .ok (.aload_n 0, 1) := by decide +kernel
theorem dL_law_1169 : decode code 1169 = .ok (.iload_n 3, 1) := by decide +kernel
theorem dL_law_1170 : decode code 1170 = .ok (.iconst 1, 1) := by decide +kernel
theorem dL_law_1171 : decode code 1171 = .ok (.iadd, 1) := by decide +kernel
theorem dL_law_1172 : decode code 1172 = .ok (.iaload, 1) := by decide +kernel
theorem dL_law_1173 : decode code 1173 = .ok (.aload_n 0, 1) := by decide +kernel
theorem dL_law_1174 : decode code 1174 = .ok (.iload_n 3, 1) := by decide +kernel
theorem dL_law_1175 : decode code 1175 = .ok (.iconst 2, 1) := by decide +kernel
theorem dL_law_1176 : decode code 1176 = .ok (.iadd, 1) := by decide +kernel
theorem dL_law_1177 : decode code 1177 = .ok (.iaload, 1) := by decide +kernel
theorem dL_law_1178 : decode code 1178 = .ok (.ifCond .eq 7, 3) := by decide +kernel
theorem dL_law_1181 : decode code 1181 = .ok (.iconst 1, 1) := by decide +kernel
theorem dL_law_1182 : decode code 1182 = .ok (.goto 4, 3) := by decide +kernel
theorem dL_law_1185 : decode code 1185 = .ok (.iconst 0, 1) := by decide +kernel
theorem dL_law_1186 : decode code 1186 = .ok (.invokevirtual 114, 3) := by decide +kernel
theorem dL_law_1189 : decode code 1189 = .ok (.aload_n 2, 1) := by decide +kernel
theorem dL_law_1190 : decode code 1190 = .ok (.aload_n 0, 1) := by decide +kernel
theorem dL_law_1191 : decode code 1191 = .ok (.iload_n 3, 1) := by decide +kernel
theorem dL_law_1192 : decode code 1192 = .ok (.iconst 1, 1) := by decide +kernel
theorem dL_law_1193 : decode code 1193 = .ok (.iadd, 1) := by decide +kernel
theorem dL_law_1194 : decode code 1194 = .ok (.iaload, 1) := by decide +kernel
theorem dL_law_1195 : decode code 1195 = .ok (.aload_n 0, 1) := by decide +kernel
theorem dL_law_1196 : decode code 1196 = .ok (.iload_n 3, 1) := by decide +kernel
theorem dL_law_1197 : decode code 1197 = .ok (.iconst 2, 1) := by decide +kernel
theorem dL_law_1198 : decode code 1198 = .ok (.iadd, 1) := by decide +kernel
theorem dL_law_1199 : decode code 1199 = .ok (.iaload, 1) := by decide +kernel
theorem dL_law_1200 : decode code 1200 = .ok (.ifCond .eq 7, 3) := by decide +kernel
theorem dL_law_1203 : decode code 1203 = .ok (.iconst 1, 1) := by decide +kernel
theorem dL_law_1204 : decode code 1204 = .ok (.goto 4, 3) := by decide +kernel
theorem dL_law_1207 : decode code 1207 = .ok (.iconst 0, 1) := by decide +kernel
theorem dL_law_1208 : decode code 1208 = .ok (.invokevirtual 117, 3) := by decide +kernel
theorem dL_law_1211 : decode code 1211 = .ok (.if_icmp .eq 160, 3) := by decide +kernel
theorem dL_law_1216 : decode code 1216 = .ok (.aload_n 1, 1) := by decide +kernel
theorem dL_law_1217 : decode code 1217 = .ok (.aload_n 0, 1) := by decide +kernel
theorem dL_law_1218 : decode code 1218 = .ok (.iload_n 3, 1) := by decide +kernel
theorem dL_law_1219 : decode code 1219 = .ok (.iconst 1, 1) := by decide +kernel
theorem dL_law_1220 : decode code 1220 = .ok (.iadd, 1) := by decide +kernel
theorem dL_law_1221 : decode code 1221 = .ok (.iaload, 1) := by decide +kernel
theorem dL_law_1222 : decode code 1222 = .ok (.aload_n 0, 1) := by decide +kernel
theorem dL_law_1223 : decode code 1223 = .ok (.iload_n 3, 1) := by decide +kernel
theorem dL_law_1224 : decode code 1224 = .ok (.iconst 2, 1) := by decide +kernel
theorem dL_law_1225 : decode code 1225 = .ok (.iadd, 1) := by decide +kernel
theorem dL_law_1226 : decode code 1226 = .ok (.iaload, 1) := by decide +kernel
theorem dL_law_1227 : decode code 1227 = .ok (.aload_n 0, 1) := by decide +kernel
theorem dL_law_1228 : decode code 1228 = .ok (.iload_n 3, 1) := by decide +kernel
theorem dL_law_1229 : decode code 1229 = .ok (.iconst 3, 1) := by decide +kernel
theorem dL_law_1230 : decode code 1230 = .ok (.iadd, 1) := by decide +kernel
theorem dL_law_1231 : decode code 1231 = .ok (.iaload, 1) := by decide +kernel
theorem dL_law_1232 : decode code 1232 = .ok (.invokevirtual 118, 3) := by decide +kernel
theorem dL_law_1235 : decode code 1235 = .ok (.aload_n 2, 1) := by decide +kernel
theorem dL_law_1236 : decode code 1236 = .ok (.aload_n 0, 1) := by decide +kernel
theorem dL_law_1237 : decode code 1237 = .ok (.iload_n 3, 1) := by decide +kernel
theorem dL_law_1238 : decode code 1238 = .ok (.iconst 1, 1) := by decide +kernel
theorem dL_law_1239 : decode code 1239 = .ok (.iadd, 1) := by decide +kernel
theorem dL_law_1240 : decode code 1240 = .ok (.iaload, 1) := by decide +kernel
theorem dL_law_1241 : decode code 1241 = .ok (.aload_n 0, 1) := by decide +kernel
theorem dL_law_1242 : decode code 1242 = .ok (.iload_n 3, 1) := by decide +kernel
theorem dL_law_1243 : decode code 1243 = .ok (.iconst 2, 1) := by decide +kernel
theorem dL_law_1244 : decode code 1244 = .ok (.iadd, 1) := by decide +kernel
theorem dL_law_1245 : decode code 1245 = .ok (.iaload, 1) := by decide +kernel
theorem dL_law_1246 : decode code 1246 = .ok (.aload_n 0, 1) := by decide +kernel
theorem dL_law_1247 : decode code 1247 = .ok (.iload_n 3, 1) := by decide +kernel
theorem dL_law_1248 : decode code 1248 = .ok (.iconst 3, 1) := by decide +kernel
theorem dL_law_1249 : decode code 1249 = .ok (.iadd, 1) := by decide +kernel
theorem dL_law_1250 : decode code 1250 = .ok (.iaload, 1) := by decide +kernel
theorem dL_law_1251 : decode code 1251 = .ok (.invokevirtual 121, 3) := by decide +kernel
theorem dL_law_1254 : decode code 1254 = .ok (.if_icmp .eq 117, 3) := by decide +kernel
theorem dL_law_1259 : decode code 1259 = .ok (.aload_n 1, 1) := by decide +kernel
theorem dL_law_1260 : decode code 1260 = .ok (.aload_n 0, 1) := by decide +kernel
theorem dL_law_1261 : decode code 1261 = .ok (.iload_n 3, 1) := by decide +kernel
theorem dL_law_1262 : decode code 1262 = .ok (.iconst 1, 1) := by decide +kernel
theorem dL_law_1263 : decode code 1263 = .ok (.iadd, 1) := by decide +kernel
theorem dL_law_1264 : decode code 1264 = .ok (.iaload, 1) := by decide +kernel
theorem dL_law_1265 : decode code 1265 = .ok (.aload_n 0, 1) := by decide +kernel
theorem dL_law_1266 : decode code 1266 = .ok (.iload_n 3, 1) := by decide +kernel
theorem dL_law_1267 : decode code 1267 = .ok (.iconst 2, 1) := by decide +kernel
theorem dL_law_1268 : decode code 1268 = .ok (.iadd, 1) := by decide +kernel
theorem dL_law_1269 : decode code 1269 = .ok (.iaload, 1) := by decide +kernel
theorem dL_law_1270 : decode code 1270 = .ok (.aload_n 0, 1) := by decide +kernel
theorem dL_law_1271 : decode code 1271 = .ok (.iload_n 3, 1) := by decide +kernel
theorem dL_law_1272 : decode code 1272 = .ok (.iconst 3, 1) := by decide +kernel
theorem dL_law_1273 : decode code 1273 = .ok (.iadd, 1) := by decide +kernel
theorem dL_law_1274 : decode code 1274 = .ok (.iaload, 1) := by decide +kernel
theorem dL_law_1275 : decode code 1275 = .ok (.invokevirtual 122, 3) := by decide +kernel
theorem dL_law_1278 : decode code 1278 = .ok (.aload_n 2, 1) := by decide +kernel
theorem dL_law_1279 : decode code 1279 = .ok (.aload_n 0, 1) := by decide +kernel
theorem dL_law_1280 : decode code 1280 = .ok (.iload_n 3, 1) := by decide +kernel
theorem dL_law_1281 : decode code 1281 = .ok (.iconst 1, 1) := by decide +kernel
theorem dL_law_1282 : decode code 1282 = .ok (.iadd, 1) := by decide +kernel
theorem dL_law_1283 : decode code 1283 = .ok (.iaload, 1) := by decide +kernel
theorem dL_law_1284 : decode code 1284 = .ok (.aload_n 0, 1) := by decide +kernel
theorem dL_law_1285 : decode code 1285 = .ok (.iload_n 3, 1) := by decide +kernel
theorem dL_law_1286 : decode code 1286 = .ok (.iconst 2, 1) := by decide +kernel
theorem dL_law_1287 : decode code 1287 = .ok (.iadd, 1) := by decide +kernel
theorem dL_law_1288 : decode code 1288 = .ok (.iaload, 1) := by decide +kernel
theorem dL_law_1289 : decode code 1289 = .ok (.aload_n 0, 1) := by decide +kernel
theorem dL_law_1290 : decode code 1290 = .ok (.iload_n 3, 1) := by decide +kernel
theorem dL_law_1291 : decode code 1291 = .ok (.iconst 3, 1) := by decide +kernel
theorem dL_law_1292 : decode code 1292 = .ok (.iadd, 1) := by decide +kernel
theorem dL_law_1293 : decode code 1293 = .ok (.iaload, 1) := by decide +kernel
theorem dL_law_1294 : decode code 1294 = .ok (.invokevirtual 125, 3) := by decide +kernel
theorem dL_law_1297 : decode code 1297 = .ok (.if_icmp .eq 74, 3) := by decide +kernel
theorem dL_law_1302 : decode code 1302 = .ok (.aload_n 1, 1) := by decide +kernel
theorem dL_law_1303 : decode code 1303 = .ok (.aload_n 0, 1) := by decide +kernel
theorem dL_law_1304 : decode code 1304 = .ok (.iload_n 3, 1) := by decide +kernel
theorem dL_law_1305 : decode code 1305 = .ok (.iconst 1, 1) := by decide +kernel
theorem dL_law_1306 : decode code 1306 = .ok (.iadd, 1) := by decide +kernel
theorem dL_law_1307 : decode code 1307 = .ok (.iaload, 1) := by decide +kernel
theorem dL_law_1308 : decode code 1308 = .ok (.invokevirtual 126, 3) := by decide +kernel
theorem dL_law_1311 : decode code 1311 = .ok (.aload_n 2, 1) := by decide +kernel
theorem dL_law_1312 : decode code 1312 = .ok (.aload_n 0, 1) := by decide +kernel
theorem dL_law_1313 : decode code 1313 = .ok (.iload_n 3, 1) := by decide +kernel
theorem dL_law_1314 : decode code 1314 = .ok (.iconst 1, 1) := by decide +kernel
theorem dL_law_1315 : decode code 1315 = .ok (.iadd, 1) := by decide +kernel
theorem dL_law_1316 : decode code 1316 = .ok (.iaload, 1) := by decide +kernel
theorem dL_law_1317 : decode code 1317 = .ok (.invokevirtual 129, 3) := by decide +kernel
theorem dL_law_1320 : decode code 1320 = .ok (.if_icmp .eq 51, 3) := by decide +kernel
theorem dL_law_1325 : decode code 1325 = .ok (.aload_n 1, 1) := by decide +kernel
theorem dL_law_1326 : decode code 1326 = .ok (.aload_n 0, 1) := by decide +kernel
theorem dL_law_1327 : decode code 1327 = .ok (.iload_n 3, 1) := by decide +kernel
theorem dL_law_1328 : decode code 1328 = .ok (.iconst 1, 1) := by decide +kernel
theorem dL_law_1329 : decode code 1329 = .ok (.iadd, 1) := by decide +kernel
theorem dL_law_1330 : decode code 1330 = .ok (.iaload, 1) := by decide +kernel
theorem dL_law_1331 : decode code 1331 = .ok (.invokevirtual 130, 3) := by decide +kernel
theorem dL_law_1334 : decode code 1334 = .ok (.aload_n 2, 1) := by decide +kernel
theorem dL_law_1335 : decode code 1335 = .ok (.aload_n 0, 1) := by decide +kernel
theorem dL_law_1336 : decode code 1336 = .ok (.iload_n 3, 1) := by decide +kernel
theorem dL_law_1337 : decode code 1337 = .ok (.iconst 1, 1) := by decide +kernel
theorem dL_law_1338 : decode code 1338 = .ok (.iadd, 1) := by decide +kernel
theorem dL_law_1339 : decode code 1339 = .ok (.iaload, 1) := by decide +kernel
theorem dL_law_1340 : decode code 1340 = .ok (.invokevirtual 134, 3) := by decide +kernel
theorem dL_law_1343 : decode code 1343 = .ok (.if_icmp .eq 28, 3) := by decide +kernel
theorem dL_law_1348 : decode code 1348 = .ok (.aload_n 1, 1) := by decide +kernel
theorem dL_law_1349 : decode code 1349 = .ok (.aload_n 0, 1) := by decide +kernel
theorem dL_law_1350 : decode code 1350 = .ok (.iload_n 3, 1) := by decide +kernel
theorem dL_law_1351 : decode code 1351 = .ok (.iconst 1, 1) := by decide +kernel
theorem dL_law_1352 : decode code 1352 = .ok (.iadd, 1) := by decide +kernel
theorem dL_law_1353 : decode code 1353 = .ok (.iaload, 1) := by decide +kernel
theorem dL_law_1354 : decode code 1354 = .ok (.invokevirtual 135, 3) := by decide +kernel
theorem dL_law_1357 : decode code 1357 = .ok (.aload_n 2, 1) := by decide +kernel
theorem dL_law_1358 : decode code 1358 = .ok (.aload_n 0, 1) := by decide +kernel
theorem dL_law_1359 : decode code 1359 = .ok (.iload_n 3, 1) := by decide +kernel
theorem dL_law_1360 : decode code 1360 = .ok (.iconst 1, 1) := by decide +kernel
theorem dL_law_1361 : decode code 1361 = .ok (.iadd, 1) := by decide +kernel
theorem dL_law_1362 : decode code 1362 = .ok (.iaload, 1) := by decide +kernel
theorem dL_law_1363 : decode code 1363 = .ok (.invokevirtual 138, 3) := by decide +kernel
theorem dL_law_1366 : decode code 1366 = .ok (.if_icmp .eq 5, 3) := by decide +kernel
theorem dL_law_1371 : decode code 1371 = .ok (.iinc 3 6, 3) := by decide +kernel
theorem dL_law_1374 : decode code 1374 = .ok (.goto (-1356), 3) := by decide +kernel
theorem dL_law_1377 : decode code 1377 = .ok (.iconst 1, 1) := by decide +kernel
theorem dL_law_1378 : decode code 1378 = .ok (.ireturn, 1) := by decide +kernel
abbrev lawW (k : Nat → ClassId) (qh qm : Nat) (a am : Nat → Nat) (g : Nat → Nat → Int32) : va_W := ((qh, .inr (11, [.ref (a 0), .ref (a 50), .ref (a 100), .ref (a 150), .ref (a 151), .ref (a 152), .ref (a 153), .ref (a 154)])) :: ((a 0), .inr (8, [.ref (a 1), .ref (a 2), .ref (a 3), .ref (a 4), .ref (a 5), .ref (a 6), .int 0, .int 0, .int (-1)])) :: ((a 1), .inl (k 1, 600, .inl (fun _ => 0))) :: ((a 2), .inl (k 0, 4, .inl (fun _ => 0))) :: ((a 3), .inl (k 4, 2, .inr (.inr (.inr (.inr (va_up (va_up (fun _ => none) 0 (some (a 10))) 1 (some (a 20)))))))) :: ((a 4), .inl (k 5, 2, .inr (.inr (.inr (.inr (va_up (va_up (fun _ => none) 0 (some (a 30))) 1 (some (a 35)))))))) :: ((a 5), .inl (k 6, 2, .inr (.inr (.inr (.inr (va_up (va_up (fun _ => none) 0 (some (a 40))) 1 (some (a 42)))))))) :: ((a 6), .inl (k 7, 2, .inr (.inr (.inr (.inr (va_up (va_up (fun _ => none) 0 (some (a 44))) 1 (some (a 47)))))))) :: ((a 10), .inr (0, [.ref (a 11), .ref (a 12), .ref (a 13), .ref (a 14), .ref (a 15), .ref (a 16), .ref (a 17), .int 0, .int 0, .int 5, .int 0, .int 0])) :: ((a 11), .inl (k 0, 8, .inl (g 11))) :: ((a 12), .inl (k 0, 8, .inl (g 12))) :: ((a 13), .inl (k 0, 4, .inl (g 13))) :: ((a 14), .inl (k 0, 32, .inl (g 14))) :: ((a 15), .inl (k 0, 6, .inl (g 15))) :: ((a 16), .inl (k 0, 6, .inl (g 16))) :: ((a 17), .inl (k 0, 6, .inl (g 17))) :: ((a 20), .inr (0, [.ref (a 21), .ref (a 22), .ref (a 23), .ref (a 24), .ref (a 25), .ref (a 26), .ref (a 27), .int 0, .int 0, .int 5, .int 0, .int 0])) :: ((a 21), .inl (k 0, 8, .inl (g 21))) :: ((a 22), .inl (k 0, 8, .inl (g 22))) :: ((a 23), .inl (k 0, 4, .inl (g 23))) :: ((a 24), .inl (k 0, 32, .inl (g 24))) :: ((a 25), .inl (k 0, 6, .inl (g 25))) :: ((a 26), .inl (k 0, 6, .inl (g 26))) :: ((a 27), .inl (k 0, 6, .inl (g 27))) :: ((a 30), .inr (10, [.ref (a 31), .ref (a 32), .ref (a 33), .ref (a 34), .int 0])) :: ((a 31), .inl (k 0, 40, .inl (fun _ => 0))) :: ((a 32), .inl (k 0, 40, .inl (fun _ => 0))) :: ((a 33), .inl (k 0, 40, .inl (fun _ => 0))) :: ((a 34), .inl (k 0, 40, .inl (fun _ => 0))) :: ((a 35), .inr (10, [.ref (a 36), .ref (a 37), .ref (a 38), .ref (a 39), .int 0])) :: ((a 36), .inl (k 0, 40, .inl (fun _ => 0))) :: ((a 37), .inl (k 0, 40, .inl (fun _ => 0))) :: ((a 38), .inl (k 0, 40, .inl (fun _ => 0))) :: ((a 39), .inl (k 0, 40, .inl (fun _ => 0))) :: ((a 40), .inr (3, [.ref (a 41), .int 0])) :: ((a 41), .inl (k 0, 8, .inl (fun _ => 0))) :: ((a 42), .inr (3, [.ref (a 43), .int 0])) :: ((a 43), .inl (k 0, 8, .inl (fun _ => 0))) :: ((a 44), .inr (7, [.ref (a 45), .ref (a 46), .int 0])) :: ((a 45), .inl (k 0, 10, .inl (fun _ => 0))) :: ((a 46), .inl (k 0, 10, .inl (fun _ => 0))) :: ((a 47), .inr (7, [.ref (a 48), .ref (a 49), .int 0])) :: ((a 48), .inl (k 0, 10, .inl (fun _ => 0))) :: ((a 49), .inl (k 0, 10, .inl (fun _ => 0))) :: ((a 50), .inl (k 8, 3, .inr (.inr (.inr (.inr (fun _ => none)))))) :: ((a 100), .inr (6, [.ref (a 101), .ref (a 110), .ref (a 120), .ref (a 130), .ref (a 140), .ref (a 141), .int 0, .int 0, .int 0, .int 0, .int 0, .int 0, .int 0, .int 0, .int 0])) :: ((a 101), .inr (0, [.ref (a 102), .ref (a 103), .ref (a 104), .ref (a 105), .ref (a 106), .ref (a 107), .ref (a 108), .int 0, .int 0, .int 5, .int 0, .int 0])) :: ((a 102), .inl (k 0, 8, .inl (g 102))) :: ((a 103), .inl (k 0, 8, .inl (g 103))) :: ((a 104), .inl (k 0, 4, .inl (g 104))) :: ((a 105), .inl (k 0, 32, .inl (g 105))) :: ((a 106), .inl (k 0, 6, .inl (g 106))) :: ((a 107), .inl (k 0, 6, .inl (g 107))) :: ((a 108), .inl (k 0, 6, .inl (g 108))) :: ((a 110), .inr (10, [.ref (a 111), .ref (a 112), .ref (a 113), .ref (a 114), .int 0])) :: ((a 111), .inl (k 0, 40, .inl (fun _ => 0))) :: ((a 112), .inl (k 0, 40, .inl (fun _ => 0))) :: ((a 113), .inl (k 0, 40, .inl (fun _ => 0))) :: ((a 114), .inl (k 0, 40, .inl (fun _ => 0))) :: ((a 120), .inr (3, [.ref (a 121), .int 0])) :: ((a 121), .inl (k 0, 8, .inl (fun _ => 0))) :: ((a 130), .inr (7, [.ref (a 131), .ref (a 132), .int 0])) :: ((a 131), .inl (k 0, 10, .inl (fun _ => 0))) :: ((a 132), .inl (k 0, 10, .inl (fun _ => 0))) :: (qm, .inr (12, [.int 0, .ref (am 1), .ref (am 2), .ref (am 3), .ref (am 4), .ref (am 5), .ref (am 6), .ref (am 7), .ref (am 8), .ref (am 9), .int 0, .int 0, .int 0, .int 0, .int 0, .long 0, .int 0, .int 0, .int 0, .ref (am 19), .ref (am 20), .int 0, .int 0, .int 0, .int 0, .int 0, .int 0, .ref (am 27), .int 0, .ref (am 29), .ref (am 30), .ref (am 31), .ref (am 32), .int 0, .ref (am 34), .int 0, .ref (am 36), .ref (am 37), .ref (am 38), .ref (am 39), .ref (am 40), .int 0, .ref (am 42), .ref (am 43), .ref (am 44)])) :: ((am 1), .inl (k 1, 2400, .inl (fun _ => 0))) :: ((am 2), .inl (k 0, 4, .inl (fun _ => 0))) :: ((am 3), .inl (k 0, 4, .inl (fun _ => 0))) :: ((am 4), .inl (k 0, 4, .inl (upd (fun _ => 0) 0 (-1)))) :: ((am 5), .inl (k 0, 16, .inl (fun _ => 0))) :: ((am 6), .inl (k 0, 600, .inl (fun _ => 0))) :: ((am 7), .inl (k 0, 1288, .inl (fun _ => 0))) :: ((am 8), .inl (k 0, 72, .inl (fun _ => 0))) :: ((am 9), .inl (k 0, 168, .inl (fun _ => 0))) :: ((am 19), .inl (k 0, 161, .inl (fun _ => 0))) :: ((am 44), .inl (k 2, 3, .inl (fun _ => 0))) :: [])
set_option maxRecDepth 20000 in
theorem in_law_0 : ∀ w ∈ u_ws RX0 TX0 12, w ∈ lw_tbl := fun w h => ((goodIn_r (big := lw_tbl) (u_ws RX0 TX0 12) [123, 125, 127, 129, 131, 133, 135, 137, 139, 141, 143, 145] (by decide +kernel) (by decide +kernel)) w h).1
set_option maxRecDepth 20000 in
theorem in_law_1 : ∀ w ∈ u_ws RX1 TX1 3, w ∈ lw_tbl := fun w h => ((goodIn_r (big := lw_tbl) (u_ws RX1 TX1 3) [413, 415, 417] (by decide +kernel) (by decide +kernel)) w h).1
set_option maxRecDepth 20000 in
theorem in_law_2 : ∀ w ∈ u_ws RX2 TX2 5, w ∈ lw_tbl := fun w h => ((goodIn_r (big := lw_tbl) (u_ws RX2 TX2 5) [392, 394, 396, 398, 400] (by decide +kernel) (by decide +kernel)) w h).1
set_option maxRecDepth 20000 in
theorem in_law_3 : ∀ w ∈ u_ws RX3 TX3 2, w ∈ lw_tbl := fun w h => ((goodIn_r (big := lw_tbl) (u_ws RX3 TX3 2) [195, 197] (by decide +kernel) (by decide +kernel)) w h).1
set_option maxRecDepth 20000 in
theorem in_law_4 : ∀ w ∈ u_ws RX4 TX4 4, w ∈ lw_tbl := fun w h => ((goodIn_r (big := lw_tbl) (u_ws RX4 TX4 4) [372, 374, 376, 378] (by decide +kernel) (by decide +kernel)) w h).1
set_option maxRecDepth 20000 in
theorem in_law_5 : ∀ w ∈ u_ws RX5 TX5 3, w ∈ lw_tbl := fun w h => ((goodIn_r (big := lw_tbl) (u_ws RX5 TX5 3) [355, 357, 359] (by decide +kernel) (by decide +kernel)) w h).1
set_option maxRecDepth 20000 in
theorem in_law_6 : ∀ w ∈ u_ws RX6 TX6 15, w ∈ lw_tbl := fun w h => ((goodIn_r (big := lw_tbl) (u_ws RX6 TX6 15) [291, 293, 295, 297, 299, 301, 303, 305, 307, 309, 311, 313, 315, 317, 319] (by decide +kernel) (by decide +kernel)) w h).1
set_option maxRecDepth 20000 in
theorem in_law_7 : ∀ w ∈ u_ws RX7 TX7 3, w ∈ lw_tbl := fun w h => ((goodIn_r (big := lw_tbl) (u_ws RX7 TX7 3) [215, 217, 219] (by decide +kernel) (by decide +kernel)) w h).1
set_option maxRecDepth 20000 in
theorem in_law_8 : ∀ w ∈ u_ws RX8 TX8 9, w ∈ lw_tbl := fun w h => ((goodIn_r (big := lw_tbl) (u_ws RX8 TX8 9) [236, 238, 240, 242, 244, 246, 248, 250, 252] (by decide +kernel) (by decide +kernel)) w h).1
set_option maxRecDepth 20000 in
theorem in_law_9 : ∀ w ∈ u_ws RX9 TX9 5, w ∈ lw_tbl := fun w h => ((goodIn_r (big := lw_tbl) (u_ws RX9 TX9 5) [333, 335, 337, 339, 341] (by decide +kernel) (by decide +kernel)) w h).1
set_option maxRecDepth 20000 in
theorem in_law_10 : ∀ w ∈ u_ws RX10 TX10 5, w ∈ lw_tbl := fun w h => ((goodIn_r (big := lw_tbl) (u_ws RX10 TX10 5) [169, 171, 173, 175, 177] (by decide +kernel) (by decide +kernel)) w h).1
set_option maxRecDepth 20000 in
theorem in_law_11 : ∀ w ∈ u_ws RX11 TX11 8, w ∈ lw_tbl := fun w h => ((goodIn_r (big := lw_tbl) (u_ws RX11 TX11 8) [428, 430, 432, 434, 436, 438, 440, 442] (by decide +kernel) (by decide +kernel)) w h).1
set_option maxRecDepth 20000 in
theorem in_law_12 : ∀ w ∈ u_ws RX12 TX12 45, w ∈ lw_tbl := fun w h => ((goodIn_r (big := lw_tbl) (u_ws RX12 TX12 45) (1249 :: 1251 :: 1253 :: 1255 :: 1257 :: 1259 :: 1261 :: 1263 :: 1265 :: 1267 :: 1269 :: 1271 :: 1273 :: 1275 :: 1277 :: 1279 :: 1281 :: 1283 :: 1285 :: 1287 :: 1289 :: 1291 :: 1293 :: 1295 :: 1297 :: 1299 :: 1301 :: 1303 :: 1305 :: 1307 :: 1309 :: 1311 :: 1313 :: 1315 :: 1317 :: 1319 :: 1321 :: 1323 :: 1325 :: 1327 :: 1329 :: 1331 :: 1333 :: 1335 :: 1337 :: []) (by decide +kernel) (by decide +kernel)) w h).1
