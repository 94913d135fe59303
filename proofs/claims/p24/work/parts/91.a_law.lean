def R_law : String := "HeightFineLaw"
theorem dL_law_18 : decode code 18 = .ok (.iload_n 3, 1) := by decide +kernel
theorem dL_law_19 : decode code 19 = .ok (.aload_n 0, 1) := by decide +kernel
theorem dL_law_20 : decode code 20 = .ok (.arraylength, 1) := by decide +kernel
theorem dL_law_21 : decode code 21 = .ok (.bipush 6, 2) := by decide +kernel
theorem dL_law_23 : decode code 23 = .ok (.isub, 1) := by decide +kernel
theorem dL_law_24 : decode code 24 = .ok (.if_icmp .gt 1351, 3) := by decide +kernel
theorem dL_law_27 : decode code 27 = .ok (.aload_n 0, 1) := by decide +kernel
theorem dL_law_28 : decode code 28 = .ok (.iload_n 3, 1) := by decide +kernel
theorem dL_law_29 : decode code 29 = .ok (.iaload, 1) := by decide +kernel
theorem dL_law_30 : decode code 30 = .ok (.bipush 31, 2) := by decide +kernel
theorem dL_law_32 : decode code 32 = .ok (.iand, 1) := by decide +kernel
theorem dL_law_33 : decode code 33 = .ok (.tableswitch 1336 0 28 #[131, 194, 217, 250, 273, 306, 349, 382, 435, 478, 521, 580, 633, 686, 729, 762, 805, 868, 921, 974, 1017, 1050, 1083, 1132, 1181, 1224, 1267, 1290, 1313], 131) := by decide +kernel
theorem dL_law_164 : decode code 164 = .ok (.aload_n 1, 1) := by decide +kernel
theorem dL_law_165 : decode code 165 = .ok (.aload_n 0, 1) := by decide +kernel
theorem dL_law_166 : decode code 166 = .ok (.iload_n 3, 1) := by decide +kernel
theorem dL_law_167 : decode code 167 = .ok (.iconst 1, 1) := by decide +kernel
theorem dL_law_168 : decode code 168 = .ok (.iadd, 1) := by decide +kernel
theorem dL_law_169 : decode code 169 = .ok (.iaload, 1) := by decide +kernel
theorem dL_law_170 : decode code 170 = .ok (.aload_n 0, 1) := by decide +kernel
theorem dL_law_171 : decode code 171 = .ok (.iload_n 3, 1) := by decide +kernel
theorem dL_law_172 : decode code 172 = .ok (.iconst 2, 1) := by decide +kernel
theorem dL_law_173 : decode code 173 = .ok (.iadd, 1) := by decide +kernel
theorem dL_law_174 : decode code 174 = .ok (.iaload, 1) := by decide +kernel
theorem dL_law_175 : decode code 175 = .ok (.aload_n 0, 1) := by decide +kernel
theorem dL_law_176 : decode code 176 = .ok (.iload_n 3, 1) := by decide +kernel
theorem dL_law_177 : decode code 177 = .ok (.iconst 3, 1) := by decide +kernel
theorem dL_law_178 : decode code 178 = .ok (.iadd, 1) := by decide +kernel
theorem dL_law_179 : decode code 179 = .ok (.iaload, 1) := by decide +kernel
theorem dL_law_180 : decode code 180 = .ok (.aload_n 0, 1) := by decide +kernel
theorem dL_law_181 : decode code 181 = .ok (.iload_n 3, 1) := by decide +kernel
theorem dL_law_182 : decode code 182 = .ok (.iconst 4, 1) := by decide +kernel
theorem dL_law_183 : decode code 183 = .ok (.iadd, 1) := by decide +kernel
theorem dL_law_184 : decode code 184 = .ok (.iaload, 1) := by decide +kernel
theorem dL_law_185 : decode code 185 = .ok (.aload_n 0, 1) := by decide +kernel
theorem dL_law_186 : decode code 186 = .ok (.iload_n 3, 1) := by decide +kernel
theorem dL_law_187 : decode code 187 = .ok (.iconst 5, 1) := by decide +kernel
theorem dL_law_188 : decode code 188 = .ok (.iadd, 1) := by decide +kernel
theorem dL_law_189 : decode code 189 = .ok (.iaload, 1) := by decide +kernel
theorem dL_law_190 : decode code 190 = .ok (.invokevirtual 13, 3) := by decide +kernel
theorem dL_law_193 : decode code 193 = .ok (.pop, 1) := by decide +kernel
theorem dL_law_194 : decode code 194 = .ok (.aload_n 2, 1) := by decide +kernel
theorem dL_law_195 : decode code 195 = .ok (.aload_n 0, 1) := by decide +kernel
theorem dL_law_196 : decode code 196 = .ok (.iload_n 3, 1) := by decide +kernel
theorem dL_law_197 : decode code 197 = .ok (.iconst 1, 1) := by decide +kernel
theorem dL_law_198 : decode code 198 = .ok (.iadd, 1) := by decide +kernel
theorem dL_law_199 : decode code 199 = .ok (.iaload, 1) := by decide +kernel
theorem dL_law_200 : decode code 200 = .ok (.aload_n 0, 1) := by decide +kernel
theorem dL_law_201 : decode code 201 = .ok (.iload_n 3, 1) := by decide +kernel
theorem dL_law_202 : decode code 202 = .ok (.iconst 2, 1) := by decide +kernel
theorem dL_law_203 : decode code 203 = .ok (.iadd, 1) := by decide +kernel
theorem dL_law_204 : decode code 204 = .ok (.iaload, 1) := by decide +kernel
theorem dL_law_205 : decode code 205 = .ok (.aload_n 0, 1) := by decide +kernel
theorem dL_law_206 : decode code 206 = .ok (.iload_n 3, 1) := by decide +kernel
theorem dL_law_207 : decode code 207 = .ok (.iconst 3, 1) := by decide +kernel
theorem dL_law_208 : decode code 208 = .ok (.iadd, 1) := by decide +kernel
theorem dL_law_209 : decode code 209 = .ok (.iaload, 1) := by decide +kernel
theorem dL_law_210 : decode code 210 = .ok (.aload_n 0, 1) := by decide +kernel
theorem dL_law_211 : decode code 211 = .ok (.iload_n 3, 1) := by decide +kernel
theorem dL_law_212 : decode code 212 = .ok (.iconst 4, 1) := by decide +kernel
theorem dL_law_213 : decode code 213 = .ok (.iadd, 1) := by decide +kernel
theorem dL_law_214 : decode code 214 = .ok (.iaload, 1) := by decide +kernel
theorem dL_law_215 : decode code 215 = .ok (.aload_n 0, 1) := by decide +kernel
theorem dL_law_216 : decode code 216 = .ok (.iload_n 3, 1) := by decide +kernel
theorem dL_law_217 : decode code 217 = .ok (.iconst 5, 1) := by decide +kernel
theorem dL_law_218 : decode code 218 = .ok (.iadd, 1) := by decide +kernel
theorem dL_law_219 : decode code 219 = .ok (.iaload, 1) := by decide +kernel
theorem dL_law_220 : decode code 220 = .ok (.invokevirtual 17, 3) := by decide +kernel
theorem dL_law_223 : decode code 223 = .ok (.pop, 1) := by decide +kernel
theorem dL_law_224 : decode code 224 = .ok (.goto 1145, 3) := by decide +kernel
theorem dL_law_227 : decode code 227 = .ok (.aload_n 1, 1) := by decide +kernel
theorem dL_law_228 : decode code 228 = .ok (.aload_n 0, 1) := by decide +kernel
theorem dL_law_229 : decode code 229 = .ok (.iload_n 3, 1) := by decide +kernel
theorem dL_law_230 : decode code 230 = .ok (.iconst 1, 1) := by decide +kernel
theorem dL_law_231 : decode code 231 = .ok (.iadd, 1) := by decide +kernel
theorem dL_law_232 : decode code 232 = .ok (.iaload, 1) := by decide +kernel
theorem dL_law_233 : decode code 233 = .ok (.invokevirtual 18, 3) := by decide +kernel
theorem dL_law_236 : decode code 236 = .ok (.pop, 1) := by decide +kernel
theorem dL_law_237 : decode code 237 = .ok (.aload_n 2, 1) := by decide +kernel
theorem dL_law_238 : decode code 238 = .ok (.aload_n 0, 1) := by decide +kernel
theorem dL_law_239 : decode code 239 = .ok (.iload_n 3, 1) := by decide +kernel
theorem dL_law_240 : decode code 240 = .ok (.iconst 1, 1) := by decide +kernel
theorem dL_law_241 : decode code 241 = .ok (.iadd, 1) := by decide +kernel
theorem dL_law_242 : decode code 242 = .ok (.iaload, 1) := by decide +kernel
theorem dL_law_243 : decode code 243 = .ok (.invokevirtual 22, 3) := by decide +kernel
theorem dL_law_246 : decode code 246 = .ok (.pop, 1) := by decide +kernel
theorem dL_law_247 : decode code 247 = .ok (.goto 1122, 3) := by decide +kernel
theorem dL_law_250 : decode code 250 = .ok (.aload_n 1, 1) := by decide +kernel
theorem dL_law_251 : decode code 251 = .ok (.aload_n 0, 1) := by decide +kernel
theorem dL_law_252 : decode code 252 = .ok (.iload_n 3, 1) := by decide +kernel
theorem dL_law_253 : decode code 253 = .ok (.iconst 1, 1) := by decide +kernel
theorem dL_law_254 : decode code 254 = .ok (.iadd, 1) := by decide +kernel
theorem dL_law_255 : decode code 255 = .ok (.iaload, 1) := by decide +kernel
theorem dL_law_256 : decode code 256 = .ok (.aload_n 0, 1) := by decide +kernel
theorem dL_law_257 : decode code 257 = .ok (.iload_n 3, 1) := by decide +kernel
theorem dL_law_258 : decode code 258 = .ok (.iconst 2, 1) := by decide +kernel
theorem dL_law_259 : decode code 259 = .ok (.iadd, 1) := by decide +kernel
theorem dL_law_260 : decode code 260 = .ok (.iaload, 1) := by decide +kernel
theorem dL_law_261 : decode code 261 = .ok (.invokevirtual 23, 3) := by decide +kernel
theorem dL_law_264 : decode code 264 = .ok (.pop, 1) := by decide +kernel
theorem dL_law_265 : decode code 265 = .ok (.aload_n 2, 1) := by decide +kernel
theorem dL_law_266 : decode code 266 = .ok (.aload_n 0, 1) := by decide +kernel
theorem dL_law_267 : decode code 267 = .ok (.iload_n 3, 1) := by decide +kernel
theorem dL_law_268 : decode code 268 = .ok (.iconst 1, 1) := by decide +kernel
theorem dL_law_269 : decode code 269 = .ok (.iadd, 1) := by decide +kernel
theorem dL_law_270 : decode code 270 = .ok (.iaload, 1) := by decide +kernel
theorem dL_law_271 : decode code 271 = .ok (.aload_n 0, 1) := by decide +kernel
theorem dL_law_272 : decode code 272 = .ok (.iload_n 3, 1) := by decide +kernel
theorem dL_law_273 : decode code 273 = .ok (.iconst 2, 1) := by decide +kernel
theorem dL_law_274 : decode code 274 = .ok (.iadd, 1) := by decide +kernel
theorem dL_law_275 : decode code 275 = .ok (.iaload, 1) := by decide +kernel
theorem dL_law_276 : decode code 276 = .ok (.invokevirtual 27, 3) := by decide +kernel
theorem dL_law_279 : decode code 279 = .ok (.pop, 1) := by decide +kernel
theorem dL_law_280 : decode code 280 = .ok (.goto 1089, 3) := by decide +kernel
theorem dL_law_283 : decode code 283 = .ok (.aload_n 1, 1) := by decide +kernel
theorem dL_law_284 : decode code 284 = .ok (.aload_n 0, 1) := by decide +kernel
theorem dL_law_285 : decode code 285 = .ok (.iload_n 3, 1) := by decide +kernel
theorem dL_law_286 : decode code 286 = .ok (.iconst 1, 1) := by decide +kernel
theorem dL_law_287 : decode code 287 = .ok (.iadd, 1) := by decide +kernel
theorem dL_law_288 : decode code 288 = .ok (.iaload, 1) := by decide +kernel
theorem dL_law_289 : decode code 289 = .ok (.invokevirtual 28, 3) := by decide +kernel
theorem dL_law_292 : decode code 292 = .ok (.pop, 1) := by decide +kernel
theorem dL_law_293 : decode code 293 = .ok (.aload_n 2, 1) := by decide +kernel
theorem dL_law_294 : decode code 294 = .ok (.aload_n 0, 1) := by decide +kernel
theorem dL_law_295 : decode code 295 = .ok (.iload_n 3, 1) := by decide +kernel
theorem dL_law_296 : decode code 296 = .ok (.iconst 1, 1) := by decide +kernel
theorem dL_law_297 : decode code 297 = .ok (.iadd, 1) := by decide +kernel
theorem dL_law_298 : decode code 298 = .ok (.iaload, 1) := by decide +kernel
theorem dL_law_299 : decode code 299 = .ok (.invokevirtual 31, 3) := by decide +kernel
theorem dL_law_302 : decode code 302 = .ok (.pop, 1) := by decide +kernel
theorem dL_law_303 : decode code 303 = .ok (.goto 1066, 3) := by decide +kernel
theorem dL_law_306 : decode code 306 = .ok (.aload_n 1, 1) := by decide +kernel
theorem dL_law_307 : decode code 307 = .ok (.aload_n 0, 1) := by decide +kernel
theorem dL_law_308 : decode code 308 = .ok (.iload_n 3, 1) := by decide +kernel
theorem dL_law_309 : decode code 309 = .ok (.iconst 1, 1) := by decide +kernel
theorem dL_law_310 : decode code 310 = .ok (.iadd, 1) := by decide +kernel
theorem dL_law_311 : decode code 311 = .ok (.iaload, 1) := by decide +kernel
theorem dL_law_312 : decode code 312 = .ok (.aload_n 0, 1) := by decide +kernel
theorem dL_law_313 : decode code 313 = .ok (.iload_n 3, 1) := by decide +kernel
theorem dL_law_314 : decode code 314 = .ok (.iconst 2, 1) := by decide +kernel
theorem dL_law_315 : decode code 315 = .ok (.iadd, 1) := by decide +kernel
theorem dL_law_316 : decode code 316 = .ok (.iaload, 1) := by decide +kernel
theorem dL_law_317 : decode code 317 = .ok (.invokevirtual 32, 3) := by decide +kernel
theorem dL_law_320 : decode code 320 = .ok (.pop, 1) := by decide +kernel
theorem dL_law_321 : decode code 321 = .ok (.aload_n 2, 1) := by decide +kernel
theorem dL_law_322 : decode code 322 = .ok (.aload_n 0, 1) := by decide +kernel
theorem dL_law_323 : decode code 323 = .ok (.iload_n 3, 1) := by decide +kernel
theorem dL_law_324 : decode code 324 = .ok (.iconst 1, 1) := by decide +kernel
theorem dL_law_325 : decode code 325 = .ok (.iadd, 1) := by decide +kernel
theorem dL_law_326 : decode code 326 = .ok (.iaload, 1) := by decide +kernel
theorem dL_law_327 : decode code 327 = .ok (.aload_n 0, 1) := by decide +kernel
theorem dL_law_328 : decode code 328 = .ok (.iload_n 3, 1) := by decide +kernel
theorem dL_law_329 : decode code 329 = .ok (.iconst 2, 1) := by decide +kernel
theorem dL_law_330 : decode code 330 = .ok (.iadd, 1) := by decide +kernel
theorem dL_law_331 : decode code 331 = .ok (.iaload, 1) := by decide +kernel
theorem dL_law_332 : decode code 332 = .ok (.invokevirtual 35, 3) := by decide +kernel
theorem dL_law_335 : decode code 335 = .ok (.pop, 1) := by decide +kernel
theorem dL_law_336 : decode code 336 = .ok (.goto 1033, 3) := by decide +kernel
theorem dL_law_339 : decode code 339 = .ok (.aload_n 1, 1) := by decide +kernel
theorem dL_law_340 : decode code 340 = .ok (.aload_n 0, 1) := by decide +kernel
theorem dL_law_341 : decode code 341 = .ok (.iload_n 3, 1) := by decide +kernel
theorem dL_law_342 : decode code 342 = .ok (.iconst 1, 1) := by decide +kernel
theorem dL_law_343 : decode code 343 = .ok (.iadd, 1) := by decide +kernel
theorem dL_law_344 : decode code 344 = .ok (.iaload, 1) := by decide +kernel
theorem dL_law_345 : decode code 345 = .ok (.aload_n 0, 1) := by decide +kernel
theorem dL_law_346 : decode code 346 = .ok (.iload_n 3, 1) := by decide +kernel
theorem dL_law_347 : decode code 347 = .ok (.iconst 2, 1) := by decide +kernel
theorem dL_law_348 : decode code 348 = .ok (.iadd, 1) := by decide +kernel
theorem dL_law_349 : decode code 349 = .ok (.iaload, 1) := by decide +kernel
theorem dL_law_350 : decode code 350 = .ok (.aload_n 0, 1) := by decide +kernel
theorem dL_law_351 : decode code 351 = .ok (.iload_n 3, 1) := by decide +kernel
theorem dL_law_352 : decode code 352 = .ok (.iconst 3, 1) := by decide +kernel
theorem dL_law_353 : decode code 353 = .ok (.iadd, 1) := by decide +kernel
theorem dL_law_354 : decode code 354 = .ok (.iaload, 1) := by decide +kernel
theorem dL_law_355 : decode code 355 = .ok (.invokevirtual 36, 3) := by decide +kernel
theorem dL_law_358 : decode code 358 = .ok (.pop, 1) := by decide +kernel
theorem dL_law_359 : decode code 359 = .ok (.aload_n 2, 1) := by decide +kernel
theorem dL_law_360 : decode code 360 = .ok (.aload_n 0, 1) := by decide +kernel
theorem dL_law_361 : decode code 361 = .ok (.iload_n 3, 1) := by decide +kernel
theorem dL_law_362 : decode code 362 = .ok (.iconst 1, 1) := by decide +kernel
theorem dL_law_363 : decode code 363 = .ok (.iadd, 1) := by decide +kernel
theorem dL_law_364 : decode code 364 = .ok (.iaload, 1) := by decide +kernel
theorem dL_law_365 : decode code 365 = .ok (.aload_n 0, 1) := by decide +kernel
theorem dL_law_366 : decode code 366 = .ok (.iload_n 3, 1) := by decide +kernel
theorem dL_law_367 : decode code 367 = .ok (.iconst 2, 1) := by decide +kernel
theorem dL_law_368 : decode code 368 = .ok (.iadd, 1) := by decide +kernel
theorem dL_law_369 : decode code 369 = .ok (.iaload, 1) := by decide +kernel
theorem dL_law_370 : decode code 370 = .ok (.aload_n 0, 1) := by decide +kernel
theorem dL_law_371 : decode code 371 = .ok (.iload_n 3, 1) := by decide +kernel
theorem dL_law_372 : decode code 372 = .ok (.iconst 3, 1) := by decide +kernel
theorem dL_law_373 : decode code 373 = .ok (.iadd, 1) := by decide +kernel
theorem dL_law_374 : decode code 374 = .ok (.iaload, 1) := by decide +kernel
theorem dL_law_375 : decode code 375 = .ok (.invokevirtual 40, 3) := by decide +kernel
theorem dL_law_378 : decode code 378 = .ok (.pop, 1) := by decide +kernel
theorem dL_law_379 : decode code 379 = .ok (.goto 990, 3) := by decide +kernel
theorem dL_law_382 : decode code 382 = .ok (.aload_n 1, 1) := by decide +kernel
theorem dL_law_383 : decode code 383 = .ok (.aload_n 0, 1) := by decide +kernel
theorem dL_law_384 : decode code 384 = .ok (.iload_n 3, 1) := by decide +kernel
theorem dL_law_385 : decode code 385 = .ok (.iconst 1, 1) := by decide +kernel
theorem dL_law_386 : decode code 386 = .ok (.iadd, 1) := by decide +kernel
theorem dL_law_387 : decode code 387 = .ok (.iaload, 1) := by decide +kernel
theorem dL_law_388 : decode code 388 = .ok (.aload_n 0, 1) := by decide +kernel
theorem dL_law_389 : decode code 389 = .ok (.iload_n 3, 1) := by decide +kernel
theorem dL_law_390 : decode code 390 = .ok (.iconst 2, 1) := by decide +kernel
theorem dL_law_391 : decode code 391 = .ok (.iadd, 1) := by decide +kernel
theorem dL_law_392 : decode code 392 = .ok (.iaload, 1) := by decide +kernel
theorem dL_law_393 : decode code 393 = .ok (.invokevirtual 41, 3) := by decide +kernel
theorem dL_law_396 : decode code 396 = .ok (.pop, 1) := by decide +kernel
theorem dL_law_397 : decode code 397 = .ok (.aload_n 2, 1) := by decide +kernel
theorem dL_law_398 : decode code 398 = .ok (.aload_n 0, 1) := by decide +kernel
theorem dL_law_399 : decode code 399 = .ok (.iload_n 3, 1) := by decide +kernel
theorem dL_law_400 : decode code 400 = .ok (.iconst 1, 1) := by decide +kernel
theorem dL_law_401 : decode code 401 = .ok (.iadd, 1) := by decide +kernel
theorem dL_law_402 : decode code 402 = .ok (.iaload, 1) := by decide +kernel
theorem dL_law_403 : decode code 403 = .ok (.aload_n 0, 1) := by decide +kernel
theorem dL_law_404 : decode code 404 = .ok (.iload_n 3, 1) := by decide +kernel
theorem dL_law_405 : decode code 405 = .ok (.iconst 2, 1) := by decide +kernel
theorem dL_law_406 : decode code 406 = .ok (.iadd, 1) := by decide +kernel
theorem dL_law_407 : decode code 407 = .ok (.iaload, 1) := by decide +kernel
theorem dL_law_408 : decode code 408 = .ok (.invokevirtual 44, 3) := by decide +kernel
theorem dL_law_411 : decode code 411 = .ok (.pop, 1) := by decide +kernel
theorem dL_law_412 : decode code 412 = .ok (.goto 957, 3) := by decide +kernel
theorem dL_law_415 : decode code 415 = .ok (.aload_n 1, 1) := by decide +kernel
theorem dL_law_416 : decode code 416 = .ok (.aload_n 0, 1) := by decide +kernel
theorem dL_law_417 : decode code 417 = .ok (.iload_n 3, 1) := by decide +kernel
theorem dL_law_418 : decode code 418 = .ok (.iconst 1, 1) := by decide +kernel
theorem dL_law_419 : decode code 419 = .ok (.iadd, 1) := by decide +kernel
theorem dL_law_420 : decode code 420 = .ok (.iaload, 1) := by decide +kernel
theorem dL_law_421 : decode code 421 = .ok (.aload_n 0, 1) := by decide +kernel
theorem dL_law_422 : decode code 422 = .ok (.iload_n 3, 1) := by decide +kernel
theorem dL_law_423 : decode code 423 = .ok (.iconst 2, 1) := by decide +kernel
theorem dL_law_424 : decode code 424 = .ok (.iadd, 1) := by decide +kernel
theorem dL_law_425 : decode code 425 = .ok (.iaload, 1) := by decide +kernel
theorem dL_law_426 : decode code 426 = .ok (.aload_n 0, 1) := by decide +kernel
theorem dL_law_427 : decode code 427 = .ok (.iload_n 3, 1) := by decide +kernel
theorem dL_law_428 : decode code 428 = .ok (.iconst 3, 1) := by decide +kernel
theorem dL_law_429 : decode code 429 = .ok (.iadd, 1) := by decide +kernel
theorem dL_law_430 : decode code 430 = .ok (.iaload, 1) := by decide +kernel
theorem dL_law_431 : decode code 431 = .ok (.aload_n 0, 1) := by decide +kernel
theorem dL_law_432 : decode code 432 = .ok (.iload_n 3, 1) := by decide +kernel
theorem dL_law_433 : decode code 433 = .ok (.iconst 4, 1) := by decide +kernel
theorem dL_law_434 : decode code 434 = .ok (.iadd, 1) := by decide +kernel
theorem dL_law_435 : decode code 435 = .ok (.iaload, 1) := by decide +kernel
theorem dL_law_436 : decode code 436 = .ok (.invokevirtual 45, 3) := by decide +kernel
theorem dL_law_439 : decode code 439 = .ok (.pop, 1) := by decide +kernel
theorem dL_law_440 : decode code 440 = .ok (.aload_n 2, 1) := by decide +kernel
theorem dL_law_441 : decode code 441 = .ok (.aload_n 0, 1) := by decide +kernel
theorem dL_law_442 : decode code 442 = .ok (.iload_n 3, 1) := by decide +kernel
theorem dL_law_443 : decode code 443 = .ok (.iconst 1, 1) := by decide +kernel
theorem dL_law_444 : decode code 444 = .ok (.iadd, 1) := by decide +kernel
theorem dL_law_445 : decode code 445 = .ok (.iaload, 1) := by decide +kernel
theorem dL_law_446 : decode code 446 = .ok (.aload_n 0, 1) := by decide +kernel
theorem dL_law_447 : decode code 447 = .ok (.iload_n 3, 1) := by decide +kernel
theorem dL_law_448 : decode code 448 = .ok (.iconst 2, 1) := by decide +kernel
theorem dL_law_449 : decode code 449 = .ok (.iadd, 1) := by decide +kernel
theorem dL_law_450 : decode code 450 = .ok (.iaload, 1) := by decide +kernel
theorem dL_law_451 : decode code 451 = .ok (.aload_n 0, 1) := by decide +kernel
theorem dL_law_452 : decode code 452 = .ok (.iload_n 3, 1) := by decide +kernel
theorem dL_law_453 : decode code 453 = .ok (.iconst 3, 1) := by decide +kernel
theorem dL_law_454 : decode code 454 = .ok (.iadd, 1) := by decide +kernel
theorem dL_law_455 : decode code 455 = .ok (.iaload, 1) := by decide +kernel
theorem dL_law_456 : decode code 456 = .ok (.aload_n 0, 1) := by decide +kernel
theorem dL_law_457 : decode code 457 = .ok (.iload_n 3, 1) := by decide +kernel
theorem dL_law_458 : decode code 458 = .ok (.iconst 4, 1) := by decide +kernel
theorem dL_law_459 : decode code 459 = .ok (.iadd, 1) := by decide +kernel
theorem dL_law_460 : decode code 460 = .ok (.iaload, 1) := by decide +kernel
theorem dL_law_461 : decode code 461 = .ok (.invokevirtual 49, 3) := by decide +kernel
theorem dL_law_464 : decode code 464 = .ok (.pop, 1) := by decide +kernel
theorem dL_law_465 : decode code 465 = .ok (.goto 904, 3) := by decide +kernel
theorem dL_law_468 : decode code 468 = .ok (.aload_n 1, 1) := by decide +kernel
theorem dL_law_469 : decode code 469 = .ok (.aload_n 0, 1) := by decide +kernel
theorem dL_law_470 : decode code 470 = .ok (.iload_n 3, 1) := by decide +kernel
theorem dL_law_471 : decode code 471 = .ok (.iconst 1, 1) := by decide +kernel
theorem dL_law_472 : decode code 472 = .ok (.iadd, 1) := by decide +kernel
theorem dL_law_473 : decode code 473 = .ok (.iaload, 1) := by decide +kernel
theorem dL_law_474 : decode code 474 = .ok (.aload_n 0, 1) := by decide +kernel
theorem dL_law_475 : decode code 475 = .ok (.iload_n 3, 1) := by decide +kernel
theorem dL_law_476 : decode code 476 = .ok (.iconst 2, 1) := by decide +kernel
theorem dL_law_477 : decode code 477 = .ok (.iadd, 1) := by decide +kernel
theorem dL_law_478 : decode code 478 = .ok (.iaload, 1) := by decide +kernel
theorem dL_law_479 : decode code 479 = .ok (.aload_n 0, 1) := by decide +kernel
theorem dL_law_480 : decode code 480 = .ok (.iload_n 3, 1) := by decide +kernel
theorem dL_law_481 : decode code 481 = .ok (.iconst 3, 1) := by decide +kernel
theorem dL_law_482 : decode code 482 = .ok (.iadd, 1) := by decide +kernel
theorem dL_law_483 : decode code 483 = .ok (.iaload, 1) := by decide +kernel
theorem dL_law_484 : decode code 484 = .ok (.invokevirtual 50, 3) := by decide +kernel
theorem dL_law_487 : decode code 487 = .ok (.pop, 1) := by decide +kernel
theorem dL_law_488 : decode code 488 = .ok (.aload_n 2, 1) := by decide +kernel
theorem dL_law_489 : decode code 489 = .ok (.aload_n 0, 1) := by decide +kernel
theorem dL_law_490 : decode code 490 = .ok (.iload_n 3, 1) := by decide +kernel
theorem dL_law_491 : decode code 491 = .ok (.iconst 1, 1) := by decide +kernel
theorem dL_law_492 : decode code 492 = .ok (.iadd, 1) := by decide +kernel
theorem dL_law_493 : decode code 493 = .ok (.iaload, 1) := by decide +kernel
theorem dL_law_494 : decode code 494 = .ok (.aload_n 0, 1) := by decide +kernel
theorem dL_law_495 : decode code 495 = .ok (.iload_n 3, 1) := by decide +kernel
theorem dL_law_496 : decode code 496 = .ok (.iconst 2, 1) := by decide +kernel
theorem dL_law_497 : decode code 497 = .ok (.iadd, 1) := by decide +kernel
theorem dL_law_498 : decode code 498 = .ok (.iaload, 1) := by decide +kernel
theorem dL_law_499 : decode code 499 = .ok (.aload_n 0, 1) := by decide +kernel
theorem dL_law_500 : decode code 500 = .ok (.iload_n 3, 1) := by decide +kernel
theorem dL_law_501 : decode code 501 = .ok (.iconst 3, 1) := by decide +kernel
theorem dL_law_502 : decode code 502 = .ok (.iadd, 1) := by decide +kernel
theorem dL_law_503 : decode code 503 = .ok (.iaload, 1) := by decide +kernel
theorem dL_law_504 : decode code 504 = .ok (.invokevirtual 53, 3) := by decide +kernel
theorem dL_law_507 : decode code 507 = .ok (.pop, 1) := by decide +kernel
theorem dL_law_508 : decode code 508 = .ok (.goto 861, 3) := by decide +kernel
theorem dL_law_511 : decode code 511 = .ok (.aload_n 1, 1) := by decide +kernel
theorem dL_law_512 : decode code 512 = .ok (.aload_n 0, 1) := by decide +kernel
theorem dL_law_513 : decode code 513 = .ok (.iload_n 3, 1) := by decide +kernel
theorem dL_law_514 : decode code 514 = .ok (.iconst 1, 1) := by decide +kernel
theorem dL_law_515 : decode code 515 = .ok (.iadd, 1) := by decide +kernel
theorem dL_law_516 : decode code 516 = .ok (.iaload, 1) := by decide +kernel
theorem dL_law_517 : decode code 517 = .ok (.aload_n 0, 1) := by decide +kernel
theorem dL_law_518 : decode code 518 = .ok (.iload_n 3, 1) := by decide +kernel
theorem dL_law_519 : decode code 519 = .ok (.iconst 2, 1) := by decide +kernel
theorem dL_law_520 : decode code 520 = .ok (.iadd, 1) := by decide +kernel
theorem dL_law_521 : decode code 521 = .ok (.iaload, 1) := by decide +kernel
theorem dL_law_522 : decode code 522 = .ok (.aload_n 0, 1) := by decide +kernel
theorem dL_law_523 : decode code 523 = .ok (.iload_n 3, 1) := by decide +kernel
theorem dL_law_524 : decode code 524 = .ok (.iconst 3, 1) := by decide +kernel
theorem dL_law_525 : decode code 525 = .ok (.iadd, 1) := by decide +kernel
theorem dL_law_526 : decode code 526 = .ok (.iaload, 1) := by decide +kernel
theorem dL_law_527 : decode code 527 = .ok (.invokevirtual 54, 3) := by decide +kernel
theorem dL_law_530 : decode code 530 = .ok (.pop, 1) := by decide +kernel
theorem dL_law_531 : decode code 531 = .ok (.aload_n 2, 1) := by decide +kernel
theorem dL_law_532 : decode code 532 = .ok (.aload_n 0, 1) := by decide +kernel
theorem dL_law_533 : decode code 533 = .ok (.iload_n 3, 1) := by decide +kernel
theorem dL_law_534 : decode code 534 = .ok (.iconst 1, 1) := by decide +kernel
theorem dL_law_535 : decode code 535 = .ok (.iadd, 1) := by decide +kernel
theorem dL_law_536 : decode code 536 = .ok (.iaload, 1) := by decide +kernel
theorem dL_law_537 : decode code 537 = .ok (.aload_n 0, 1) := by decide +kernel
theorem dL_law_538 : decode code 538 = .ok (.iload_n 3, 1) := by decide +kernel
theorem dL_law_539 : decode code 539 = .ok (.iconst 2, 1) := by decide +kernel
theorem dL_law_540 : decode code 540 = .ok (.iadd, 1) := by decide +kernel
theorem dL_law_541 : decode code 541 = .ok (.iaload, 1) := by decide +kernel
theorem dL_law_542 : decode code 542 = .ok (.aload_n 0, 1) := by decide +kernel
theorem dL_law_543 : decode code 543 = .ok (.iload_n 3, 1) := by decide +kernel
theorem dL_law_544 : decode code 544 = .ok (.iconst 3, 1) := by decide +kernel
theorem dL_law_545 : decode code 545 = .ok (.iadd, 1) := by decide +kernel
theorem dL_law_546 : decode code 546 = .ok (.iaload, 1) := by decide +kernel
theorem dL_law_547 : decode code 547 = .ok (.invokevirtual 57, 3) := by decide +kernel
theorem dL_law_550 : decode code 550 = .ok (.pop, 1) := by decide +kernel
theorem dL_law_551 : decode code 551 = .ok (.goto 818, 3) := by decide +kernel
theorem dL_law_554 : decode code 554 = .ok (.aload_n 1, 1) := by decide +kernel
theorem dL_law_555 : decode code 555 = .ok (.aload_n 0, 1) := by decide +kernel
theorem dL_law_556 : decode code 556 = .ok (.iload_n 3, 1) := by decide +kernel
theorem dL_law_557 : decode code 557 = .ok (.iconst 1, 1) := by decide +kernel
theorem dL_law_558 : decode code 558 = .ok (.iadd, 1) := by decide +kernel
theorem dL_law_559 : decode code 559 = .ok (.iaload, 1) := by decide +kernel
theorem dL_law_560 : decode code 560 = .ok (.aload_n 0, 1) := by decide +kernel
theorem dL_law_561 : decode code 561 = .ok (.iload_n 3, 1) := by decide +kernel
theorem dL_law_562 : decode code 562 = .ok (.iconst 2, 1) := by decide +kernel
theorem dL_law_563 : decode code 563 = .ok (.iadd, 1) := by decide +kernel
theorem dL_law_564 : decode code 564 = .ok (.iaload, 1) := by decide +kernel
theorem dL_law_565 : decode code 565 = .ok (.aload_n 0, 1) := by decide +kernel
theorem dL_law_566 : decode code 566 = .ok (.iload_n 3, 1) := by decide +kernel
theorem dL_law_567 : decode code 567 = .ok (.iconst 3, 1) := by decide +kernel
theorem dL_law_568 : decode code 568 = .ok (.iadd, 1) := by decide +kernel
theorem dL_law_569 : decode code 569 = .ok (.iaload, 1) := by decide +kernel
theorem dL_law_570 : decode code 570 = .ok (.ifCond .eq 7, 3) := by decide +kernel
theorem dL_law_573 : decode code 573 = .ok (.iconst 1, 1) := by decide +kernel
theorem dL_law_574 : decode code 574 = .ok (.goto 4, 3) := by decide +kernel
theorem dL_law_577 : decode code 577 = .ok (.iconst 0, 1) := by decide +kernel
theorem dL_law_578 : decode code 578 = .ok (.invokevirtual 58, 3) := by decide +kernel
theorem dL_law_581 : decode code 581 = .ok (.pop, 1) := by decide +kernel
theorem dL_law_582 : decode code 582 = .ok (.aload_n 2, 1) := by decide +kernel
theorem dL_law_583 : decode code 583 = .ok (.aload_n 0, 1) := by decide +kernel
theorem dL_law_584 : decode code 584 = .ok (.iload_n 3, 1) := by decide +kernel
theorem dL_law_585 : decode code 585 = .ok (.iconst 1, 1) := by decide +kernel
theorem dL_law_586 : decode code 586 = .ok (.iadd, 1) := by decide +kernel
theorem dL_law_587 : decode code 587 = .ok (.iaload, 1) := by decide +kernel
theorem dL_law_588 : decode code 588 = .ok (.aload_n 0, 1) := by decide +kernel
theorem dL_law_589 : decode code 589 = .ok (.iload_n 3, 1) := by decide +kernel
theorem dL_law_590 : decode code 590 = .ok (.iconst 2, 1) := by decide +kernel
theorem dL_law_591 : decode code 591 = .ok (.iadd, 1) := by decide +kernel
theorem dL_law_592 : decode code 592 = .ok (.iaload, 1) := by decide +kernel
theorem dL_law_593 : decode code 593 = .ok (.aload_n 0, 1) := by decide +kernel
theorem dL_law_594 : decode code 594 = .ok (.iload_n 3, 1) := by decide +kernel
theorem dL_law_595 : decode code 595 = .ok (.iconst 3, 1) := by decide +kernel
theorem dL_law_596 : decode code 596 = .ok (.iadd, 1) := by decide +kernel
theorem dL_law_597 : decode code 597 = .ok (.iaload, 1) := by decide +kernel
theorem dL_law_598 : decode code 598 = .ok (.ifCond .eq 7, 3) := by decide +kernel
theorem dL_law_601 : decode code 601 = .ok (.iconst 1, 1) := by decide +kernel
theorem dL_law_602 : decode code 602 = .ok (.goto 4, 3) := by decide +kernel
theorem dL_law_605 : decode code 605 = .ok (.iconst 0, 1) := by decide +kernel
theorem dL_law_606 : decode code 606 = .ok (.invokevirtual 62, 3) := by decide +kernel
theorem dL_law_609 : decode code 609 = .ok (.pop, 1) := by decide +kernel
theorem dL_law_610 : decode code 610 = .ok (.goto 759, 3) := by decide +kernel
theorem dL_law_613 : decode code 613 = .ok (.aload_n 1, 1) := by decide +kernel
theorem dL_law_614 : decode code 614 = .ok (.aload_n 0, 1) := by decide +kernel
theorem dL_law_615 : decode code 615 = .ok (.iload_n 3, 1) := by decide +kernel
theorem dL_law_616 : decode code 616 = .ok (.iconst 1, 1) := by decide +kernel
theorem dL_law_617 : decode code 617 = .ok (.iadd, 1) := by decide +kernel
theorem dL_law_618 : decode code 618 = .ok (.iaload, 1) := by decide +kernel
theorem dL_law_619 : decode code 619 = .ok (.aload_n 0, 1) := by decide +kernel
theorem dL_law_620 : decode code 620 = .ok (.iload_n 3, 1) := by decide +kernel
theorem dL_law_621 : decode code 621 = .ok (.iconst 2, 1) := by decide +kernel
theorem dL_law_622 : decode code 622 = .ok (.iadd, 1) := by decide +kernel
theorem dL_law_623 : decode code 623 = .ok (.iaload, 1) := by decide +kernel
theorem dL_law_624 : decode code 624 = .ok (.aload_n 0, 1) := by decide +kernel
theorem dL_law_625 : decode code 625 = .ok (.iload_n 3, 1) := by decide +kernel
theorem dL_law_626 : decode code 626 = .ok (.iconst 3, 1) := by decide +kernel
theorem dL_law_627 : decode code 627 = .ok (.iadd, 1) := by decide +kernel
theorem dL_law_628 : decode code 628 = .ok (.iaload, 1) := by decide +kernel
theorem dL_law_629 : decode code 629 = .ok (.aload_n 0, 1) := by decide +kernel
theorem dL_law_630 : decode code 630 = .ok (.iload_n 3, 1) := by decide +kernel
theorem dL_law_631 : decode code 631 = .ok (.iconst 4, 1) := by decide +kernel
theorem dL_law_632 : decode code 632 = .ok (.iadd, 1) := by decide +kernel
theorem dL_law_633 : decode code 633 = .ok (.iaload, 1) := by decide +kernel
theorem dL_law_634 : decode code 634 = .ok (.invokevirtual 63, 3) := by decide +kernel
theorem dL_law_637 : decode code 637 = .ok (.pop, 1) := by decide +kernel
theorem dL_law_638 : decode code 638 = .ok (.aload_n 2, 1) := by decide +kernel
theorem dL_law_639 : decode code 639 = .ok (.aload_n 0, 1) := by decide +kernel
theorem dL_law_640 : decode code 640 = .ok (.iload_n 3, 1) := by decide +kernel
theorem dL_law_641 : decode code 641 = .ok (.iconst 1, 1) := by decide +kernel
theorem dL_law_642 : decode code 642 = .ok (.iadd, 1) := by decide +kernel
theorem dL_law_643 : decode code 643 = .ok (.iaload, 1) := by decide +kernel
theorem dL_law_644 : decode code 644 = .ok (.aload_n 0, 1) := by decide +kernel
theorem dL_law_645 : decode code 645 = .ok (.iload_n 3, 1) := by decide +kernel
theorem dL_law_646 : decode code 646 = .ok (.iconst 2, 1) := by decide +kernel
theorem dL_law_647 : decode code 647 = .ok (.iadd, 1) := by decide +kernel
theorem dL_law_648 : decode code 648 = .ok (.iaload, 1) := by decide +kernel
theorem dL_law_649 : decode code 649 = .ok (.aload_n 0, 1) := by decide +kernel
theorem dL_law_650 : decode code 650 = .ok (.iload_n 3, 1) := by decide +kernel
theorem dL_law_651 : decode code 651 = .ok (.iconst 3, 1) := by decide +kernel
theorem dL_law_652 : decode code 652 = .ok (.iadd, 1) := by decide +kernel
theorem dL_law_653 : decode code 653 = .ok (.iaload, 1) := by decide +kernel
theorem dL_law_654 : decode code 654 = .ok (.aload_n 0, 1) := by decide +kernel
theorem dL_law_655 : decode code 655 = .ok (.iload_n 3, 1) := by decide +kernel
theorem dL_law_656 : decode code 656 = .ok (.iconst 4, 1) := by decide +kernel
theorem dL_law_657 : decode code 657 = .ok (.iadd, 1) := by decide +kernel
theorem dL_law_658 : decode code 658 = .ok (.iaload, 1) := by decide +kernel
theorem dL_law_659 : decode code 659 = .ok (.invokevirtual 66, 3) := by decide +kernel
theorem dL_law_662 : decode code 662 = .ok (.pop, 1) := by decide +kernel
theorem dL_law_663 : decode code 663 = .ok (.goto 706, 3) := by decide +kernel
theorem dL_law_666 : decode code 666 = .ok (.aload_n 1, 1) := by decide +kernel
theorem dL_law_667 : decode code 667 = .ok (.aload_n 0, 1) := by decide +kernel
theorem dL_law_668 : decode code 668 = .ok (.iload_n 3, 1) := by decide +kernel
theorem dL_law_669 : decode code 669 = .ok (.iconst 1, 1) := by decide +kernel
theorem dL_law_670 : decode code 670 = .ok (.iadd, 1) := by decide +kernel
theorem dL_law_671 : decode code 671 = .ok (.iaload, 1) := by decide +kernel
theorem dL_law_672 : decode code 672 = .ok (.aload_n 0, 1) := by decide +kernel
theorem dL_law_673 : decode code 673 = .ok (.iload_n 3, 1) := by decide +kernel
theorem dL_law_674 : decode code 674 = .ok (.iconst 2, 1) := by decide +kernel
theorem dL_law_675 : decode code 675 = .ok (.iadd, 1) := by decide +kernel
theorem dL_law_676 : decode code 676 = .ok (.iaload, 1) := by decide +kernel
theorem dL_law_677 : decode code 677 = .ok (.aload_n 0, 1) := by decide +kernel
theorem dL_law_678 : decode code 678 = .ok (.iload_n 3, 1) := by decide +kernel
theorem dL_law_679 : decode code 679 = .ok (.iconst 3, 1) := by decide +kernel
theorem dL_law_680 : decode code 680 = .ok (.iadd, 1) := by decide +kernel
theorem dL_law_681 : decode code 681 = .ok (.iaload, 1) := by decide +kernel
theorem dL_law_682 : decode code 682 = .ok (.aload_n 0, 1) := by decide +kernel
theorem dL_law_683 : decode code 683 = .ok (.iload_n 3, 1) := by decide +kernel
theorem dL_law_684 : decode code 684 = .ok (.iconst 4, 1) := by decide +kernel
theorem dL_law_685 : decode code 685 = .ok (.iadd, 1) := by decide +kernel
theorem dL_law_686 : decode code 686 = .ok (.iaload, 1) := by decide +kernel
theorem dL_law_687 : decode code 687 = .ok (.invokevirtual 67, 3) := by decide +kernel
theorem dL_law_690 : decode code 690 = .ok (.pop, 1) := by decide +kernel
theorem dL_law_691 : decode code 691 = .ok (.aload_n 2, 1) := by decide +kernel
theorem dL_law_692 : decode code 692 = .ok (.aload_n 0, 1) := by decide +kernel
theorem dL_law_693 : decode code 693 = .ok (.iload_n 3, 1) := by decide +kernel
theorem dL_law_694 : decode code 694 = .ok (.iconst 1, 1) := by decide +kernel
theorem dL_law_695 : decode code 695 = .ok (.iadd, 1) := by decide +kernel
theorem dL_law_696 : decode code 696 = .ok (.iaload, 1) := by decide +kernel
theorem dL_law_697 : decode code 697 = .ok (.aload_n 0, 1) := by decide +kernel
theorem dL_law_698 : decode code 698 = .ok (.iload_n 3, 1) := by decide +kernel
theorem dL_law_699 : decode code 699 = .ok (.iconst 2, 1) := by decide +kernel
theorem dL_law_700 : decode code 700 = .ok (.iadd, 1) := by decide +kernel
theorem dL_law_701 : decode code 701 = .ok (.iaload, 1) := by decide +kernel
theorem dL_law_702 : decode code 702 = .ok (.aload_n 0, 1) := by decide +kernel
theorem dL_law_703 : decode code 703 = .ok (.iload_n 3, 1) := by decide +kernel
theorem dL_law_704 : decode code 704 = .ok (.iconst 3, 1) := by decide +kernel
theorem dL_law_705 : decode code 705 = .ok (.iadd, 1) := by decide +kernel
theorem dL_law_706 : decode code 706 = .ok (.iaload, 1) := by decide +kernel
theorem dL_law_707 : decode code 707 = .ok (.aload_n 0, 1) := by decide +kernel
theorem dL_law_708 : decode code 708 = .ok (.iload_n 3, 1) := by decide +kernel
theorem dL_law_709 : decode code 709 = .ok (.iconst 4, 1) := by decide +kernel
theorem dL_law_710 : decode code 710 = .ok (.iadd, 1) := by decide +kernel
theorem dL_law_711 : decode code 711 = .ok (.iaload, 1) := by decide +kernel
theorem dL_law_712 : decode code 712 = .ok (.invokevirtual 70, 3) := by decide +kernel
theorem dL_law_715 : decode code 715 = .ok (.pop, 1) := by decide +kernel
theorem dL_law_716 : decode code 716 = .ok (.goto 653, 3) := by decide +kernel
theorem dL_law_719 : decode code 719 = .ok (.aload_n 1, 1) := by decide +kernel
theorem dL_law_720 : decode code 720 = .ok (.aload_n 0, 1) := by decide +kernel
theorem dL_law_721 : decode code 721 = .ok (.iload_n 3, 1) := by decide +kernel
theorem dL_law_722 : decode code 722 = .ok (.iconst 1, 1) := by decide +kernel
theorem dL_law_723 : decode code 723 = .ok (.iadd, 1) := by decide +kernel
theorem dL_law_724 : decode code 724 = .ok (.iaload, 1) := by decide +kernel
theorem dL_law_725 : decode code 725 = .ok (.aload_n 0, 1) := by decide +kernel
theorem dL_law_726 : decode code 726 = .ok (.iload_n 3, 1) := by decide +kernel
theorem dL_law_727 : decode code 727 = .ok (.iconst 2, 1) := by decide +kernel
theorem dL_law_728 : decode code 728 = .ok (.iadd, 1) := by decide +kernel
theorem dL_law_729 : decode code 729 = .ok (.iaload, 1) := by decide +kernel
theorem dL_law_730 : decode code 730 = .ok (.aload_n 0, 1) := by decide +kernel
theorem dL_law_731 : decode code 731 = .ok (.iload_n 3, 1) := by decide +kernel
theorem dL_law_732 : decode code 732 = .ok (.iconst 3, 1) := by decide +kernel
theorem dL_law_733 : decode code 733 = .ok (.iadd, 1) := by decide +kernel
theorem dL_law_734 : decode code 734 = .ok (.iaload, 1) := by decide +kernel
theorem dL_law_735 : decode code 735 = .ok (.invokevirtual 71, 3) := by decide +kernel
theorem dL_law_738 : decode code 738 = .ok (.pop, 1) := by decide +kernel
theorem dL_law_739 : decode code 739 = .ok (.aload_n 2, 1) := by decide +kernel
theorem dL_law_740 : decode code 740 = .ok (.aload_n 0, 1) := by decide +kernel
theorem dL_law_741 : decode code 741 = .ok (.iload_n 3, 1) := by decide +kernel
theorem dL_law_742 : decode code 742 = .ok (.iconst 1, 1) := by decide +kernel
theorem dL_law_743 : decode code 743 = .ok (.iadd, 1) := by decide +kernel
theorem dL_law_744 : decode code 744 = .ok (.iaload, 1) := by decide +kernel
theorem dL_law_745 : decode code 745 = .ok (.aload_n 0, 1) := by decide +kernel
theorem dL_law_746 : decode code 746 = .ok (.iload_n 3, 1) := by decide +kernel
theorem dL_law_747 : decode code 747 = .ok (.iconst 2, 1) := by decide +kernel
theorem dL_law_748 : decode code 748 = .ok (.iadd, 1) := by decide +kernel
theorem dL_law_749 : decode code 749 = .ok (.iaload, 1) := by decide +kernel
theorem dL_law_750 : decode code 750 = .ok (.aload_n 0, 1) := by decide +kernel
theorem dL_law_751 : decode code 751 = .ok (.iload_n 3, 1) := by decide +kernel
theorem dL_law_752 : decode code 752 = .ok (.iconst 3, 1) := by decide +kernel
theorem dL_law_753 : decode code 753 = .ok (.iadd, 1) := by decide +kernel
theorem dL_law_754 : decode code 754 = .ok (.iaload, 1) := by decide +kernel
theorem dL_law_755 : decode code 755 = .ok (.invokevirtual 74, 3) := by decide +kernel
theorem dL_law_758 : decode code 758 = .ok (.pop, 1) := by decide +kernel
theorem dL_law_759 : decode code 759 = .ok (.goto 610, 3) := by decide +kernel
theorem dL_law_762 : decode code 762 = .ok (.aload_n 1, 1) := by decide +kernel
theorem dL_law_763 : decode code 763 = .ok (.aload_n 0, 1) := by decide +kernel
theorem dL_law_764 : decode code 764 = .ok (.iload_n 3, 1) := by decide +kernel
theorem dL_law_765 : decode code 765 = .ok (.iconst 1, 1) := by decide +kernel
theorem dL_law_766 : decode code 766 = .ok (.iadd, 1) := by decide +kernel
theorem dL_law_767 : decode code 767 = .ok (.iaload, 1) := by decide +kernel
theorem dL_law_768 : decode code 768 = .ok (.aload_n 0, 1) := by decide +kernel
theorem dL_law_769 : decode code 769 = .ok (.iload_n 3, 1) := by decide +kernel
theorem dL_law_770 : decode code 770 = .ok (.iconst 2, 1) := by decide +kernel
theorem dL_law_771 : decode code 771 = .ok (.iadd, 1) := by decide +kernel
theorem dL_law_772 : decode code 772 = .ok (.iaload, 1) := by decide +kernel
theorem dL_law_773 : decode code 773 = .ok (.invokevirtual 75, 3) := by decide +kernel
theorem dL_law_776 : decode code 776 = .ok (.pop, 1) := by decide +kernel
theorem dL_law_777 : decode code 777 = .ok (.aload_n 2, 1) := by decide +kernel
theorem dL_law_778 : decode code 778 = .ok (.aload_n 0, 1) := by decide +kernel
theorem dL_law_779 : decode code 779 = .ok (.iload_n 3, 1) := by decide +kernel
theorem dL_law_780 : decode code 780 = .ok (.iconst 1, 1) := by decide +kernel
theorem dL_law_781 : decode code 781 = .ok (.iadd, 1) := by decide +kernel
theorem dL_law_782 : decode code 782 = .ok (.iaload, 1) := by decide +kernel
theorem dL_law_783 : decode code 783 = .ok (.aload_n 0, 1) := by decide +kernel
theorem dL_law_784 : decode code 784 = .ok (.iload_n 3, 1) := by decide +kernel
theorem dL_law_785 : decode code 785 = .ok (.iconst 2, 1) := by decide +kernel
theorem dL_law_786 : decode code 786 = .ok (.iadd, 1) := by decide +kernel
theorem dL_law_787 : decode code 787 = .ok (.iaload, 1) := by decide +kernel
theorem dL_law_788 : decode code 788 = .ok (.invokevirtual 78, 3) := by decide +kernel
theorem dL_law_791 : decode code 791 = .ok (.pop, 1) := by decide +kernel
theorem dL_law_792 : decode code 792 = .ok (.goto 577, 3) := by decide +kernel
theorem dL_law_795 : decode code 795 = .ok (.aload_n 1, 1) := by decide +kernel
theorem dL_law_796 : decode code 796 = .ok (.aload_n 0, 1) := by decide +kernel
theorem dL_law_797 : decode code 797 = .ok (.iload_n 3, 1) := by decide +kernel
theorem dL_law_798 : decode code 798 = .ok (.iconst 1, 1) := by decide +kernel
theorem dL_law_799 : decode code 799 = .ok (.iadd, 1) := by decide +kernel
theorem dL_law_800 : decode code 800 = .ok (.iaload, 1) := by decide +kernel
theorem dL_law_801 : decode code 801 = .ok (.aload_n 0, 1) := by decide +kernel
theorem dL_law_802 : decode code 802 = .ok (.iload_n 3, 1) := by decide +kernel
theorem dL_law_803 : decode code 803 = .ok (.iconst 2, 1) := by decide +kernel
theorem dL_law_804 : decode code 804 = .ok (.iadd, 1) := by decide +kernel
theorem dL_law_805 : decode code 805 = .ok (.iaload, 1) := by decide +kernel
theorem dL_law_806 : decode code 806 = .ok (.aload_n 0, 1) := by decide +kernel
theorem dL_law_807 : decode code 807 = .ok (.iload_n 3, 1) := by decide +kernel
theorem dL_law_808 : decode code 808 = .ok (.iconst 3, 1) := by decide +kernel
theorem dL_law_809 : decode code 809 = .ok (.iadd, 1) := by decide +kernel
theorem dL_law_810 : decode code 810 = .ok (.iaload, 1) := by decide +kernel
theorem dL_law_811 : decode code 811 = .ok (.invokevirtual 79, 3) := by decide +kernel
theorem dL_law_814 : decode code 814 = .ok (.pop, 1) := by decide +kernel
theorem dL_law_815 : decode code 815 = .ok (.aload_n 2, 1) := by decide +kernel
theorem dL_law_816 : decode code 816 = .ok (.aload_n 0, 1) := by decide +kernel
theorem dL_law_817 : decode code 817 = .ok (.iload_n 3, 1) := by decide +kernel
theorem dL_law_818 : decode code 818 = .ok (.iconst 1, 1) := by decide +kernel
theorem dL_law_819 : decode code 819 = .ok (.iadd, 1) := by decide +kernel
theorem dL_law_820 : decode code 820 = .ok (.iaload, 1) := by decide +kernel
theorem dL_law_821 : decode code 821 = .ok (.aload_n 0, 1) := by decide +kernel
theorem dL_law_822 : decode code 822 = .ok (.iload_n 3, 1) := by decide +kernel
theorem dL_law_823 : decode code 823 = .ok (.iconst 2, 1) := by decide +kernel
theorem dL_law_824 : decode code 824 = .ok (.iadd, 1) := by decide +kernel
theorem dL_law_825 : decode code 825 = .ok (.iaload, 1) := by decide +kernel
theorem dL_law_826 : decode code 826 = .ok (.aload_n 0, 1) := by decide +kernel
theorem dL_law_827 : decode code 827 = .ok (.iload_n 3, 1) := by decide +kernel
theorem dL_law_828 : decode code 828 = .ok (.iconst 3, 1) := by decide +kernel
theorem dL_law_829 : decode code 829 = .ok (.iadd, 1) := by decide +kernel
theorem dL_law_830 : decode code 830 = .ok (.iaload, 1) := by decide +kernel
theorem dL_law_831 : decode code 831 = .ok (.invokevirtual 82, 3) := by decide +kernel
theorem dL_law_834 : decode code 834 = .ok (.pop, 1) := by decide +kernel
theorem dL_law_835 : decode code 835 = .ok (.goto 534, 3) := by decide +kernel
theorem dL_law_838 : decode code 838 = .ok (.aload_n 1, 1) := by decide +kernel
theorem dL_law_839 : decode code 839 = .ok (.aload_n 0, 1) := by decide +kernel
theorem dL_law_840 : decode code 840 = .ok (.iload_n 3, 1) := by decide +kernel
theorem dL_law_841 : decode code 841 = .ok (.iconst 1, 1) := by decide +kernel
theorem dL_law_842 : decode code 842 = .ok (.iadd, 1) := by decide +kernel
theorem dL_law_843 : decode code 843 = .ok (.iaload, 1) := by decide +kernel
theorem dL_law_844 : decode code 844 = .ok (.aload_n 0, 1) := by decide +kernel
theorem dL_law_845 : decode code 845 = .ok (.iload_n 3, 1) := by decide +kernel
theorem dL_law_846 : decode code 846 = .ok (.iconst 2, 1) := by decide +kernel
theorem dL_law_847 : decode code 847 = .ok (.iadd, 1) := by decide +kernel
theorem dL_law_848 : decode code 848 = .ok (.iaload, 1) := by decide +kernel
theorem dL_law_849 : decode code 849 = .ok (.aload_n 0, 1) := by decide +kernel
theorem dL_law_850 : decode code 850 = .ok (.iload_n 3, 1) := by decide +kernel
theorem dL_law_851 : decode code 851 = .ok (.iconst 3, 1) := by decide +kernel
theorem dL_law_852 : decode code 852 = .ok (.iadd, 1) := by decide +kernel
theorem dL_law_853 : decode code 853 = .ok (.iaload, 1) := by decide +kernel
theorem dL_law_854 : decode code 854 = .ok (.aload_n 0, 1) := by decide +kernel
theorem dL_law_855 : decode code 855 = .ok (.iload_n 3, 1) := by decide +kernel
theorem dL_law_856 : decode code 856 = .ok (.iconst 4, 1) := by decide +kernel
theorem dL_law_857 : decode code 857 = .ok (.iadd, 1) := by decide +kernel
theorem dL_law_858 : decode code 858 = .ok (.iaload, 1) := by decide +kernel
theorem dL_law_859 : decode code 859 = .ok (.aload_n 0, 1) := by decide +kernel
theorem dL_law_860 : decode code 860 = .ok (.iload_n 3, 1) := by decide +kernel
theorem dL_law_861 : decode code 861 = .ok (.iconst 5, 1) := by decide +kernel
theorem dL_law_862 : decode code 862 = .ok (.iadd, 1) := by decide +kernel
theorem dL_law_863 : decode code 863 = .ok (.iaload, 1) := by decide +kernel
theorem dL_law_864 : decode code 864 = .ok (.invokevirtual 83, 3) := by decide +kernel
theorem dL_law_867 : decode code 867 = .ok (.pop2, 1) := by decide +kernel
theorem dL_law_868 : decode code 868 = .ok (.aload_n 2, 1) := by decide +kernel
theorem dL_law_869 : decode code 869 = .ok (.aload_n 0, 1) := by decide +kernel
theorem dL_law_870 : decode code 870 = .ok (.iload_n 3, 1) := by decide +kernel
theorem dL_law_871 : decode code 871 = .ok (.iconst 1, 1) := by decide +kernel
theorem dL_law_872 : decode code 872 = .ok (.iadd, 1) := by decide +kernel
theorem dL_law_873 : decode code 873 = .ok (.iaload, 1) := by decide +kernel
theorem dL_law_874 : decode code 874 = .ok (.aload_n 0, 1) := by decide +kernel
theorem dL_law_875 : decode code 875 = .ok (.iload_n 3, 1) := by decide +kernel
theorem dL_law_876 : decode code 876 = .ok (.iconst 2, 1) := by decide +kernel
theorem dL_law_877 : decode code 877 = .ok (.iadd, 1) := by decide +kernel
theorem dL_law_878 : decode code 878 = .ok (.iaload, 1) := by decide +kernel
theorem dL_law_879 : decode code 879 = .ok (.aload_n 0, 1) := by decide +kernel
theorem dL_law_880 : decode code 880 = .ok (.iload_n 3, 1) := by decide +kernel
theorem dL_law_881 : decode code 881 = .ok (.iconst 3, 1) := by decide +kernel
theorem dL_law_882 : decode code 882 = .ok (.iadd, 1) := by decide +kernel
theorem dL_law_883 : decode code 883 = .ok (.iaload, 1) := by decide +kernel
theorem dL_law_884 : decode code 884 = .ok (.aload_n 0, 1) := by decide +kernel
theorem dL_law_885 : decode code 885 = .ok (.iload_n 3, 1) := by decide +kernel
theorem dL_law_886 : decode code 886 = .ok (.iconst 4, 1) := by decide +kernel
theorem dL_law_887 : decode code 887 = .ok (.iadd, 1) := by decide +kernel
theorem dL_law_888 : decode code 888 = .ok (.iaload, 1) := by decide +kernel
theorem dL_law_889 : decode code 889 = .ok (.aload_n 0, 1) := by decide +kernel
theorem dL_law_890 : decode code 890 = .ok (.iload_n 3, 1) := by decide +kernel
theorem dL_law_891 : decode code 891 = .ok (.iconst 5, 1) := by decide +kernel
theorem dL_law_892 : decode code 892 = .ok (.iadd, 1) := by decide +kernel
theorem dL_law_893 : decode code 893 = .ok (.iaload, 1) := by decide +kernel
theorem dL_law_894 : decode code 894 = .ok (.invokevirtual 87, 3) := by decide +kernel
theorem dL_law_897 : decode code 897 = .ok (.pop2, 1) := by decide +kernel
theorem dL_law_898 : decode code 898 = .ok (.goto 471, 3) := by decide +kernel
theorem dL_law_901 : decode code 901 = .ok (.aload_n 1, 1) := by decide +kernel
theorem dL_law_902 : decode code 902 = .ok (.aload_n 0, 1) := by decide +kernel
theorem dL_law_903 : decode code 903 = .ok (.iload_n 3, 1) := by decide +kernel
theorem dL_law_904 : decode code 904 = .ok (.iconst 1, 1) := by decide +kernel
theorem dL_law_905 : decode code 905 = .ok (.iadd, 1) := by decide +kernel
theorem dL_law_906 : decode code 906 = .ok (.iaload, 1) := by decide +kernel
theorem dL_law_907 : decode code 907 = .ok (.aload_n 0, 1) := by decide +kernel
theorem dL_law_908 : decode code 908 = .ok (.iload_n 3, 1) := by decide +kernel
theorem dL_law_909 : decode code 909 = .ok (.iconst 2, 1) := by decide +kernel
theorem dL_law_910 : decode code 910 = .ok (.iadd, 1) := by decide +kernel
theorem dL_law_911 : decode code 911 = .ok (.iaload, 1) := by decide +kernel
theorem dL_law_912 : decode code 912 = .ok (.aload_n 0, 1) := by decide +kernel
theorem dL_law_913 : decode code 913 = .ok (.iload_n 3, 1) := by decide +kernel
theorem dL_law_914 : decode code 914 = .ok (.iconst 3, 1) := by decide +kernel
theorem dL_law_915 : decode code 915 = .ok (.iadd, 1) := by decide +kernel
theorem dL_law_916 : decode code 916 = .ok (.iaload, 1) := by decide +kernel
theorem dL_law_917 : decode code 917 = .ok (.aload_n 0, 1) := by decide +kernel
theorem dL_law_918 : decode code 918 = .ok (.iload_n 3, 1) := by decide +kernel
theorem dL_law_919 : decode code 919 = .ok (.iconst 4, 1) := by decide +kernel
theorem dL_law_920 : decode code 920 = .ok (.iadd, 1) := by decide +kernel
theorem dL_law_921 : decode code 921 = .ok (.iaload, 1) := by decide +kernel
theorem dL_law_922 : decode code 922 = .ok (.invokevirtual 88, 3) := by decide +kernel
theorem dL_law_925 : decode code 925 = .ok (.pop, 1) := by decide +kernel
theorem dL_law_926 : decode code 926 = .ok (.aload_n 2, 1) := by decide +kernel
theorem dL_law_927 : decode code 927 = .ok (.aload_n 0, 1) := by decide +kernel
theorem dL_law_928 : decode code 928 = .ok (.iload_n 3, 1) := by decide +kernel
theorem dL_law_929 : decode code 929 = .ok (.iconst 1, 1) := by decide +kernel
theorem dL_law_930 : decode code 930 = .ok (.iadd, 1) := by decide +kernel
theorem dL_law_931 : decode code 931 = .ok (.iaload, 1) := by decide +kernel
theorem dL_law_932 : decode code 932 = .ok (.aload_n 0, 1) := by decide +kernel
theorem dL_law_933 : decode code 933 = .ok (.iload_n 3, 1) := by decide +kernel
theorem dL_law_934 : decode code 934 = .ok (.iconst 2, 1) := by decide +kernel
theorem dL_law_935 : decode code 935 = .ok (.iadd, 1) := by decide +kernel
theorem dL_law_936 : decode code 936 = .ok (.iaload, 1) := by decide +kernel
theorem dL_law_937 : decode code 937 = .ok (.aload_n 0, 1) := by decide +kernel
theorem dL_law_938 : decode code 938 = .ok (.iload_n 3, 1) := by decide +kernel
theorem dL_law_939 : decode code 939 = .ok (.iconst 3, 1) := by decide +kernel
theorem dL_law_940 : decode code 940 = .ok (.iadd, 1) := by decide +kernel
theorem dL_law_941 : decode code 941 = .ok (.iaload, 1) := by decide +kernel
theorem dL_law_942 : decode code 942 = .ok (.aload_n 0, 1) := by decide +kernel
theorem dL_law_943 : decode code 943 = .ok (.iload_n 3, 1) := by decide +kernel
theorem dL_law_944 : decode code 944 = .ok (.iconst 4, 1) := by decide +kernel
theorem dL_law_945 : decode code 945 = .ok (.iadd, 1) := by decide +kernel
theorem dL_law_946 : decode code 946 = .ok (.iaload, 1) := by decide +kernel
theorem dL_law_947 : decode code 947 = .ok (.invokevirtual 91, 3) := by decide +kernel
theorem dL_law_950 : decode code 950 = .ok (.pop, 1) := by decide +kernel
theorem dL_law_951 : decode code 951 = .ok (.goto 418, 3) := by decide +kernel
theorem dL_law_954 : decode code 954 = .ok (.aload_n 1, 1) := by decide +kernel
theorem dL_law_955 : decode code 955 = .ok (.aload_n 0, 1) := by decide +kernel
theorem dL_law_956 : decode code 956 = .ok (.iload_n 3, 1) := by decide +kernel
theorem dL_law_957 : decode code 957 = .ok (.iconst 1, 1) := by decide +kernel
theorem dL_law_958 : decode code 958 = .ok (.iadd, 1) := by decide +kernel
theorem dL_law_959 : decode code 959 = .ok (.iaload, 1) := by decide +kernel
theorem dL_law_960 : decode code 960 = .ok (.aload_n 0, 1) := by decide +kernel
theorem dL_law_961 : decode code 961 = .ok (.iload_n 3, 1) := by decide +kernel
theorem dL_law_962 : decode code 962 = .ok (.iconst 2, 1) := by decide +kernel
theorem dL_law_963 : decode code 963 = .ok (.iadd, 1) := by decide +kernel
theorem dL_law_964 : decode code 964 = .ok (.iaload, 1) := by decide +kernel
theorem dL_law_965 : decode code 965 = .ok (.aload_n 0, 1) := by decide +kernel
theorem dL_law_966 : decode code 966 = .ok (.iload_n 3, 1) := by decide +kernel
theorem dL_law_967 : decode code 967 = .ok (.iconst 3, 1) := by decide +kernel
theorem dL_law_968 : decode code 968 = .ok (.iadd, 1) := by decide +kernel
theorem dL_law_969 : decode code 969 = .ok (.iaload, 1) := by decide +kernel
theorem dL_law_970 : decode code 970 = .ok (.aload_n 0, 1) := by decide +kernel
theorem dL_law_971 : decode code 971 = .ok (.iload_n 3, 1) := by decide +kernel
theorem dL_law_972 : decode code 972 = .ok (.iconst 4, 1) := by decide +kernel
theorem dL_law_973 : decode code 973 = .ok (.iadd, 1) := by decide +kernel
theorem dL_law_974 : decode code 974 = .ok (.iaload, 1) := by decide +kernel
theorem dL_law_975 : decode code 975 = .ok (.invokevirtual 92, 3) := by decide +kernel
theorem dL_law_978 : decode code 978 = .ok (.pop, 1) := by decide +kernel
theorem dL_law_979 : decode code 979 = .ok (.aload_n 2, 1) := by decide +kernel
theorem dL_law_980 : decode code 980 = .ok (.aload_n 0, 1) := by decide +kernel
theorem dL_law_981 : decode code 981 = .ok (.iload_n 3, 1) := by decide +kernel
theorem dL_law_982 : decode code 982 = .ok (.iconst 1, 1) := by decide +kernel
theorem dL_law_983 : decode code 983 = .ok (.iadd, 1) := by decide +kernel
theorem dL_law_984 : decode code 984 = .ok (.iaload, 1) := by decide +kernel
theorem dL_law_985 : decode code 985 = .ok (.aload_n 0, 1) := by decide +kernel
theorem dL_law_986 : decode code 986 = .ok (.iload_n 3, 1) := by decide +kernel
theorem dL_law_987 : decode code 987 = .ok (.iconst 2, 1) := by decide +kernel
theorem dL_law_988 : decode code 988 = .ok (.iadd, 1) := by decide +kernel
theorem dL_law_989 : decode code 989 = .ok (.iaload, 1) := by decide +kernel
theorem dL_law_990 : decode code 990 = .ok (.aload_n 0, 1) := by decide +kernel
theorem dL_law_991 : decode code 991 = .ok (.iload_n 3, 1) := by decide +kernel
theorem dL_law_992 : decode code 992 = .ok (.iconst 3, 1) := by decide +kernel
theorem dL_law_993 : decode code 993 = .ok (.iadd, 1) := by decide +kernel
theorem dL_law_994 : decode code 994 = .ok (.iaload, 1) := by decide +kernel
theorem dL_law_995 : decode code 995 = .ok (.aload_n 0, 1) := by decide +kernel
theorem dL_law_996 : decode code 996 = .ok (.iload_n 3, 1) := by decide +kernel
theorem dL_law_997 : decode code 997 = .ok (.iconst 4, 1) := by decide +kernel
theorem dL_law_998 : decode code 998 = .ok (.iadd, 1) := by decide +kernel
theorem dL_law_999 : decode code 999 = .ok (.iaload, 1) := by decide +kernel
theorem dL_law_1000 : decode code 1000 = .ok (.invokevirtual 95, 3) := by decide +kernel
theorem dL_law_1003 : decode code 1003 = .ok (.pop, 1) := by decide +kernel
theorem dL_law_1004 : decode code 1004 = .ok (.goto 365, 3) := by decide +kernel
theorem dL_law_1007 : decode code 1007 = .ok (.aload_n 1, 1) := by decide +kernel
theorem dL_law_1008 : decode code 1008 = .ok (.aload_n 0, 1) := by decide +kernel
theorem dL_law_1009 : decode code 1009 = .ok (.iload_n 3, 1) := by decide +kernel
theorem dL_law_1010 : decode code 1010 = .ok (.iconst 1, 1) := by decide +kernel
theorem dL_law_1011 : decode code 1011 = .ok (.iadd, 1) := by decide +kernel
theorem dL_law_1012 : decode code 1012 = .ok (.iaload, 1) := by decide +kernel
theorem dL_law_1013 : decode code 1013 = .ok (.aload_n 0, 1) := by decide +kernel
theorem dL_law_1014 : decode code 1014 = .ok (.iload_n 3, 1) := by decide +kernel
theorem dL_law_1015 : decode code 1015 = .ok (.iconst 2, 1) := by decide +kernel
theorem dL_law_1016 : decode code 1016 = .ok (.iadd, 1) := by decide +kernel
theorem dL_law_1017 : decode code 1017 = .ok (.iaload, 1) := by decide +kernel
theorem dL_law_1018 : decode code 1018 = .ok (.aload_n 0, 1) := by decide +kernel
theorem dL_law_1019 : decode code 1019 = .ok (.iload_n 3, 1) := by decide +kernel
theorem dL_law_1020 : decode code 1020 = .ok (.iconst 3, 1) := by decide +kernel
theorem dL_law_1021 : decode code 1021 = .ok (.iadd, 1) := by decide +kernel
theorem dL_law_1022 : decode code 1022 = .ok (.iaload, 1) := by decide +kernel
theorem dL_law_1023 : decode code 1023 = .ok (.invokevirtual 96, 3) := by decide +kernel
theorem dL_law_1026 : decode code 1026 = .ok (.pop, 1) := by decide +kernel
theorem dL_law_1027 : decode code 1027 = .ok (.aload_n 2, 1) := by decide +kernel
theorem dL_law_1028 : decode code 1028 = .ok (.aload_n 0, 1) := by decide +kernel
theorem dL_law_1029 : decode code 1029 = .ok (.iload_n 3, 1) := by decide +kernel
theorem dL_law_1030 : decode code 1030 = .ok (.iconst 1, 1) := by decide +kernel
theorem dL_law_1031 : decode code 1031 = .ok (.iadd, 1) := by decide +kernel
theorem dL_law_1032 : decode code 1032 = .ok (.iaload, 1) := by decide +kernel
theorem dL_law_1033 : decode code 1033 = .ok (.aload_n 0, 1) := by decide +kernel
theorem dL_law_1034 : decode code 1034 = .ok (.iload_n 3, 1) := by decide +kernel
theorem dL_law_1035 : decode code 1035 = .ok (.iconst 2, 1) := by decide +kernel
theorem dL_law_1036 : decode code 1036 = .ok (.iadd, 1) := by decide +kernel
theorem dL_law_1037 : decode code 1037 = .ok (.iaload, 1) := by decide +kernel
theorem dL_law_1038 : decode code 1038 = .ok (.aload_n 0, 1) := by decide +kernel
theorem dL_law_1039 : decode code 1039 = .ok (.iload_n 3, 1) := by decide +kernel
theorem dL_law_1040 : decode code 1040 = .ok (.iconst 3, 1) := by decide +kernel
theorem dL_law_1041 : decode code 1041 = .ok (.iadd, 1) := by decide +kernel
theorem dL_law_1042 : decode code 1042 = .ok (.iaload, 1) := by decide +kernel
theorem dL_law_1043 : decode code 1043 = .ok (.invokevirtual 99, 3) := by decide +kernel
theorem dL_law_1046 : decode code 1046 = .ok (.pop, 1) := by decide +kernel
theorem dL_law_1047 : decode code 1047 = .ok (.goto 322, 3) := by decide +kernel
theorem dL_law_1050 : decode code 1050 = .ok (.aload_n 1, 1) := by decide +kernel
theorem dL_law_1051 : decode code 1051 = .ok (.aload_n 0, 1) := by decide +kernel
theorem dL_law_1052 : decode code 1052 = .ok (.iload_n 3, 1) := by decide +kernel
theorem dL_law_1053 : decode code 1053 = .ok (.iconst 1, 1) := by decide +kernel
theorem dL_law_1054 : decode code 1054 = .ok (.iadd, 1) := by decide +kernel
theorem dL_law_1055 : decode code 1055 = .ok (.iaload, 1) := by decide +kernel
theorem dL_law_1056 : decode code 1056 = .ok (.aload_n 0, 1) := by decide +kernel
theorem dL_law_1057 : decode code 1057 = .ok (.iload_n 3, 1) := by decide +kernel
theorem dL_law_1058 : decode code 1058 = .ok (.iconst 2, 1) := by decide +kernel
theorem dL_law_1059 : decode code 1059 = .ok (.iadd, 1) := by decide +kernel
theorem dL_law_1060 : decode code 1060 = .ok (.iaload, 1) := by decide +kernel
theorem dL_law_1061 : decode code 1061 = .ok (.invokevirtual 100, 3) := by decide +kernel
theorem dL_law_1064 : decode code 1064 = .ok (.pop2, 1) := by decide +kernel
theorem dL_law_1065 : decode code 1065 = .ok (.aload_n 2, 1) := by decide +kernel
theorem dL_law_1066 : decode code 1066 = .ok (.aload_n 0, 1) := by decide +kernel
theorem dL_law_1067 : decode code 1067 = .ok (.iload_n 3, 1) := by decide +kernel
theorem dL_law_1068 : decode code 1068 = .ok (.iconst 1, 1) := by decide +kernel
theorem dL_law_1069 : decode code 1069 = .ok (.iadd, 1) := by decide +kernel
theorem dL_law_1070 : decode code 1070 = .ok (.iaload, 1) := by decide +kernel
theorem dL_law_1071 : decode code 1071 = .ok (.aload_n 0, 1) := by decide +kernel
theorem dL_law_1072 : decode code 1072 = .ok (.iload_n 3, 1) := by decide +kernel
theorem dL_law_1073 : decode code 1073 = .ok (.iconst 2, 1) := by decide +kernel
theorem dL_law_1074 : decode code 1074 = .ok (.iadd, 1) := by decide +kernel
theorem dL_law_1075 : decode code 1075 = .ok (.iaload, 1) := by decide +kernel
theorem dL_law_1076 : decode code 1076 = .ok (.invokevirtual 104, 3) := by decide +kernel
theorem dL_law_1079 : decode code 1079 = .ok (.pop2, 1) := by decide +kernel
theorem dL_law_1080 : decode code 1080 = .ok (.goto 289, 3) := by decide +kernel
theorem dL_law_1083 : decode code 1083 = .ok (.aload_n 1, 1) := by decide +kernel
theorem dL_law_1084 : decode code 1084 = .ok (.aload_n 0, 1) := by decide +kernel
theorem dL_law_1085 : decode code 1085 = .ok (.iload_n 3, 1) := by decide +kernel
theorem dL_law_1086 : decode code 1086 = .ok (.iconst 1, 1) := by decide +kernel
theorem dL_law_1087 : decode code 1087 = .ok (.iadd, 1) := by decide +kernel
theorem dL_law_1088 : decode code 1088 = .ok (.iaload, 1) := by decide +kernel
theorem dL_law_1089 : decode code 1089 = .ok (.aload_n 0, 1) := by decide +kernel
theorem dL_law_1090 : decode code 1090 = .ok (.iload_n 3, 1) := by decide +kernel
theorem dL_law_1091 : decode code 1091 = .ok (.iconst 2, 1) := by decide +kernel
theorem dL_law_1092 : decode code 1092 = .ok (.iadd, 1) := by decide +kernel
theorem dL_law_1093 : decode code 1093 = .ok (.iaload, 1) := by decide +kernel
theorem dL_law_1094 : decode code 1094 = .ok (.invokevirtual 105, 3) := by decide +kernel
theorem dL_law_1097 : decode code 1097 = .ok (.pop, 1) := by decide +kernel
theorem dL_law_1098 : decode code 1098 = .ok (.aload_n 2, 1) := by decide +kernel
theorem dL_law_1099 : decode code 1099 = .ok (.aload_n 0, 1) := by decide +kernel
theorem dL_law_1100 : decode code 1100 = .ok (.iload_n 3, 1) := by decide +kernel
theorem dL_law_1101 : decode code 1101 = .ok (.iconst 1, 1) := by decide +kernel
theorem dL_law_1102 : decode code 1102 = .ok (.iadd, 1) := by decide +kernel
theorem dL_law_1103 : decode code 1103 = .ok (.iaload, 1) := by decide +kernel
theorem dL_law_1104 : decode code 1104 = .ok (.aload_n 0, 1) := by decide +kernel
theorem dL_law_1105 : decode code 1105 = .ok (.iload_n 3, 1) := by decide +kernel
theorem dL_law_1106 : decode code 1106 = .ok (.iconst 2, 1) := by decide +kernel
theorem dL_law_1107 : decode code 1107 = .ok (.iadd, 1) := by decide +kernel
theorem dL_law_1108 : decode code 1108 = .ok (.iaload, 1) := by decide +kernel
theorem dL_law_1109 : decode code 1109 = .ok (.invokevirtual 108, 3) := by decide +kernel
theorem dL_law_1112 : decode code 1112 = .ok (.pop, 1) := by decide +kernel
theorem dL_law_1113 : decode code 1113 = .ok (.goto 256, 3) := by decide +kernel
theorem dL_law_1116 : decode code 1116 = .ok (.aload_n 1, 1) := by decide +kernel
theorem dL_law_1117 : decode code 1117 = .ok (.aload_n 0, 1) := by decide +kernel
theorem dL_law_1118 : decode code 1118 = .ok (.iload_n 3, 1) := by decide +kernel
theorem dL_law_1119 : decode code 1119 = .ok (.iconst 1, 1) := by decide +kernel
theorem dL_law_1120 : decode code 1120 = .ok (.iadd, 1) := by decide +kernel
theorem dL_law_1121 : decode code 1121 = .ok (.iaload, 1) := by decide +kernel
theorem dL_law_1122 : decode code 1122 = .ok (.aload_n 0, 1) := by decide +kernel
theorem dL_law_1123 : decode code 1123 = .ok (.iload_n 3, 1) := by decide +kernel
theorem dL_law_1124 : decode code 1124 = .ok (.iconst 2, 1) := by decide +kernel
theorem dL_law_1125 : decode code 1125 = .ok (.iadd, 1) := by decide +kernel
theorem dL_law_1126 : decode code 1126 = .ok (.iaload, 1) := by decide +kernel
theorem dL_law_1127 : decode code 1127 = .ok (.ifCond .eq 7, 3) := by decide +kernel
theorem dL_law_1130 : decode code 1130 = .ok (.iconst 1, 1) := by decide +kernel
theorem dL_law_1131 : decode code 1131 = .ok (.goto 4, 3) := by decide +kernel
theorem dL_law_1134 : decode code 1134 = .ok (.iconst 0, 1) := by decide +kernel
theorem dL_law_1135 : decode code 1135 = .ok (.invokevirtual 109, 3) := by decide +kernel
theorem dL_law_1138 : decode code 1138 = .ok (.aload_n 2, 1) := by decide +kernel
theorem dL_law_1139 : decode code 1139 = .ok (.aload_n 0, 1) := by decide +kernel
theorem dL_law_1140 : decode code 1140 = .ok (.iload_n 3, 1) := by decide +kernel
theorem dL_law_1141 : decode code 1141 = .ok (.iconst 1, 1) := by decide +kernel
theorem dL_law_1142 : decode code 1142 = .ok (.iadd, 1) := by decide +kernel
theorem dL_law_1143 : decode code 1143 = .ok (.iaload, 1) := by decide +kernel
theorem dL_law_1144 : decode code 1144 = .ok (.aload_n 0, 1) := by decide +kernel
theorem dL_law_1145 : decode code 1145 = .ok (.iload_n 3, 1) := by decide +kernel
theorem dL_law_1146 : decode code 1146 = .ok (.iconst 2, 1) := by decide +kernel
theorem dL_law_1147 : decode code 1147 = .ok (.iadd, 1) := by decide +kernel
theorem dL_law_1148 : decode code 1148 = .ok (.iaload, 1) := by decide +kernel
theorem dL_law_1149 : decode code 1149 = .ok (.ifCond .eq 7, 3) := by decide +kernel
theorem dL_law_1152 : decode code 1152 = .ok (.iconst 1, 1) := by decide +kernel
theorem dL_law_1153 : decode code 1153 = .ok (.goto 4, 3) := by decide +kernel
theorem dL_law_1156 : decode code 1156 = .ok (.iconst 0, 1) := by decide +kernel
theorem dL_law_1157 : decode code 1157 = .ok (.invokevirtual 113, 3) := by decide +kernel
theorem dL_law_1160 : decode code 1160 = .ok (.if_icmp .eq 209, 3) := by decide +kernel
theorem dL_law_1165 : decode code 1165 = .ok (.aload_n 1, 1) := by decide +kernel
theorem dL_law_1166 : decode code 1166 = .ok (.aload_n 0, 1) := by decide +kernel
theorem dL_law_1167 : decode code 1167 = .ok (.iload_n 3, 1) := by decide +kernel
theorem dL_law_1168 : decode code 1168 = .ok (.iconst 1, 1) := by decide +kernel
theorem dL_law_1169 : decode code 1169 = .ok (.iadd, 1) := by decide +kernel
theorem dL_law_1170 : decode code 1170 = .ok (.iaload, 1) := by decide +kernel
theorem dL_law_1171 : decode code 1171 = .ok (.aload_n 0, 1) := by decide +kernel
theorem dL_law_1172 : decode code 1172 = .ok (.iload_n 3, 1) := by decide +kernel
theorem dL_law_1173 : decode code 1173 = .ok (.iconst 2, 1) := by decide +kernel
theorem dL_law_1174 : decode code 1174 = .ok (.iadd, 1) := by decide +kernel
theorem dL_law_1175 : decode code 1175 = .ok (.iaload, 1) := by decide +kernel
theorem dL_law_1176 : decode code 1176 = .ok (.ifCond .eq 7, 3) := by decide +kernel
theorem dL_law_1179 : decode code 1179 = .ok (.iconst 1, 1) := by decide +kernel
theorem dL_law_1180 : decode code 1180 = .ok (.goto 4, 3) := by decide +kernel
theorem dL_law_1183 : decode code 1183 = .ok (.iconst 0, 1) := by decide +kernel
theorem dL_law_1184 : decode code 1184 = .ok (.invokevirtual 114, 3) := by decide +kernel
theorem dL_law_1187 : decode code 1187 = .ok (.pop, 1) := by decide +kernel
theorem dL_law_1188 : decode code 1188 = .ok (.aload_n 2, 1) := by decide +kernel
theorem dL_law_1189 : decode code 1189 = .ok (.aload_n 0, 1) := by decide +kernel
theorem dL_law_1190 : decode code 1190 = .ok (.iload_n 3, 1) := by decide +kernel
theorem dL_law_1191 : decode code 1191 = .ok (.iconst 1, 1) := by decide +kernel
theorem dL_law_1192 : decode code 1192 = .ok (.iadd, 1) := by decide +kernel
theorem dL_law_1193 : decode code 1193 = .ok (.iaload, 1) := by decide +kernel
theorem dL_law_1194 : decode code 1194 = .ok (.aload_n 0, 1) := by decide +kernel
theorem dL_law_1195 : decode code 1195 = .ok (.iload_n 3, 1) := by decide +kernel
theorem dL_law_1196 : decode code 1196 = .ok (.iconst 2, 1) := by decide +kernel
theorem dL_law_1197 : decode code 1197 = .ok (.iadd, 1) := by decide +kernel
theorem dL_law_1198 : decode code 1198 = .ok (.iaload, 1) := by decide +kernel
theorem dL_law_1199 : decode code 1199 = .ok (.ifCond .eq 7, 3) := by decide +kernel
theorem dL_law_1202 : decode code 1202 = .ok (.iconst 1, 1) := by decide +kernel
theorem dL_law_1203 : decode code 1203 = .ok (.goto 4, 3) := by decide +kernel
theorem dL_law_1206 : decode code 1206 = .ok (.iconst 0, 1) := by decide +kernel
theorem dL_law_1207 : decode code 1207 = .ok (.invokevirtual 117, 3) := by decide +kernel
theorem dL_law_1210 : decode code 1210 = .ok (.pop, 1) := by decide +kernel
theorem dL_law_1211 : decode code 1211 = .ok (.goto 158, 3) := by decide +kernel
theorem dL_law_1214 : decode code 1214 = .ok (.aload_n 1, 1) := by decide +kernel
theorem dL_law_1215 : decode code 1215 = .ok (.aload_n 0, 1) := by decide +kernel
theorem dL_law_1216 : decode code 1216 = .ok (.iload_n 3, 1) := by decide +kernel
theorem dL_law_1217 : decode code 1217 = .ok (.iconst 1, 1) := by decide +kernel
theorem dL_law_1218 : decode code 1218 = .ok (.iadd, 1) := by decide +kernel
theorem dL_law_1219 : decode code 1219 = .ok (.iaload, 1) := by decide +kernel
theorem dL_law_1220 : decode code 1220 = .ok (.aload_n 0, 1) := by decide +kernel
theorem dL_law_1221 : decode code 1221 = .ok (.iload_n 3, 1) := by decide +kernel
theorem dL_law_1222 : decode code 1222 = .ok (.iconst 2, 1) := by decide +kernel
theorem dL_law_1223 : decode code 1223 = .ok (.iadd, 1) := by decide +kernel
theorem dL_law_1224 : decode code 1224 = .ok (.iaload, 1) := by decide +kernel
theorem dL_law_1225 : decode code 1225 = .ok (.aload_n 0, 1) := by decide +kernel
theorem dL_law_1226 : decode code 1226 = .ok (.iload_n 3, 1) := by decide +kernel
theorem dL_law_1227 : decode code 1227 = .ok (.iconst 3, 1) := by decide +kernel
theorem dL_law_1228 : decode code 1228 = .ok (.iadd, 1) := by decide +kernel
theorem dL_law_1229 : decode code 1229 = .ok (.iaload, 1) := by decide +kernel
theorem dL_law_1230 : decode code 1230 = .ok (.invokevirtual 118, 3) := by decide +kernel
theorem dL_law_1233 : decode code 1233 = .ok (.pop, 1) := by decide +kernel
theorem dL_law_1234 : decode code 1234 = .ok (.aload_n 2, 1) := by decide +kernel
theorem dL_law_1235 : decode code 1235 = .ok (.aload_n 0, 1) := by decide +kernel
theorem dL_law_1236 : decode code 1236 = .ok (.iload_n 3, 1) := by decide +kernel
theorem dL_law_1237 : decode code 1237 = .ok (.iconst 1, 1) := by decide +kernel
theorem dL_law_1238 : decode code 1238 = .ok (.iadd, 1) := by decide +kernel
theorem dL_law_1239 : decode code 1239 = .ok (.iaload, 1) := by decide +kernel
theorem dL_law_1240 : decode code 1240 = .ok (.aload_n 0, 1) := by decide +kernel
theorem dL_law_1241 : decode code 1241 = .ok (.iload_n 3, 1) := by decide +kernel
theorem dL_law_1242 : decode code 1242 = .ok (.iconst 2, 1) := by decide +kernel
theorem dL_law_1243 : decode code 1243 = .ok (.iadd, 1) := by decide +kernel
theorem dL_law_1244 : decode code 1244 = .ok (.iaload, 1) := by decide +kernel
theorem dL_law_1245 : decode code 1245 = .ok (.aload_n 0, 1) := by decide +kernel
theorem dL_law_1246 : decode code 1246 = .ok (.iload_n 3, 1) := by decide +kernel
theorem dL_law_1247 : decode code 1247 = .ok (.iconst 3, 1) := by decide +kernel
theorem dL_law_1248 : decode code 1248 = .ok (.iadd, 1) := by decide +kernel
theorem dL_law_1249 : decode code 1249 = .ok (.iaload, 1) := by decide +kernel
theorem dL_law_1250 : decode code 1250 = .ok (.invokevirtual 121, 3) := by decide +kernel
theorem dL_law_1253 : decode code 1253 = .ok (.pop, 1) := by decide +kernel
theorem dL_law_1254 : decode code 1254 = .ok (.goto 115, 3) := by decide +kernel
theorem dL_law_1257 : decode code 1257 = .ok (.aload_n 1, 1) := by decide +kernel
theorem dL_law_1258 : decode code 1258 = .ok (.aload_n 0, 1) := by decide +kernel
theorem dL_law_1259 : decode code 1259 = .ok (.iload_n 3, 1) := by decide +kernel
theorem dL_law_1260 : decode code 1260 = .ok (.iconst 1, 1) := by decide +kernel
theorem dL_law_1261 : decode code 1261 = .ok (.iadd, 1) := by decide +kernel
theorem dL_law_1262 : decode code 1262 = .ok (.iaload, 1) := by decide +kernel
theorem dL_law_1263 : decode code 1263 = .ok (.aload_n 0, 1) := by decide +kernel
theorem dL_law_1264 : decode code 1264 = .ok (.iload_n 3, 1) := by decide +kernel
theorem dL_law_1265 : decode code 1265 = .ok (.iconst 2, 1) := by decide +kernel
theorem dL_law_1266 : decode code 1266 = .ok (.iadd, 1) := by decide +kernel
theorem dL_law_1267 : decode code 1267 = .ok (.iaload, 1) := by decide +kernel
theorem dL_law_1268 : decode code 1268 = .ok (.aload_n 0, 1) := by decide +kernel
theorem dL_law_1269 : decode code 1269 = .ok (.iload_n 3, 1) := by decide +kernel
theorem dL_law_1270 : decode code 1270 = .ok (.iconst 3, 1) := by decide +kernel
theorem dL_law_1271 : decode code 1271 = .ok (.iadd, 1) := by decide +kernel
theorem dL_law_1272 : decode code 1272 = .ok (.iaload, 1) := by decide +kernel
theorem dL_law_1273 : decode code 1273 = .ok (.invokevirtual 122, 3) := by decide +kernel
theorem dL_law_1276 : decode code 1276 = .ok (.pop, 1) := by decide +kernel
theorem dL_law_1277 : decode code 1277 = .ok (.aload_n 2, 1) := by decide +kernel
theorem dL_law_1278 : decode code 1278 = .ok (.aload_n 0, 1) := by decide +kernel
theorem dL_law_1279 : decode code 1279 = .ok (.iload_n 3, 1) := by decide +kernel
theorem dL_law_1280 : decode code 1280 = .ok (.iconst 1, 1) := by decide +kernel
theorem dL_law_1281 : decode code 1281 = .ok (.iadd, 1) := by decide +kernel
theorem dL_law_1282 : decode code 1282 = .ok (.iaload, 1) := by decide +kernel
theorem dL_law_1283 : decode code 1283 = .ok (.aload_n 0, 1) := by decide +kernel
theorem dL_law_1284 : decode code 1284 = .ok (.iload_n 3, 1) := by decide +kernel
theorem dL_law_1285 : decode code 1285 = .ok (.iconst 2, 1) := by decide +kernel
theorem dL_law_1286 : decode code 1286 = .ok (.iadd, 1) := by decide +kernel
theorem dL_law_1287 : decode code 1287 = .ok (.iaload, 1) := by decide +kernel
theorem dL_law_1288 : decode code 1288 = .ok (.aload_n 0, 1) := by decide +kernel
theorem dL_law_1289 : decode code 1289 = .ok (.iload_n 3, 1) := by decide +kernel
theorem dL_law_1290 : decode code 1290 = .ok (.iconst 3, 1) := by decide +kernel
theorem dL_law_1291 : decode code 1291 = .ok (.iadd, 1) := by decide +kernel
theorem dL_law_1292 : decode code 1292 = .ok (.iaload, 1) := by decide +kernel
theorem dL_law_1293 : decode code 1293 = .ok (.invokevirtual 125, 3) := by decide +kernel
theorem dL_law_1296 : decode code 1296 = .ok (.pop, 1) := by decide +kernel
theorem dL_law_1297 : decode code 1297 = .ok (.goto 72, 3) := by decide +kernel
theorem dL_law_1300 : decode code 1300 = .ok (.aload_n 1, 1) := by decide +kernel
theorem dL_law_1301 : decode code 1301 = .ok (.aload_n 0, 1) := by decide +kernel
theorem dL_law_1302 : decode code 1302 = .ok (.iload_n 3, 1) := by decide +kernel
theorem dL_law_1303 : decode code 1303 = .ok (.iconst 1, 1) := by decide +kernel
theorem dL_law_1304 : decode code 1304 = .ok (.iadd, 1) := by decide +kernel
theorem dL_law_1305 : decode code 1305 = .ok (.iaload, 1) := by decide +kernel
theorem dL_law_1306 : decode code 1306 = .ok (.invokevirtual 126, 3) := by decide +kernel
theorem dL_law_1309 : decode code 1309 = .ok (.pop, 1) := by decide +kernel
theorem dL_law_1310 : decode code 1310 = .ok (.aload_n 2, 1) := by decide +kernel
theorem dL_law_1311 : decode code 1311 = .ok (.aload_n 0, 1) := by decide +kernel
theorem dL_law_1312 : decode code 1312 = .ok (.iload_n 3, 1) := by decide +kernel
theorem dL_law_1313 : decode code 1313 = .ok (.iconst 1, 1) := by decide +kernel
theorem dL_law_1314 : decode code 1314 = .ok (.iadd, 1) := by decide +kernel
theorem dL_law_1315 : decode code 1315 = .ok (.iaload, 1) := by decide +kernel
theorem dL_law_1316 : decode code 1316 = .ok (.invokevirtual 129, 3) := by decide +kernel
theorem dL_law_1319 : decode code 1319 = .ok (.pop, 1) := by decide +kernel
theorem dL_law_1320 : decode code 1320 = .ok (.goto 49, 3) := by decide +kernel
theorem dL_law_1323 : decode code 1323 = .ok (.aload_n 1, 1) := by decide +kernel
theorem dL_law_1324 : decode code 1324 = .ok (.aload_n 0, 1) := by decide +kernel
theorem dL_law_1325 : decode code 1325 = .ok (.iload_n 3, 1) := by decide +kernel
theorem dL_law_1326 : decode code 1326 = .ok (.iconst 1, 1) := by decide +kernel
theorem dL_law_1327 : decode code 1327 = .ok (.iadd, 1) := by decide +kernel
theorem dL_law_1328 : decode code 1328 = .ok (.iaload, 1) := by decide +kernel
theorem dL_law_1332 : decode code 1332 = .ok (.pop, 1) := by decide +kernel
theorem dL_law_1333 : decode code 1333 = .ok (.aload_n 2, 1) := by decide +kernel
theorem dL_law_1334 : decode code 1334 = .ok (.aload_n 0, 1) := by decide +kernel
theorem dL_law_1335 : decode code 1335 = .ok (.iload_n 3, 1) := by decide +kernel
theorem dL_law_1336 : decode code 1336 = .ok (.iconst 1, 1) := by decide +kernel
theorem dL_law_1337 : decode code 1337 = .ok (.iadd, 1) := by decide +kernel
theorem dL_law_1338 : decode code 1338 = .ok (.iaload, 1) := by decide +kernel
theorem dL_law_1339 : decode code 1339 = .ok (.invokevirtual 134, 3) := by decide +kernel
theorem dL_law_1342 : decode code 1342 = .ok (.pop, 1) := by decide +kernel
theorem dL_law_1343 : decode code 1343 = .ok (.goto 26, 3) := by decide +kernel
theorem dL_law_1346 : decode code 1346 = .ok (.aload_n 1, 1) := by decide +kernel
theorem dL_law_1347 : decode code 1347 = .ok (.aload_n 0, 1) := by decide +kernel
theorem dL_law_1348 : decode code 1348 = .ok (.iload_n 3, 1) := by decide +kernel
theorem dL_law_1349 : decode code 1349 = .ok (.iconst 1, 1) := by decide +kernel
theorem dL_law_1350 : decode code 1350 = .ok (.iadd, 1) := by decide +kernel
theorem dL_law_1351 : decode code 1351 = .ok (.iaload, 1) := by decide +kernel
theorem dL_law_1352 : decode code 1352 = .ok (.invokevirtual 135, 3) := by decide +kernel
theorem dL_law_1355 : decode code 1355 = .ok (.pop, 1) := by decide +kernel
theorem dL_law_1356 : decode code 1356 = .ok (.aload_n 2, 1) := by decide +kernel
theorem dL_law_1357 : decode code 1357 = .ok (.aload_n 0, 1) := by decide +kernel
theorem dL_law_1358 : decode code 1358 = .ok (.iload_n 3, 1) := by decide +kernel
theorem dL_law_1359 : decode code 1359 = .ok (.iconst 1, 1) := by decide +kernel
theorem dL_law_1360 : decode code 1360 = .ok (.iadd, 1) := by decide +kernel
theorem dL_law_1361 : decode code 1361 = .ok (.iaload, 1) := by decide +kernel
theorem dL_law_1362 : decode code 1362 = .ok (.invokevirtual 138, 3) := by decide +kernel
theorem dL_law_1365 : decode code 1365 = .ok (.pop, 1) := by decide +kernel
theorem dL_law_1366 : decode code 1366 = .ok (.goto 3, 3) := by decide +kernel
theorem dL_law_1369 : decode code 1369 = .ok (.iinc 3 6, 3) := by decide +kernel
theorem dL_law_1372 : decode code 1372 = .ok (.goto (-1354), 3) := by decide +kernel
theorem dL_law_1329 : decode code 1329 = .ok (.invokevirtual 130, 3) := by decide +kernel
set_option maxRecDepth 100000 in
def b_law_1369 (n L : Nat) (xs : Nat → Int32) (J : Nat → List qV → List qV → qW → Prop) : qK := x_iinc 3 6 (x_cut [0, 1, 2, 3] (J 18))
set_option maxRecDepth 100000 in
theorem s_law_1369 {p : Program} {l : Launch} {e : Env} {R : Room} {s : State} {m : MethodId} {args : Array Value} {below : List Frame} {meth : Method} {c : Code} {n nc ns nW b L : Nat} {xs : Nat → Int32} {dC : Nat → ClassId} {dI : Nat → Nat → Nat} {k : Nat → ClassId} {g : Nat → Nat} {A : Nat → Prop} {Qf : State → Prop} {J : Nat → List qV → List qV → qW → Prop} (X : q_X p R s m args meth c code 4 nW 10 231 R_law ret dC dI k g A) (hcells : nc + 0 ≤ R.cells ∧ ns + 0 ≤ R.slots) (hL : L ≤ 3072) (hXs : va_X b L xs s s.heap) (hbl : b < s.heap.size) (hbA : ¬ A b) (hg9 : g 900 = b) (hJ : ∀ d : Nat, q_SdN nc ns p l e R s m args below meth c 4 nW dC dI k g A Qf d (x_cut [0, 1, 2, 3] (J d))) : q_SdN nc ns p l e R s m args below meth c 4 nW dC dI k g A Qf 1369 (b_law_1369 n L xs J) := by
  unfold b_law_1369
  refine sN_iinc X (by decide) dL_law_1369 ?_
  refine sN_goto X (tgt := 18) dL_law_1372 (by decide) ?_
  exact hJ 18
set_option maxRecDepth 100000 in
def b_law_1346 (n L : Nat) (xs : Nat → Int32) (J : Nat → List qV → List qV → qW → Prop) : qK := x_aload 1 (x_aload 0 (x_iload 3 (x_int 1 (x_iadd (x_sldL L xs (x_callN 11 2 (spM n (fun av => ∃ a : Int, av = [q2 0, q1 a]) rlAgC) (x_pop (x_aload 2 (x_aload 0 (x_iload 3 (x_int 1 (x_iadd (x_sldL L xs (x_callN 12 2 (spM n (fun av => ∃ a : Int, av = [q2 85, q1 a]) rlAgM) (x_pop (b_law_1369 n L xs J))))))))))))))))
set_option maxRecDepth 100000 in
theorem s_law_1346 {p : Program} {l : Launch} {e : Env} {R : Room} {s : State} {m : MethodId} {args : Array Value} {below : List Frame} {meth : Method} {c : Code} {n nc ns nW b L : Nat} {xs : Nat → Int32} {dC : Nat → ClassId} {dI : Nat → Nat → Nat} {k : Nat → ClassId} {g : Nat → Nat} {A : Nat → Prop} {Qf : State → Prop} {J : Nat → List qV → List qV → qW → Prop} (X : q_X p R s m args meth c code 4 nW 10 231 R_law ret dC dI k g A) (hcells : nc + 0 ≤ R.cells ∧ ns + 0 ≤ R.slots) (hL : L ≤ 3072) (hXs : va_X b L xs s s.heap) (hbl : b < s.heap.size) (hbA : ¬ A b) (hg9 : g 900 = b) (hJ : ∀ d : Nat, q_SdN nc ns p l e R s m args below meth c 4 nW dC dI k g A Qf d (x_cut [0, 1, 2, 3] (J d))) : q_SdN nc ns p l e R s m args below meth c 4 nW dC dI k g A Qf 1346 (b_law_1346 n L xs J) := by
  unfold b_law_1346
  refine sN_aload_n X rfl dL_law_1346 ?_
  refine sN_aload_n X rfl dL_law_1347 ?_
  refine sN_iload_n X rfl dL_law_1348 ?_
  refine sN_iconst X ⟨by decide, by decide⟩ dL_law_1349 ?_
  refine sN_iadd X dL_law_1350 ?_
  refine sN_sld X hXs hbl hbA hg9 dL_law_1351 ?_
  refine sN_callN X hcells (mN_again l n) tw_989 tw_990 tw_991 tw_120 tw_992 rfl (by decide +kernel) ⟨by decide, by decide⟩ spM_mo dL_law_1352 ?_
  refine sN_pop X dL_law_1355 ?_
  refine sN_aload_n X rfl dL_law_1356 ?_
  refine sN_aload_n X rfl dL_law_1357 ?_
  refine sN_iload_n X rfl dL_law_1358 ?_
  refine sN_iconst X ⟨by decide, by decide⟩ dL_law_1359 ?_
  refine sN_iadd X dL_law_1360 ?_
  refine sN_sld X hXs hbl hbA hg9 dL_law_1361 ?_
  refine sN_callN X hcells (mN_agM l n) tw_1479 tw_1480 tw_1481 tw_134 tw_1482 rfl (by decide +kernel) ⟨by decide, by decide⟩ spM_mo dL_law_1362 ?_
  refine sN_pop X dL_law_1365 ?_
  refine sN_goto X (tgt := 1369) dL_law_1366 (by decide) ?_
  exact s_law_1369 X hcells hL hXs hbl hbA hg9 hJ
set_option maxRecDepth 100000 in
def b_law_1300 (n L : Nat) (xs : Nat → Int32) (J : Nat → List qV → List qV → qW → Prop) : qK := x_aload 1 (x_aload 0 (x_iload 3 (x_int 1 (x_iadd (x_sldL L xs (x_callN 11 2 (spM n (fun av => ∃ a : Int, av = [q2 0, q1 a]) rlCoC) (x_pop (x_aload 2 (x_aload 0 (x_iload 3 (x_int 1 (x_iadd (x_sldL L xs (x_callN 12 2 (spM n (fun av => ∃ a : Int, av = [q2 85, q1 a]) rlCoM) (x_pop (b_law_1369 n L xs J))))))))))))))))
set_option maxRecDepth 100000 in
theorem s_law_1300 {p : Program} {l : Launch} {e : Env} {R : Room} {s : State} {m : MethodId} {args : Array Value} {below : List Frame} {meth : Method} {c : Code} {n nc ns nW b L : Nat} {xs : Nat → Int32} {dC : Nat → ClassId} {dI : Nat → Nat → Nat} {k : Nat → ClassId} {g : Nat → Nat} {A : Nat → Prop} {Qf : State → Prop} {J : Nat → List qV → List qV → qW → Prop} (X : q_X p R s m args meth c code 4 nW 10 231 R_law ret dC dI k g A) (hcells : nc + 0 ≤ R.cells ∧ ns + 0 ≤ R.slots) (hL : L ≤ 3072) (hXs : va_X b L xs s s.heap) (hbl : b < s.heap.size) (hbA : ¬ A b) (hg9 : g 900 = b) (hJ : ∀ d : Nat, q_SdN nc ns p l e R s m args below meth c 4 nW dC dI k g A Qf d (x_cut [0, 1, 2, 3] (J d))) : q_SdN nc ns p l e R s m args below meth c 4 nW dC dI k g A Qf 1300 (b_law_1300 n L xs J) := by
  unfold b_law_1300
  refine sN_aload_n X rfl dL_law_1300 ?_
  refine sN_aload_n X rfl dL_law_1301 ?_
  refine sN_iload_n X rfl dL_law_1302 ?_
  refine sN_iconst X ⟨by decide, by decide⟩ dL_law_1303 ?_
  refine sN_iadd X dL_law_1304 ?_
  refine sN_sld X hXs hbl hbA hg9 dL_law_1305 ?_
  refine sN_callN X hcells (mN_coC l n) tw_976 tw_977 tw_978 tw_120 tw_979 rfl (by decide +kernel) ⟨by decide, by decide⟩ spM_mo dL_law_1306 ?_
  refine sN_pop X dL_law_1309 ?_
  refine sN_aload_n X rfl dL_law_1310 ?_
  refine sN_aload_n X rfl dL_law_1311 ?_
  refine sN_iload_n X rfl dL_law_1312 ?_
  refine sN_iconst X ⟨by decide, by decide⟩ dL_law_1313 ?_
  refine sN_iadd X dL_law_1314 ?_
  refine sN_sld X hXs hbl hbA hg9 dL_law_1315 ?_
  refine sN_callN X hcells (mN_coM l n) tw_1465 tw_1466 tw_1467 tw_134 tw_1468 rfl (by decide +kernel) ⟨by decide, by decide⟩ spM_mo dL_law_1316 ?_
  refine sN_pop X dL_law_1319 ?_
  refine sN_goto X (tgt := 1369) dL_law_1320 (by decide) ?_
  exact s_law_1369 X hcells hL hXs hbl hbA hg9 hJ
set_option maxRecDepth 100000 in
def b_law_1279 (n L : Nat) (xs : Nat → Int32) (J : Nat → List qV → List qV → qW → Prop) : qK := x_iload 3 (x_int 1 (x_iadd (x_sldL L xs (x_aload 0 (x_iload 3 (x_int 2 (x_iadd (x_sldL L xs (x_aload 0 (x_iload 3 (x_int 3 (x_iadd (x_sldL L xs (x_callN 12 4 (spN n rkI (fun av => ∃ a b cc : Int, av = [q2 85, q1 a, q1 b, q1 cc])) (x_pop (b_law_1369 n L xs J))))))))))))))))
set_option maxRecDepth 100000 in
theorem s_law_1279 {p : Program} {l : Launch} {e : Env} {R : Room} {s : State} {m : MethodId} {args : Array Value} {below : List Frame} {meth : Method} {c : Code} {n nc ns nW b L : Nat} {xs : Nat → Int32} {dC : Nat → ClassId} {dI : Nat → Nat → Nat} {k : Nat → ClassId} {g : Nat → Nat} {A : Nat → Prop} {Qf : State → Prop} {J : Nat → List qV → List qV → qW → Prop} (X : q_X p R s m args meth c code 4 nW 10 231 R_law ret dC dI k g A) (hcells : nc + 0 ≤ R.cells ∧ ns + 0 ≤ R.slots) (hL : L ≤ 3072) (hXs : va_X b L xs s s.heap) (hbl : b < s.heap.size) (hbA : ¬ A b) (hg9 : g 900 = b) (hJ : ∀ d : Nat, q_SdN nc ns p l e R s m args below meth c 4 nW dC dI k g A Qf d (x_cut [0, 1, 2, 3] (J d))) : q_SdN nc ns p l e R s m args below meth c 4 nW dC dI k g A Qf 1279 (b_law_1279 n L xs J) := by
  unfold b_law_1279
  refine sN_iload_n X rfl dL_law_1279 ?_
  refine sN_iconst X ⟨by decide, by decide⟩ dL_law_1280 ?_
  refine sN_iadd X dL_law_1281 ?_
  refine sN_sld X hXs hbl hbA hg9 dL_law_1282 ?_
  refine sN_aload_n X rfl dL_law_1283 ?_
  refine sN_iload_n X rfl dL_law_1284 ?_
  refine sN_iconst X ⟨by decide, by decide⟩ dL_law_1285 ?_
  refine sN_iadd X dL_law_1286 ?_
  refine sN_sld X hXs hbl hbA hg9 dL_law_1287 ?_
  refine sN_aload_n X rfl dL_law_1288 ?_
  refine sN_iload_n X rfl dL_law_1289 ?_
  refine sN_iconst X ⟨by decide, by decide⟩ dL_law_1290 ?_
  refine sN_iadd X dL_law_1291 ?_
  refine sN_sld X hXs hbl hbA hg9 dL_law_1292 ?_
  refine sN_callN X hcells (q_MN_of n (mL_X12_settled l)) tw_1458 tw_1459 tw_1460 tw_134 tw_1461 rfl (by decide +kernel) ⟨by decide, by decide⟩ spN_mo dL_law_1293 ?_
  refine sN_pop X dL_law_1296 ?_
  refine sN_goto X (tgt := 1369) dL_law_1297 (by decide) ?_
  exact s_law_1369 X hcells hL hXs hbl hbA hg9 hJ
set_option maxRecDepth 100000 in
def b_law_1257 (n L : Nat) (xs : Nat → Int32) (J : Nat → List qV → List qV → qW → Prop) : qK := x_aload 1 (x_aload 0 (x_iload 3 (x_int 1 (x_iadd (x_sldL L xs (x_aload 0 (x_iload 3 (x_int 2 (x_iadd (x_sldL L xs (x_aload 0 (x_iload 3 (x_int 3 (x_iadd (x_sldL L xs (x_callN 11 4 (spN n rkI (fun av => ∃ a b cc : Int, av = [q2 0, q1 a, q1 b, q1 cc])) (x_pop (x_aload 2 (x_aload 0 (b_law_1279 n L xs J))))))))))))))))))))
set_option maxRecDepth 100000 in
theorem s_law_1257 {p : Program} {l : Launch} {e : Env} {R : Room} {s : State} {m : MethodId} {args : Array Value} {below : List Frame} {meth : Method} {c : Code} {n nc ns nW b L : Nat} {xs : Nat → Int32} {dC : Nat → ClassId} {dI : Nat → Nat → Nat} {k : Nat → ClassId} {g : Nat → Nat} {A : Nat → Prop} {Qf : State → Prop} {J : Nat → List qV → List qV → qW → Prop} (X : q_X p R s m args meth c code 4 nW 10 231 R_law ret dC dI k g A) (hcells : nc + 0 ≤ R.cells ∧ ns + 0 ≤ R.slots) (hL : L ≤ 3072) (hXs : va_X b L xs s s.heap) (hbl : b < s.heap.size) (hbA : ¬ A b) (hg9 : g 900 = b) (hJ : ∀ d : Nat, q_SdN nc ns p l e R s m args below meth c 4 nW dC dI k g A Qf d (x_cut [0, 1, 2, 3] (J d))) : q_SdN nc ns p l e R s m args below meth c 4 nW dC dI k g A Qf 1257 (b_law_1257 n L xs J) := by
  unfold b_law_1257
  refine sN_aload_n X rfl dL_law_1257 ?_
  refine sN_aload_n X rfl dL_law_1258 ?_
  refine sN_iload_n X rfl dL_law_1259 ?_
  refine sN_iconst X ⟨by decide, by decide⟩ dL_law_1260 ?_
  refine sN_iadd X dL_law_1261 ?_
  refine sN_sld X hXs hbl hbA hg9 dL_law_1262 ?_
  refine sN_aload_n X rfl dL_law_1263 ?_
  refine sN_iload_n X rfl dL_law_1264 ?_
  refine sN_iconst X ⟨by decide, by decide⟩ dL_law_1265 ?_
  refine sN_iadd X dL_law_1266 ?_
  refine sN_sld X hXs hbl hbA hg9 dL_law_1267 ?_
  refine sN_aload_n X rfl dL_law_1268 ?_
  refine sN_iload_n X rfl dL_law_1269 ?_
  refine sN_iconst X ⟨by decide, by decide⟩ dL_law_1270 ?_
  refine sN_iadd X dL_law_1271 ?_
  refine sN_sld X hXs hbl hbA hg9 dL_law_1272 ?_
  refine sN_callN X hcells (q_MN_of n (mL_X11_settled l)) tw_965 tw_966 tw_967 tw_120 tw_968 rfl (by decide +kernel) ⟨by decide, by decide⟩ spN_mo dL_law_1273 ?_
  refine sN_pop X dL_law_1276 ?_
  refine sN_aload_n X rfl dL_law_1277 ?_
  refine sN_aload_n X rfl dL_law_1278 ?_
  exact s_law_1279 X hcells hL hXs hbl hbA hg9 hJ
set_option maxRecDepth 100000 in
def b_law_1236 (n L : Nat) (xs : Nat → Int32) (J : Nat → List qV → List qV → qW → Prop) : qK := x_iload 3 (x_int 1 (x_iadd (x_sldL L xs (x_aload 0 (x_iload 3 (x_int 2 (x_iadd (x_sldL L xs (x_aload 0 (x_iload 3 (x_int 3 (x_iadd (x_sldL L xs (x_callN 12 4 (spN n rkI (fun av => ∃ a b cc : Int, av = [q2 85, q1 a, q1 b, q1 cc])) (x_pop (b_law_1369 n L xs J))))))))))))))))
set_option maxRecDepth 100000 in
theorem s_law_1236 {p : Program} {l : Launch} {e : Env} {R : Room} {s : State} {m : MethodId} {args : Array Value} {below : List Frame} {meth : Method} {c : Code} {n nc ns nW b L : Nat} {xs : Nat → Int32} {dC : Nat → ClassId} {dI : Nat → Nat → Nat} {k : Nat → ClassId} {g : Nat → Nat} {A : Nat → Prop} {Qf : State → Prop} {J : Nat → List qV → List qV → qW → Prop} (X : q_X p R s m args meth c code 4 nW 10 231 R_law ret dC dI k g A) (hcells : nc + 0 ≤ R.cells ∧ ns + 0 ≤ R.slots) (hL : L ≤ 3072) (hXs : va_X b L xs s s.heap) (hbl : b < s.heap.size) (hbA : ¬ A b) (hg9 : g 900 = b) (hJ : ∀ d : Nat, q_SdN nc ns p l e R s m args below meth c 4 nW dC dI k g A Qf d (x_cut [0, 1, 2, 3] (J d))) : q_SdN nc ns p l e R s m args below meth c 4 nW dC dI k g A Qf 1236 (b_law_1236 n L xs J) := by
  unfold b_law_1236
  refine sN_iload_n X rfl dL_law_1236 ?_
  refine sN_iconst X ⟨by decide, by decide⟩ dL_law_1237 ?_
  refine sN_iadd X dL_law_1238 ?_
  refine sN_sld X hXs hbl hbA hg9 dL_law_1239 ?_
  refine sN_aload_n X rfl dL_law_1240 ?_
  refine sN_iload_n X rfl dL_law_1241 ?_
  refine sN_iconst X ⟨by decide, by decide⟩ dL_law_1242 ?_
  refine sN_iadd X dL_law_1243 ?_
  refine sN_sld X hXs hbl hbA hg9 dL_law_1244 ?_
  refine sN_aload_n X rfl dL_law_1245 ?_
  refine sN_iload_n X rfl dL_law_1246 ?_
  refine sN_iconst X ⟨by decide, by decide⟩ dL_law_1247 ?_
  refine sN_iadd X dL_law_1248 ?_
  refine sN_sld X hXs hbl hbA hg9 dL_law_1249 ?_
  refine sN_callN X hcells (q_MN_of n (mL_X12_assumed l)) tw_1448 tw_1449 tw_1450 tw_134 tw_1451 rfl (by decide +kernel) ⟨by decide, by decide⟩ spN_mo dL_law_1250 ?_
  refine sN_pop X dL_law_1253 ?_
  refine sN_goto X (tgt := 1369) dL_law_1254 (by decide) ?_
  exact s_law_1369 X hcells hL hXs hbl hbA hg9 hJ
set_option maxRecDepth 100000 in
def b_law_1214 (n L : Nat) (xs : Nat → Int32) (J : Nat → List qV → List qV → qW → Prop) : qK := x_aload 1 (x_aload 0 (x_iload 3 (x_int 1 (x_iadd (x_sldL L xs (x_aload 0 (x_iload 3 (x_int 2 (x_iadd (x_sldL L xs (x_aload 0 (x_iload 3 (x_int 3 (x_iadd (x_sldL L xs (x_callN 11 4 (spN n rkI (fun av => ∃ a b cc : Int, av = [q2 0, q1 a, q1 b, q1 cc])) (x_pop (x_aload 2 (x_aload 0 (b_law_1236 n L xs J))))))))))))))))))))
set_option maxRecDepth 100000 in
theorem s_law_1214 {p : Program} {l : Launch} {e : Env} {R : Room} {s : State} {m : MethodId} {args : Array Value} {below : List Frame} {meth : Method} {c : Code} {n nc ns nW b L : Nat} {xs : Nat → Int32} {dC : Nat → ClassId} {dI : Nat → Nat → Nat} {k : Nat → ClassId} {g : Nat → Nat} {A : Nat → Prop} {Qf : State → Prop} {J : Nat → List qV → List qV → qW → Prop} (X : q_X p R s m args meth c code 4 nW 10 231 R_law ret dC dI k g A) (hcells : nc + 0 ≤ R.cells ∧ ns + 0 ≤ R.slots) (hL : L ≤ 3072) (hXs : va_X b L xs s s.heap) (hbl : b < s.heap.size) (hbA : ¬ A b) (hg9 : g 900 = b) (hJ : ∀ d : Nat, q_SdN nc ns p l e R s m args below meth c 4 nW dC dI k g A Qf d (x_cut [0, 1, 2, 3] (J d))) : q_SdN nc ns p l e R s m args below meth c 4 nW dC dI k g A Qf 1214 (b_law_1214 n L xs J) := by
  unfold b_law_1214
  refine sN_aload_n X rfl dL_law_1214 ?_
  refine sN_aload_n X rfl dL_law_1215 ?_
  refine sN_iload_n X rfl dL_law_1216 ?_
  refine sN_iconst X ⟨by decide, by decide⟩ dL_law_1217 ?_
  refine sN_iadd X dL_law_1218 ?_
  refine sN_sld X hXs hbl hbA hg9 dL_law_1219 ?_
  refine sN_aload_n X rfl dL_law_1220 ?_
  refine sN_iload_n X rfl dL_law_1221 ?_
  refine sN_iconst X ⟨by decide, by decide⟩ dL_law_1222 ?_
  refine sN_iadd X dL_law_1223 ?_
  refine sN_sld X hXs hbl hbA hg9 dL_law_1224 ?_
  refine sN_aload_n X rfl dL_law_1225 ?_
  refine sN_iload_n X rfl dL_law_1226 ?_
  refine sN_iconst X ⟨by decide, by decide⟩ dL_law_1227 ?_
  refine sN_iadd X dL_law_1228 ?_
  refine sN_sld X hXs hbl hbA hg9 dL_law_1229 ?_
  refine sN_callN X hcells (q_MN_of n (mL_X11_assumed l)) tw_947 tw_948 tw_949 tw_120 tw_950 rfl (by decide +kernel) ⟨by decide, by decide⟩ spN_mo dL_law_1230 ?_
  refine sN_pop X dL_law_1233 ?_
  refine sN_aload_n X rfl dL_law_1234 ?_
  refine sN_aload_n X rfl dL_law_1235 ?_
  exact s_law_1236 X hcells hL hXs hbl hbA hg9 hJ
set_option maxRecDepth 100000 in
def b_law_1207 (n L : Nat) (xs : Nat → Int32) (J : Nat → List qV → List qV → qW → Prop) : qK := x_callN 12 3 (spN n rkI (fun av => ∃ a b : Int, av = [q2 85, q1 a, q1 b])) (x_pop (b_law_1369 n L xs J))
set_option maxRecDepth 100000 in
theorem s_law_1207 {p : Program} {l : Launch} {e : Env} {R : Room} {s : State} {m : MethodId} {args : Array Value} {below : List Frame} {meth : Method} {c : Code} {n nc ns nW b L : Nat} {xs : Nat → Int32} {dC : Nat → ClassId} {dI : Nat → Nat → Nat} {k : Nat → ClassId} {g : Nat → Nat} {A : Nat → Prop} {Qf : State → Prop} {J : Nat → List qV → List qV → qW → Prop} (X : q_X p R s m args meth c code 4 nW 10 231 R_law ret dC dI k g A) (hcells : nc + 0 ≤ R.cells ∧ ns + 0 ≤ R.slots) (hL : L ≤ 3072) (hXs : va_X b L xs s s.heap) (hbl : b < s.heap.size) (hbA : ¬ A b) (hg9 : g 900 = b) (hJ : ∀ d : Nat, q_SdN nc ns p l e R s m args below meth c 4 nW dC dI k g A Qf d (x_cut [0, 1, 2, 3] (J d))) : q_SdN nc ns p l e R s m args below meth c 4 nW dC dI k g A Qf 1207 (b_law_1207 n L xs J) := by
  unfold b_law_1207
  refine sN_callN X hcells (q_MN_of n (mL_X12_teams l)) tw_1444 tw_1445 tw_1446 tw_134 tw_1447 rfl (by decide +kernel) ⟨by decide, by decide⟩ spN_mo dL_law_1207 ?_
  refine sN_pop X dL_law_1210 ?_
  refine sN_goto X (tgt := 1369) dL_law_1211 (by decide) ?_
  exact s_law_1369 X hcells hL hXs hbl hbA hg9 hJ
set_option maxRecDepth 100000 in
def b_law_1184 (n L : Nat) (xs : Nat → Int32) (J : Nat → List qV → List qV → qW → Prop) : qK := x_callN 11 3 (spN n rkI (fun av => ∃ a b : Int, av = [q2 0, q1 a, q1 b])) (x_pop (x_aload 2 (x_aload 0 (x_iload 3 (x_int 1 (x_iadd (x_sldL L xs (x_aload 0 (x_iload 3 (x_int 2 (x_iadd (x_sldL L xs (x_if_eq (x_int 0 (b_law_1207 n L xs J)) (x_int 1 (b_law_1207 n L xs J)))))))))))))))
set_option maxRecDepth 100000 in
theorem s_law_1184 {p : Program} {l : Launch} {e : Env} {R : Room} {s : State} {m : MethodId} {args : Array Value} {below : List Frame} {meth : Method} {c : Code} {n nc ns nW b L : Nat} {xs : Nat → Int32} {dC : Nat → ClassId} {dI : Nat → Nat → Nat} {k : Nat → ClassId} {g : Nat → Nat} {A : Nat → Prop} {Qf : State → Prop} {J : Nat → List qV → List qV → qW → Prop} (X : q_X p R s m args meth c code 4 nW 10 231 R_law ret dC dI k g A) (hcells : nc + 0 ≤ R.cells ∧ ns + 0 ≤ R.slots) (hL : L ≤ 3072) (hXs : va_X b L xs s s.heap) (hbl : b < s.heap.size) (hbA : ¬ A b) (hg9 : g 900 = b) (hJ : ∀ d : Nat, q_SdN nc ns p l e R s m args below meth c 4 nW dC dI k g A Qf d (x_cut [0, 1, 2, 3] (J d))) : q_SdN nc ns p l e R s m args below meth c 4 nW dC dI k g A Qf 1184 (b_law_1184 n L xs J) := by
  unfold b_law_1184
  refine sN_callN X hcells (q_MN_of n (mL_X11_teams l)) tw_931 tw_932 tw_933 tw_120 tw_934 rfl (by decide +kernel) ⟨by decide, by decide⟩ spN_mo dL_law_1184 ?_
  refine sN_pop X dL_law_1187 ?_
  refine sN_aload_n X rfl dL_law_1188 ?_
  refine sN_aload_n X rfl dL_law_1189 ?_
  refine sN_iload_n X rfl dL_law_1190 ?_
  refine sN_iconst X ⟨by decide, by decide⟩ dL_law_1191 ?_
  refine sN_iadd X dL_law_1192 ?_
  refine sN_sld X hXs hbl hbA hg9 dL_law_1193 ?_
  refine sN_aload_n X rfl dL_law_1194 ?_
  refine sN_iload_n X rfl dL_law_1195 ?_
  refine sN_iconst X ⟨by decide, by decide⟩ dL_law_1196 ?_
  refine sN_iadd X dL_law_1197 ?_
  refine sN_sld X hXs hbl hbA hg9 dL_law_1198 ?_
  refine sN_if_eq X (tgt := 1206) dL_law_1199 (by decide) ?_ ?_
  · refine sN_iconst X ⟨by decide, by decide⟩ dL_law_1206 ?_
    exact s_law_1207 X hcells hL hXs hbl hbA hg9 hJ
  · refine sN_iconst X ⟨by decide, by decide⟩ dL_law_1202 ?_
    refine sN_goto X (tgt := 1207) dL_law_1203 (by decide) ?_
    exact s_law_1207 X hcells hL hXs hbl hbA hg9 hJ
set_option maxRecDepth 100000 in
def b_law_1165 (n L : Nat) (xs : Nat → Int32) (J : Nat → List qV → List qV → qW → Prop) : qK := x_aload 1 (x_aload 0 (x_iload 3 (x_int 1 (x_iadd (x_sldL L xs (x_aload 0 (x_iload 3 (x_int 2 (x_iadd (x_sldL L xs (x_if_eq (x_int 0 (b_law_1184 n L xs J)) (x_int 1 (b_law_1184 n L xs J)))))))))))))
set_option maxRecDepth 100000 in
theorem s_law_1165 {p : Program} {l : Launch} {e : Env} {R : Room} {s : State} {m : MethodId} {args : Array Value} {below : List Frame} {meth : Method} {c : Code} {n nc ns nW b L : Nat} {xs : Nat → Int32} {dC : Nat → ClassId} {dI : Nat → Nat → Nat} {k : Nat → ClassId} {g : Nat → Nat} {A : Nat → Prop} {Qf : State → Prop} {J : Nat → List qV → List qV → qW → Prop} (X : q_X p R s m args meth c code 4 nW 10 231 R_law ret dC dI k g A) (hcells : nc + 0 ≤ R.cells ∧ ns + 0 ≤ R.slots) (hL : L ≤ 3072) (hXs : va_X b L xs s s.heap) (hbl : b < s.heap.size) (hbA : ¬ A b) (hg9 : g 900 = b) (hJ : ∀ d : Nat, q_SdN nc ns p l e R s m args below meth c 4 nW dC dI k g A Qf d (x_cut [0, 1, 2, 3] (J d))) : q_SdN nc ns p l e R s m args below meth c 4 nW dC dI k g A Qf 1165 (b_law_1165 n L xs J) := by
  unfold b_law_1165
  refine sN_aload_n X rfl dL_law_1165 ?_
  refine sN_aload_n X rfl dL_law_1166 ?_
  refine sN_iload_n X rfl dL_law_1167 ?_
  refine sN_iconst X ⟨by decide, by decide⟩ dL_law_1168 ?_
  refine sN_iadd X dL_law_1169 ?_
  refine sN_sld X hXs hbl hbA hg9 dL_law_1170 ?_
  refine sN_aload_n X rfl dL_law_1171 ?_
  refine sN_iload_n X rfl dL_law_1172 ?_
  refine sN_iconst X ⟨by decide, by decide⟩ dL_law_1173 ?_
  refine sN_iadd X dL_law_1174 ?_
  refine sN_sld X hXs hbl hbA hg9 dL_law_1175 ?_
  refine sN_if_eq X (tgt := 1183) dL_law_1176 (by decide) ?_ ?_
  · refine sN_iconst X ⟨by decide, by decide⟩ dL_law_1183 ?_
    exact s_law_1184 X hcells hL hXs hbl hbA hg9 hJ
  · refine sN_iconst X ⟨by decide, by decide⟩ dL_law_1179 ?_
    refine sN_goto X (tgt := 1184) dL_law_1180 (by decide) ?_
    exact s_law_1184 X hcells hL hXs hbl hbA hg9 hJ
set_option maxRecDepth 100000 in
def b_law_1157 (n L : Nat) (xs : Nat → Int32) (J : Nat → List qV → List qV → qW → Prop) : qK := x_callN 12 3 (spM n (fun av => ∃ a b : Int, av = [q2 85, q1 a, q1 b]) rlHtM) (x_icmp_eq (b_law_1369 n L xs J) (x_cut [0, 1, 2, 3] (J 1163)))
set_option maxRecDepth 100000 in
theorem s_law_1157 {p : Program} {l : Launch} {e : Env} {R : Room} {s : State} {m : MethodId} {args : Array Value} {below : List Frame} {meth : Method} {c : Code} {n nc ns nW b L : Nat} {xs : Nat → Int32} {dC : Nat → ClassId} {dI : Nat → Nat → Nat} {k : Nat → ClassId} {g : Nat → Nat} {A : Nat → Prop} {Qf : State → Prop} {J : Nat → List qV → List qV → qW → Prop} (X : q_X p R s m args meth c code 4 nW 10 231 R_law ret dC dI k g A) (hcells : nc + 0 ≤ R.cells ∧ ns + 0 ≤ R.slots) (hL : L ≤ 3072) (hXs : va_X b L xs s s.heap) (hbl : b < s.heap.size) (hbA : ¬ A b) (hg9 : g 900 = b) (hJ : ∀ d : Nat, q_SdN nc ns p l e R s m args below meth c 4 nW dC dI k g A Qf d (x_cut [0, 1, 2, 3] (J d))) : q_SdN nc ns p l e R s m args below meth c 4 nW dC dI k g A Qf 1157 (b_law_1157 n L xs J) := by
  unfold b_law_1157
  refine sN_callN X hcells (mN_htM l n) tw_1440 tw_1441 tw_1442 tw_134 tw_1443 rfl (by decide +kernel) ⟨by decide, by decide⟩ spM_mo dL_law_1157 ?_
  refine sN_icmp_eq X (tgt := 1369) dL_law_1160 (by decide) ?_ ?_
  · exact s_law_1369 X hcells hL hXs hbl hbA hg9 hJ
  · exact hJ 1163
set_option maxRecDepth 100000 in
def b_law_1135 (n L : Nat) (xs : Nat → Int32) (J : Nat → List qV → List qV → qW → Prop) : qK := x_callN 11 3 (spM n (fun av => ∃ a b : Int, av = [q2 0, q1 a, q1 b]) rlHtC) (x_aload 2 (x_aload 0 (x_iload 3 (x_int 1 (x_iadd (x_sldL L xs (x_aload 0 (x_iload 3 (x_int 2 (x_iadd (x_sldL L xs (x_if_eq (x_int 0 (b_law_1157 n L xs J)) (x_int 1 (b_law_1157 n L xs J))))))))))))))
set_option maxRecDepth 100000 in
theorem s_law_1135 {p : Program} {l : Launch} {e : Env} {R : Room} {s : State} {m : MethodId} {args : Array Value} {below : List Frame} {meth : Method} {c : Code} {n nc ns nW b L : Nat} {xs : Nat → Int32} {dC : Nat → ClassId} {dI : Nat → Nat → Nat} {k : Nat → ClassId} {g : Nat → Nat} {A : Nat → Prop} {Qf : State → Prop} {J : Nat → List qV → List qV → qW → Prop} (X : q_X p R s m args meth c code 4 nW 10 231 R_law ret dC dI k g A) (hcells : nc + 0 ≤ R.cells ∧ ns + 0 ≤ R.slots) (hL : L ≤ 3072) (hXs : va_X b L xs s s.heap) (hbl : b < s.heap.size) (hbA : ¬ A b) (hg9 : g 900 = b) (hJ : ∀ d : Nat, q_SdN nc ns p l e R s m args below meth c 4 nW dC dI k g A Qf d (x_cut [0, 1, 2, 3] (J d))) : q_SdN nc ns p l e R s m args below meth c 4 nW dC dI k g A Qf 1135 (b_law_1135 n L xs J) := by
  unfold b_law_1135
  refine sN_callN X hcells (mN_htC l n) tw_919 tw_920 tw_921 tw_120 tw_922 rfl (by decide +kernel) ⟨by decide, by decide⟩ spM_mo dL_law_1135 ?_
  refine sN_aload_n X rfl dL_law_1138 ?_
  refine sN_aload_n X rfl dL_law_1139 ?_
  refine sN_iload_n X rfl dL_law_1140 ?_
  refine sN_iconst X ⟨by decide, by decide⟩ dL_law_1141 ?_
  refine sN_iadd X dL_law_1142 ?_
  refine sN_sld X hXs hbl hbA hg9 dL_law_1143 ?_
  refine sN_aload_n X rfl dL_law_1144 ?_
  refine sN_iload_n X rfl dL_law_1145 ?_
  refine sN_iconst X ⟨by decide, by decide⟩ dL_law_1146 ?_
  refine sN_iadd X dL_law_1147 ?_
  refine sN_sld X hXs hbl hbA hg9 dL_law_1148 ?_
  refine sN_if_eq X (tgt := 1156) dL_law_1149 (by decide) ?_ ?_
  · refine sN_iconst X ⟨by decide, by decide⟩ dL_law_1156 ?_
    exact s_law_1157 X hcells hL hXs hbl hbA hg9 hJ
  · refine sN_iconst X ⟨by decide, by decide⟩ dL_law_1152 ?_
    refine sN_goto X (tgt := 1157) dL_law_1153 (by decide) ?_
    exact s_law_1157 X hcells hL hXs hbl hbA hg9 hJ
set_option maxRecDepth 100000 in
def b_law_1116 (n L : Nat) (xs : Nat → Int32) (J : Nat → List qV → List qV → qW → Prop) : qK := x_aload 1 (x_aload 0 (x_iload 3 (x_int 1 (x_iadd (x_sldL L xs (x_aload 0 (x_iload 3 (x_int 2 (x_iadd (x_sldL L xs (x_if_eq (x_int 0 (b_law_1135 n L xs J)) (x_int 1 (b_law_1135 n L xs J)))))))))))))
set_option maxRecDepth 100000 in
theorem s_law_1116 {p : Program} {l : Launch} {e : Env} {R : Room} {s : State} {m : MethodId} {args : Array Value} {below : List Frame} {meth : Method} {c : Code} {n nc ns nW b L : Nat} {xs : Nat → Int32} {dC : Nat → ClassId} {dI : Nat → Nat → Nat} {k : Nat → ClassId} {g : Nat → Nat} {A : Nat → Prop} {Qf : State → Prop} {J : Nat → List qV → List qV → qW → Prop} (X : q_X p R s m args meth c code 4 nW 10 231 R_law ret dC dI k g A) (hcells : nc + 0 ≤ R.cells ∧ ns + 0 ≤ R.slots) (hL : L ≤ 3072) (hXs : va_X b L xs s s.heap) (hbl : b < s.heap.size) (hbA : ¬ A b) (hg9 : g 900 = b) (hJ : ∀ d : Nat, q_SdN nc ns p l e R s m args below meth c 4 nW dC dI k g A Qf d (x_cut [0, 1, 2, 3] (J d))) : q_SdN nc ns p l e R s m args below meth c 4 nW dC dI k g A Qf 1116 (b_law_1116 n L xs J) := by
  unfold b_law_1116
  refine sN_aload_n X rfl dL_law_1116 ?_
  refine sN_aload_n X rfl dL_law_1117 ?_
  refine sN_iload_n X rfl dL_law_1118 ?_
  refine sN_iconst X ⟨by decide, by decide⟩ dL_law_1119 ?_
  refine sN_iadd X dL_law_1120 ?_
  refine sN_sld X hXs hbl hbA hg9 dL_law_1121 ?_
  refine sN_aload_n X rfl dL_law_1122 ?_
  refine sN_iload_n X rfl dL_law_1123 ?_
  refine sN_iconst X ⟨by decide, by decide⟩ dL_law_1124 ?_
  refine sN_iadd X dL_law_1125 ?_
  refine sN_sld X hXs hbl hbA hg9 dL_law_1126 ?_
  refine sN_if_eq X (tgt := 1134) dL_law_1127 (by decide) ?_ ?_
  · refine sN_iconst X ⟨by decide, by decide⟩ dL_law_1134 ?_
    exact s_law_1135 X hcells hL hXs hbl hbA hg9 hJ
  · refine sN_iconst X ⟨by decide, by decide⟩ dL_law_1130 ?_
    refine sN_goto X (tgt := 1135) dL_law_1131 (by decide) ?_
    exact s_law_1135 X hcells hL hXs hbl hbA hg9 hJ
set_option maxRecDepth 100000 in
def b_law_1105 (n L : Nat) (xs : Nat → Int32) (J : Nat → List qV → List qV → qW → Prop) : qK := x_iload 3 (x_int 2 (x_iadd (x_sldL L xs (x_callN 12 3 (spN n rkI (fun av => ∃ a b : Int, av = [q2 85, q1 a, q1 b])) (x_pop (b_law_1369 n L xs J))))))
set_option maxRecDepth 100000 in
theorem s_law_1105 {p : Program} {l : Launch} {e : Env} {R : Room} {s : State} {m : MethodId} {args : Array Value} {below : List Frame} {meth : Method} {c : Code} {n nc ns nW b L : Nat} {xs : Nat → Int32} {dC : Nat → ClassId} {dI : Nat → Nat → Nat} {k : Nat → ClassId} {g : Nat → Nat} {A : Nat → Prop} {Qf : State → Prop} {J : Nat → List qV → List qV → qW → Prop} (X : q_X p R s m args meth c code 4 nW 10 231 R_law ret dC dI k g A) (hcells : nc + 0 ≤ R.cells ∧ ns + 0 ≤ R.slots) (hL : L ≤ 3072) (hXs : va_X b L xs s s.heap) (hbl : b < s.heap.size) (hbA : ¬ A b) (hg9 : g 900 = b) (hJ : ∀ d : Nat, q_SdN nc ns p l e R s m args below meth c 4 nW dC dI k g A Qf d (x_cut [0, 1, 2, 3] (J d))) : q_SdN nc ns p l e R s m args below meth c 4 nW dC dI k g A Qf 1105 (b_law_1105 n L xs J) := by
  unfold b_law_1105
  refine sN_iload_n X rfl dL_law_1105 ?_
  refine sN_iconst X ⟨by decide, by decide⟩ dL_law_1106 ?_
  refine sN_iadd X dL_law_1107 ?_
  refine sN_sld X hXs hbl hbA hg9 dL_law_1108 ?_
  refine sN_callN X hcells (q_MN_of n (mL_X12_shoulders l)) tw_1436 tw_1437 tw_1438 tw_134 tw_1439 rfl (by decide +kernel) ⟨by decide, by decide⟩ spN_mo dL_law_1109 ?_
  refine sN_pop X dL_law_1112 ?_
  refine sN_goto X (tgt := 1369) dL_law_1113 (by decide) ?_
  exact s_law_1369 X hcells hL hXs hbl hbA hg9 hJ
set_option maxRecDepth 100000 in
def b_law_1083 (n L : Nat) (xs : Nat → Int32) (J : Nat → List qV → List qV → qW → Prop) : qK := x_aload 1 (x_aload 0 (x_iload 3 (x_int 1 (x_iadd (x_sldL L xs (x_aload 0 (x_iload 3 (x_int 2 (x_iadd (x_sldL L xs (x_callN 11 3 (spN n rkI (fun av => ∃ a b : Int, av = [q2 0, q1 a, q1 b])) (x_pop (x_aload 2 (x_aload 0 (x_iload 3 (x_int 1 (x_iadd (x_sldL L xs (x_aload 0 (b_law_1105 n L xs J))))))))))))))))))))
set_option maxRecDepth 100000 in
theorem s_law_1083 {p : Program} {l : Launch} {e : Env} {R : Room} {s : State} {m : MethodId} {args : Array Value} {below : List Frame} {meth : Method} {c : Code} {n nc ns nW b L : Nat} {xs : Nat → Int32} {dC : Nat → ClassId} {dI : Nat → Nat → Nat} {k : Nat → ClassId} {g : Nat → Nat} {A : Nat → Prop} {Qf : State → Prop} {J : Nat → List qV → List qV → qW → Prop} (X : q_X p R s m args meth c code 4 nW 10 231 R_law ret dC dI k g A) (hcells : nc + 0 ≤ R.cells ∧ ns + 0 ≤ R.slots) (hL : L ≤ 3072) (hXs : va_X b L xs s s.heap) (hbl : b < s.heap.size) (hbA : ¬ A b) (hg9 : g 900 = b) (hJ : ∀ d : Nat, q_SdN nc ns p l e R s m args below meth c 4 nW dC dI k g A Qf d (x_cut [0, 1, 2, 3] (J d))) : q_SdN nc ns p l e R s m args below meth c 4 nW dC dI k g A Qf 1083 (b_law_1083 n L xs J) := by
  unfold b_law_1083
  refine sN_aload_n X rfl dL_law_1083 ?_
  refine sN_aload_n X rfl dL_law_1084 ?_
  refine sN_iload_n X rfl dL_law_1085 ?_
  refine sN_iconst X ⟨by decide, by decide⟩ dL_law_1086 ?_
  refine sN_iadd X dL_law_1087 ?_
  refine sN_sld X hXs hbl hbA hg9 dL_law_1088 ?_
  refine sN_aload_n X rfl dL_law_1089 ?_
  refine sN_iload_n X rfl dL_law_1090 ?_
  refine sN_iconst X ⟨by decide, by decide⟩ dL_law_1091 ?_
  refine sN_iadd X dL_law_1092 ?_
  refine sN_sld X hXs hbl hbA hg9 dL_law_1093 ?_
  refine sN_callN X hcells (q_MN_of n (mL_X11_shoulders l)) tw_915 tw_916 tw_917 tw_120 tw_918 rfl (by decide +kernel) ⟨by decide, by decide⟩ spN_mo dL_law_1094 ?_
  refine sN_pop X dL_law_1097 ?_
  refine sN_aload_n X rfl dL_law_1098 ?_
  refine sN_aload_n X rfl dL_law_1099 ?_
  refine sN_iload_n X rfl dL_law_1100 ?_
  refine sN_iconst X ⟨by decide, by decide⟩ dL_law_1101 ?_
  refine sN_iadd X dL_law_1102 ?_
  refine sN_sld X hXs hbl hbA hg9 dL_law_1103 ?_
  refine sN_aload_n X rfl dL_law_1104 ?_
  exact s_law_1105 X hcells hL hXs hbl hbA hg9 hJ
set_option maxRecDepth 100000 in
def b_law_1072 (n L : Nat) (xs : Nat → Int32) (J : Nat → List qV → List qV → qW → Prop) : qK := x_iload 3 (x_int 2 (x_iadd (x_sldL L xs (x_callN 12 3 (spN n rkL (fun av => ∃ a b : Int, av = [q2 85, q1 a, q1 b])) (x_pop2 (b_law_1369 n L xs J))))))
set_option maxRecDepth 100000 in
theorem s_law_1072 {p : Program} {l : Launch} {e : Env} {R : Room} {s : State} {m : MethodId} {args : Array Value} {below : List Frame} {meth : Method} {c : Code} {n nc ns nW b L : Nat} {xs : Nat → Int32} {dC : Nat → ClassId} {dI : Nat → Nat → Nat} {k : Nat → ClassId} {g : Nat → Nat} {A : Nat → Prop} {Qf : State → Prop} {J : Nat → List qV → List qV → qW → Prop} (X : q_X p R s m args meth c code 4 nW 10 231 R_law ret dC dI k g A) (hcells : nc + 0 ≤ R.cells ∧ ns + 0 ≤ R.slots) (hL : L ≤ 3072) (hXs : va_X b L xs s s.heap) (hbl : b < s.heap.size) (hbA : ¬ A b) (hg9 : g 900 = b) (hJ : ∀ d : Nat, q_SdN nc ns p l e R s m args below meth c 4 nW dC dI k g A Qf d (x_cut [0, 1, 2, 3] (J d))) : q_SdN nc ns p l e R s m args below meth c 4 nW dC dI k g A Qf 1072 (b_law_1072 n L xs J) := by
  unfold b_law_1072
  refine sN_iload_n X rfl dL_law_1072 ?_
  refine sN_iconst X ⟨by decide, by decide⟩ dL_law_1073 ?_
  refine sN_iadd X dL_law_1074 ?_
  refine sN_sld X hXs hbl hbA hg9 dL_law_1075 ?_
  refine sN_callN X hcells (q_MN_of n (mL_X12_views l)) tw_1429 tw_1430 tw_1431 tw_134 tw_1432 rfl (by decide +kernel) ⟨by decide, by decide⟩ spN_mo dL_law_1076 ?_
  refine sN_pop2 X dL_law_1079 ?_
  refine sN_goto X (tgt := 1369) dL_law_1080 (by decide) ?_
  exact s_law_1369 X hcells hL hXs hbl hbA hg9 hJ
set_option maxRecDepth 100000 in
def b_law_1050 (n L : Nat) (xs : Nat → Int32) (J : Nat → List qV → List qV → qW → Prop) : qK := x_aload 1 (x_aload 0 (x_iload 3 (x_int 1 (x_iadd (x_sldL L xs (x_aload 0 (x_iload 3 (x_int 2 (x_iadd (x_sldL L xs (x_callN 11 3 (spN n rkL (fun av => ∃ a b : Int, av = [q2 0, q1 a, q1 b])) (x_pop2 (x_aload 2 (x_aload 0 (x_iload 3 (x_int 1 (x_iadd (x_sldL L xs (x_aload 0 (b_law_1072 n L xs J))))))))))))))))))))
set_option maxRecDepth 100000 in
theorem s_law_1050 {p : Program} {l : Launch} {e : Env} {R : Room} {s : State} {m : MethodId} {args : Array Value} {below : List Frame} {meth : Method} {c : Code} {n nc ns nW b L : Nat} {xs : Nat → Int32} {dC : Nat → ClassId} {dI : Nat → Nat → Nat} {k : Nat → ClassId} {g : Nat → Nat} {A : Nat → Prop} {Qf : State → Prop} {J : Nat → List qV → List qV → qW → Prop} (X : q_X p R s m args meth c code 4 nW 10 231 R_law ret dC dI k g A) (hcells : nc + 0 ≤ R.cells ∧ ns + 0 ≤ R.slots) (hL : L ≤ 3072) (hXs : va_X b L xs s s.heap) (hbl : b < s.heap.size) (hbA : ¬ A b) (hg9 : g 900 = b) (hJ : ∀ d : Nat, q_SdN nc ns p l e R s m args below meth c 4 nW dC dI k g A Qf d (x_cut [0, 1, 2, 3] (J d))) : q_SdN nc ns p l e R s m args below meth c 4 nW dC dI k g A Qf 1050 (b_law_1050 n L xs J) := by
  unfold b_law_1050
  refine sN_aload_n X rfl dL_law_1050 ?_
  refine sN_aload_n X rfl dL_law_1051 ?_
  refine sN_iload_n X rfl dL_law_1052 ?_
  refine sN_iconst X ⟨by decide, by decide⟩ dL_law_1053 ?_
  refine sN_iadd X dL_law_1054 ?_
  refine sN_sld X hXs hbl hbA hg9 dL_law_1055 ?_
  refine sN_aload_n X rfl dL_law_1056 ?_
  refine sN_iload_n X rfl dL_law_1057 ?_
  refine sN_iconst X ⟨by decide, by decide⟩ dL_law_1058 ?_
  refine sN_iadd X dL_law_1059 ?_
  refine sN_sld X hXs hbl hbA hg9 dL_law_1060 ?_
  refine sN_callN X hcells (q_MN_of n (mL_X11_views l)) tw_903 tw_904 tw_905 tw_120 tw_906 rfl (by decide +kernel) ⟨by decide, by decide⟩ spN_mo dL_law_1061 ?_
  refine sN_pop2 X dL_law_1064 ?_
  refine sN_aload_n X rfl dL_law_1065 ?_
  refine sN_aload_n X rfl dL_law_1066 ?_
  refine sN_iload_n X rfl dL_law_1067 ?_
  refine sN_iconst X ⟨by decide, by decide⟩ dL_law_1068 ?_
  refine sN_iadd X dL_law_1069 ?_
  refine sN_sld X hXs hbl hbA hg9 dL_law_1070 ?_
  refine sN_aload_n X rfl dL_law_1071 ?_
  exact s_law_1072 X hcells hL hXs hbl hbA hg9 hJ
set_option maxRecDepth 100000 in
def b_law_1029 (n L : Nat) (xs : Nat → Int32) (J : Nat → List qV → List qV → qW → Prop) : qK := x_iload 3 (x_int 1 (x_iadd (x_sldL L xs (x_aload 0 (x_iload 3 (x_int 2 (x_iadd (x_sldL L xs (x_aload 0 (x_iload 3 (x_int 3 (x_iadd (x_sldL L xs (x_callN 12 4 (spN n rkI (fun av => ∃ a b cc : Int, av = [q2 85, q1 a, q1 b, q1 cc])) (x_pop (b_law_1369 n L xs J))))))))))))))))
set_option maxRecDepth 100000 in
theorem s_law_1029 {p : Program} {l : Launch} {e : Env} {R : Room} {s : State} {m : MethodId} {args : Array Value} {below : List Frame} {meth : Method} {c : Code} {n nc ns nW b L : Nat} {xs : Nat → Int32} {dC : Nat → ClassId} {dI : Nat → Nat → Nat} {k : Nat → ClassId} {g : Nat → Nat} {A : Nat → Prop} {Qf : State → Prop} {J : Nat → List qV → List qV → qW → Prop} (X : q_X p R s m args meth c code 4 nW 10 231 R_law ret dC dI k g A) (hcells : nc + 0 ≤ R.cells ∧ ns + 0 ≤ R.slots) (hL : L ≤ 3072) (hXs : va_X b L xs s s.heap) (hbl : b < s.heap.size) (hbA : ¬ A b) (hg9 : g 900 = b) (hJ : ∀ d : Nat, q_SdN nc ns p l e R s m args below meth c 4 nW dC dI k g A Qf d (x_cut [0, 1, 2, 3] (J d))) : q_SdN nc ns p l e R s m args below meth c 4 nW dC dI k g A Qf 1029 (b_law_1029 n L xs J) := by
  unfold b_law_1029
  refine sN_iload_n X rfl dL_law_1029 ?_
  refine sN_iconst X ⟨by decide, by decide⟩ dL_law_1030 ?_
  refine sN_iadd X dL_law_1031 ?_
  refine sN_sld X hXs hbl hbA hg9 dL_law_1032 ?_
  refine sN_aload_n X rfl dL_law_1033 ?_
  refine sN_iload_n X rfl dL_law_1034 ?_
  refine sN_iconst X ⟨by decide, by decide⟩ dL_law_1035 ?_
  refine sN_iadd X dL_law_1036 ?_
  refine sN_sld X hXs hbl hbA hg9 dL_law_1037 ?_
  refine sN_aload_n X rfl dL_law_1038 ?_
  refine sN_iload_n X rfl dL_law_1039 ?_
  refine sN_iconst X ⟨by decide, by decide⟩ dL_law_1040 ?_
  refine sN_iadd X dL_law_1041 ?_
  refine sN_sld X hXs hbl hbA hg9 dL_law_1042 ?_
  refine sN_callN X hcells (q_MN_of n (mL_X12_family l)) tw_1425 tw_1426 tw_1427 tw_134 tw_1428 rfl (by decide +kernel) ⟨by decide, by decide⟩ spN_mo dL_law_1043 ?_
  refine sN_pop X dL_law_1046 ?_
  refine sN_goto X (tgt := 1369) dL_law_1047 (by decide) ?_
  exact s_law_1369 X hcells hL hXs hbl hbA hg9 hJ
set_option maxRecDepth 100000 in
def b_law_1007 (n L : Nat) (xs : Nat → Int32) (J : Nat → List qV → List qV → qW → Prop) : qK := x_aload 1 (x_aload 0 (x_iload 3 (x_int 1 (x_iadd (x_sldL L xs (x_aload 0 (x_iload 3 (x_int 2 (x_iadd (x_sldL L xs (x_aload 0 (x_iload 3 (x_int 3 (x_iadd (x_sldL L xs (x_callN 11 4 (spN n rkI (fun av => ∃ a b cc : Int, av = [q2 0, q1 a, q1 b, q1 cc])) (x_pop (x_aload 2 (x_aload 0 (b_law_1029 n L xs J))))))))))))))))))))
set_option maxRecDepth 100000 in
theorem s_law_1007 {p : Program} {l : Launch} {e : Env} {R : Room} {s : State} {m : MethodId} {args : Array Value} {below : List Frame} {meth : Method} {c : Code} {n nc ns nW b L : Nat} {xs : Nat → Int32} {dC : Nat → ClassId} {dI : Nat → Nat → Nat} {k : Nat → ClassId} {g : Nat → Nat} {A : Nat → Prop} {Qf : State → Prop} {J : Nat → List qV → List qV → qW → Prop} (X : q_X p R s m args meth c code 4 nW 10 231 R_law ret dC dI k g A) (hcells : nc + 0 ≤ R.cells ∧ ns + 0 ≤ R.slots) (hL : L ≤ 3072) (hXs : va_X b L xs s s.heap) (hbl : b < s.heap.size) (hbA : ¬ A b) (hg9 : g 900 = b) (hJ : ∀ d : Nat, q_SdN nc ns p l e R s m args below meth c 4 nW dC dI k g A Qf d (x_cut [0, 1, 2, 3] (J d))) : q_SdN nc ns p l e R s m args below meth c 4 nW dC dI k g A Qf 1007 (b_law_1007 n L xs J) := by
  unfold b_law_1007
  refine sN_aload_n X rfl dL_law_1007 ?_
  refine sN_aload_n X rfl dL_law_1008 ?_
  refine sN_iload_n X rfl dL_law_1009 ?_
  refine sN_iconst X ⟨by decide, by decide⟩ dL_law_1010 ?_
  refine sN_iadd X dL_law_1011 ?_
  refine sN_sld X hXs hbl hbA hg9 dL_law_1012 ?_
  refine sN_aload_n X rfl dL_law_1013 ?_
  refine sN_iload_n X rfl dL_law_1014 ?_
  refine sN_iconst X ⟨by decide, by decide⟩ dL_law_1015 ?_
  refine sN_iadd X dL_law_1016 ?_
  refine sN_sld X hXs hbl hbA hg9 dL_law_1017 ?_
  refine sN_aload_n X rfl dL_law_1018 ?_
  refine sN_iload_n X rfl dL_law_1019 ?_
  refine sN_iconst X ⟨by decide, by decide⟩ dL_law_1020 ?_
  refine sN_iadd X dL_law_1021 ?_
  refine sN_sld X hXs hbl hbA hg9 dL_law_1022 ?_
  refine sN_callN X hcells (q_MN_of n (mL_X11_family l)) tw_886 tw_887 tw_888 tw_120 tw_889 rfl (by decide +kernel) ⟨by decide, by decide⟩ spN_mo dL_law_1023 ?_
  refine sN_pop X dL_law_1026 ?_
  refine sN_aload_n X rfl dL_law_1027 ?_
  refine sN_aload_n X rfl dL_law_1028 ?_
  exact s_law_1029 X hcells hL hXs hbl hbA hg9 hJ
set_option maxRecDepth 100000 in
def b_law_996 (n L : Nat) (xs : Nat → Int32) (J : Nat → List qV → List qV → qW → Prop) : qK := x_iload 3 (x_int 4 (x_iadd (x_sldL L xs (x_callN 12 5 (spN n rkI (fun av => ∃ a b cc dd : Int, av = [q2 85, q1 a, q1 b, q1 cc, q1 dd])) (x_pop (b_law_1369 n L xs J))))))
set_option maxRecDepth 100000 in
theorem s_law_996 {p : Program} {l : Launch} {e : Env} {R : Room} {s : State} {m : MethodId} {args : Array Value} {below : List Frame} {meth : Method} {c : Code} {n nc ns nW b L : Nat} {xs : Nat → Int32} {dC : Nat → ClassId} {dI : Nat → Nat → Nat} {k : Nat → ClassId} {g : Nat → Nat} {A : Nat → Prop} {Qf : State → Prop} {J : Nat → List qV → List qV → qW → Prop} (X : q_X p R s m args meth c code 4 nW 10 231 R_law ret dC dI k g A) (hcells : nc + 0 ≤ R.cells ∧ ns + 0 ≤ R.slots) (hL : L ≤ 3072) (hXs : va_X b L xs s s.heap) (hbl : b < s.heap.size) (hbA : ¬ A b) (hg9 : g 900 = b) (hJ : ∀ d : Nat, q_SdN nc ns p l e R s m args below meth c 4 nW dC dI k g A Qf d (x_cut [0, 1, 2, 3] (J d))) : q_SdN nc ns p l e R s m args below meth c 4 nW dC dI k g A Qf 996 (b_law_996 n L xs J) := by
  unfold b_law_996
  refine sN_iload_n X rfl dL_law_996 ?_
  refine sN_iconst X ⟨by decide, by decide⟩ dL_law_997 ?_
  refine sN_iadd X dL_law_998 ?_
  refine sN_sld X hXs hbl hbA hg9 dL_law_999 ?_
  refine sN_callN X hcells (q_MN_of n (mL_X12_drawn l)) tw_1414 tw_1415 tw_1416 tw_134 tw_1417 rfl (by decide +kernel) ⟨by decide, by decide⟩ spN_mo dL_law_1000 ?_
  refine sN_pop X dL_law_1003 ?_
  refine sN_goto X (tgt := 1369) dL_law_1004 (by decide) ?_
  exact s_law_1369 X hcells hL hXs hbl hbA hg9 hJ
set_option maxRecDepth 100000 in
def b_law_974 (n L : Nat) (xs : Nat → Int32) (J : Nat → List qV → List qV → qW → Prop) : qK := x_sldL L xs (x_callN 11 5 (spN n rkI (fun av => ∃ a b cc dd : Int, av = [q2 0, q1 a, q1 b, q1 cc, q1 dd])) (x_pop (x_aload 2 (x_aload 0 (x_iload 3 (x_int 1 (x_iadd (x_sldL L xs (x_aload 0 (x_iload 3 (x_int 2 (x_iadd (x_sldL L xs (x_aload 0 (x_iload 3 (x_int 3 (x_iadd (x_sldL L xs (x_aload 0 (b_law_996 n L xs J))))))))))))))))))))
set_option maxRecDepth 100000 in
theorem s_law_974 {p : Program} {l : Launch} {e : Env} {R : Room} {s : State} {m : MethodId} {args : Array Value} {below : List Frame} {meth : Method} {c : Code} {n nc ns nW b L : Nat} {xs : Nat → Int32} {dC : Nat → ClassId} {dI : Nat → Nat → Nat} {k : Nat → ClassId} {g : Nat → Nat} {A : Nat → Prop} {Qf : State → Prop} {J : Nat → List qV → List qV → qW → Prop} (X : q_X p R s m args meth c code 4 nW 10 231 R_law ret dC dI k g A) (hcells : nc + 0 ≤ R.cells ∧ ns + 0 ≤ R.slots) (hL : L ≤ 3072) (hXs : va_X b L xs s s.heap) (hbl : b < s.heap.size) (hbA : ¬ A b) (hg9 : g 900 = b) (hJ : ∀ d : Nat, q_SdN nc ns p l e R s m args below meth c 4 nW dC dI k g A Qf d (x_cut [0, 1, 2, 3] (J d))) : q_SdN nc ns p l e R s m args below meth c 4 nW dC dI k g A Qf 974 (b_law_974 n L xs J) := by
  unfold b_law_974
  refine sN_sld X hXs hbl hbA hg9 dL_law_974 ?_
  refine sN_callN X hcells (q_MN_of n (mL_X11_drawn l)) tw_874 tw_875 tw_876 tw_120 tw_877 rfl (by decide +kernel) ⟨by decide, by decide⟩ spN_mo dL_law_975 ?_
  refine sN_pop X dL_law_978 ?_
  refine sN_aload_n X rfl dL_law_979 ?_
  refine sN_aload_n X rfl dL_law_980 ?_
  refine sN_iload_n X rfl dL_law_981 ?_
  refine sN_iconst X ⟨by decide, by decide⟩ dL_law_982 ?_
  refine sN_iadd X dL_law_983 ?_
  refine sN_sld X hXs hbl hbA hg9 dL_law_984 ?_
  refine sN_aload_n X rfl dL_law_985 ?_
  refine sN_iload_n X rfl dL_law_986 ?_
  refine sN_iconst X ⟨by decide, by decide⟩ dL_law_987 ?_
  refine sN_iadd X dL_law_988 ?_
  refine sN_sld X hXs hbl hbA hg9 dL_law_989 ?_
  refine sN_aload_n X rfl dL_law_990 ?_
  refine sN_iload_n X rfl dL_law_991 ?_
  refine sN_iconst X ⟨by decide, by decide⟩ dL_law_992 ?_
  refine sN_iadd X dL_law_993 ?_
  refine sN_sld X hXs hbl hbA hg9 dL_law_994 ?_
  refine sN_aload_n X rfl dL_law_995 ?_
  exact s_law_996 X hcells hL hXs hbl hbA hg9 hJ
set_option maxRecDepth 100000 in
def b_law_954 (n L : Nat) (xs : Nat → Int32) (J : Nat → List qV → List qV → qW → Prop) : qK := x_aload 1 (x_aload 0 (x_iload 3 (x_int 1 (x_iadd (x_sldL L xs (x_aload 0 (x_iload 3 (x_int 2 (x_iadd (x_sldL L xs (x_aload 0 (x_iload 3 (x_int 3 (x_iadd (x_sldL L xs (x_aload 0 (x_iload 3 (x_int 4 (x_iadd (b_law_974 n L xs J))))))))))))))))))))
set_option maxRecDepth 100000 in
theorem s_law_954 {p : Program} {l : Launch} {e : Env} {R : Room} {s : State} {m : MethodId} {args : Array Value} {below : List Frame} {meth : Method} {c : Code} {n nc ns nW b L : Nat} {xs : Nat → Int32} {dC : Nat → ClassId} {dI : Nat → Nat → Nat} {k : Nat → ClassId} {g : Nat → Nat} {A : Nat → Prop} {Qf : State → Prop} {J : Nat → List qV → List qV → qW → Prop} (X : q_X p R s m args meth c code 4 nW 10 231 R_law ret dC dI k g A) (hcells : nc + 0 ≤ R.cells ∧ ns + 0 ≤ R.slots) (hL : L ≤ 3072) (hXs : va_X b L xs s s.heap) (hbl : b < s.heap.size) (hbA : ¬ A b) (hg9 : g 900 = b) (hJ : ∀ d : Nat, q_SdN nc ns p l e R s m args below meth c 4 nW dC dI k g A Qf d (x_cut [0, 1, 2, 3] (J d))) : q_SdN nc ns p l e R s m args below meth c 4 nW dC dI k g A Qf 954 (b_law_954 n L xs J) := by
  unfold b_law_954
  refine sN_aload_n X rfl dL_law_954 ?_
  refine sN_aload_n X rfl dL_law_955 ?_
  refine sN_iload_n X rfl dL_law_956 ?_
  refine sN_iconst X ⟨by decide, by decide⟩ dL_law_957 ?_
  refine sN_iadd X dL_law_958 ?_
  refine sN_sld X hXs hbl hbA hg9 dL_law_959 ?_
  refine sN_aload_n X rfl dL_law_960 ?_
  refine sN_iload_n X rfl dL_law_961 ?_
  refine sN_iconst X ⟨by decide, by decide⟩ dL_law_962 ?_
  refine sN_iadd X dL_law_963 ?_
  refine sN_sld X hXs hbl hbA hg9 dL_law_964 ?_
  refine sN_aload_n X rfl dL_law_965 ?_
  refine sN_iload_n X rfl dL_law_966 ?_
  refine sN_iconst X ⟨by decide, by decide⟩ dL_law_967 ?_
  refine sN_iadd X dL_law_968 ?_
  refine sN_sld X hXs hbl hbA hg9 dL_law_969 ?_
  refine sN_aload_n X rfl dL_law_970 ?_
  refine sN_iload_n X rfl dL_law_971 ?_
  refine sN_iconst X ⟨by decide, by decide⟩ dL_law_972 ?_
  refine sN_iadd X dL_law_973 ?_
  exact s_law_974 X hcells hL hXs hbl hbA hg9 hJ
set_option maxRecDepth 100000 in
def b_law_943 (n L : Nat) (xs : Nat → Int32) (J : Nat → List qV → List qV → qW → Prop) : qK := x_iload 3 (x_int 4 (x_iadd (x_sldL L xs (x_callN 12 5 (spN n rkI (fun av => ∃ a b cc dd : Int, av = [q2 85, q1 a, q1 b, q1 cc, q1 dd])) (x_pop (b_law_1369 n L xs J))))))
set_option maxRecDepth 100000 in
theorem s_law_943 {p : Program} {l : Launch} {e : Env} {R : Room} {s : State} {m : MethodId} {args : Array Value} {below : List Frame} {meth : Method} {c : Code} {n nc ns nW b L : Nat} {xs : Nat → Int32} {dC : Nat → ClassId} {dI : Nat → Nat → Nat} {k : Nat → ClassId} {g : Nat → Nat} {A : Nat → Prop} {Qf : State → Prop} {J : Nat → List qV → List qV → qW → Prop} (X : q_X p R s m args meth c code 4 nW 10 231 R_law ret dC dI k g A) (hcells : nc + 0 ≤ R.cells ∧ ns + 0 ≤ R.slots) (hL : L ≤ 3072) (hXs : va_X b L xs s s.heap) (hbl : b < s.heap.size) (hbA : ¬ A b) (hg9 : g 900 = b) (hJ : ∀ d : Nat, q_SdN nc ns p l e R s m args below meth c 4 nW dC dI k g A Qf d (x_cut [0, 1, 2, 3] (J d))) : q_SdN nc ns p l e R s m args below meth c 4 nW dC dI k g A Qf 943 (b_law_943 n L xs J) := by
  unfold b_law_943
  refine sN_iload_n X rfl dL_law_943 ?_
  refine sN_iconst X ⟨by decide, by decide⟩ dL_law_944 ?_
  refine sN_iadd X dL_law_945 ?_
  refine sN_sld X hXs hbl hbA hg9 dL_law_946 ?_
  refine sN_callN X hcells (q_MN_of n (mL_X12_sure l)) tw_1407 tw_1408 tw_1409 tw_134 tw_1410 rfl (by decide +kernel) ⟨by decide, by decide⟩ spN_mo dL_law_947 ?_
  refine sN_pop X dL_law_950 ?_
  refine sN_goto X (tgt := 1369) dL_law_951 (by decide) ?_
  exact s_law_1369 X hcells hL hXs hbl hbA hg9 hJ
set_option maxRecDepth 100000 in
def b_law_921 (n L : Nat) (xs : Nat → Int32) (J : Nat → List qV → List qV → qW → Prop) : qK := x_sldL L xs (x_callN 11 5 (spN n rkI (fun av => ∃ a b cc dd : Int, av = [q2 0, q1 a, q1 b, q1 cc, q1 dd])) (x_pop (x_aload 2 (x_aload 0 (x_iload 3 (x_int 1 (x_iadd (x_sldL L xs (x_aload 0 (x_iload 3 (x_int 2 (x_iadd (x_sldL L xs (x_aload 0 (x_iload 3 (x_int 3 (x_iadd (x_sldL L xs (x_aload 0 (b_law_943 n L xs J))))))))))))))))))))
set_option maxRecDepth 100000 in
theorem s_law_921 {p : Program} {l : Launch} {e : Env} {R : Room} {s : State} {m : MethodId} {args : Array Value} {below : List Frame} {meth : Method} {c : Code} {n nc ns nW b L : Nat} {xs : Nat → Int32} {dC : Nat → ClassId} {dI : Nat → Nat → Nat} {k : Nat → ClassId} {g : Nat → Nat} {A : Nat → Prop} {Qf : State → Prop} {J : Nat → List qV → List qV → qW → Prop} (X : q_X p R s m args meth c code 4 nW 10 231 R_law ret dC dI k g A) (hcells : nc + 0 ≤ R.cells ∧ ns + 0 ≤ R.slots) (hL : L ≤ 3072) (hXs : va_X b L xs s s.heap) (hbl : b < s.heap.size) (hbA : ¬ A b) (hg9 : g 900 = b) (hJ : ∀ d : Nat, q_SdN nc ns p l e R s m args below meth c 4 nW dC dI k g A Qf d (x_cut [0, 1, 2, 3] (J d))) : q_SdN nc ns p l e R s m args below meth c 4 nW dC dI k g A Qf 921 (b_law_921 n L xs J) := by
  unfold b_law_921
  refine sN_sld X hXs hbl hbA hg9 dL_law_921 ?_
  refine sN_callN X hcells (q_MN_of n (mL_X11_sure l)) tw_855 tw_856 tw_857 tw_120 tw_858 rfl (by decide +kernel) ⟨by decide, by decide⟩ spN_mo dL_law_922 ?_
  refine sN_pop X dL_law_925 ?_
  refine sN_aload_n X rfl dL_law_926 ?_
  refine sN_aload_n X rfl dL_law_927 ?_
  refine sN_iload_n X rfl dL_law_928 ?_
  refine sN_iconst X ⟨by decide, by decide⟩ dL_law_929 ?_
  refine sN_iadd X dL_law_930 ?_
  refine sN_sld X hXs hbl hbA hg9 dL_law_931 ?_
  refine sN_aload_n X rfl dL_law_932 ?_
  refine sN_iload_n X rfl dL_law_933 ?_
  refine sN_iconst X ⟨by decide, by decide⟩ dL_law_934 ?_
  refine sN_iadd X dL_law_935 ?_
  refine sN_sld X hXs hbl hbA hg9 dL_law_936 ?_
  refine sN_aload_n X rfl dL_law_937 ?_
  refine sN_iload_n X rfl dL_law_938 ?_
  refine sN_iconst X ⟨by decide, by decide⟩ dL_law_939 ?_
  refine sN_iadd X dL_law_940 ?_
  refine sN_sld X hXs hbl hbA hg9 dL_law_941 ?_
  refine sN_aload_n X rfl dL_law_942 ?_
  exact s_law_943 X hcells hL hXs hbl hbA hg9 hJ
set_option maxRecDepth 100000 in
def b_law_901 (n L : Nat) (xs : Nat → Int32) (J : Nat → List qV → List qV → qW → Prop) : qK := x_aload 1 (x_aload 0 (x_iload 3 (x_int 1 (x_iadd (x_sldL L xs (x_aload 0 (x_iload 3 (x_int 2 (x_iadd (x_sldL L xs (x_aload 0 (x_iload 3 (x_int 3 (x_iadd (x_sldL L xs (x_aload 0 (x_iload 3 (x_int 4 (x_iadd (b_law_921 n L xs J))))))))))))))))))))
set_option maxRecDepth 100000 in
theorem s_law_901 {p : Program} {l : Launch} {e : Env} {R : Room} {s : State} {m : MethodId} {args : Array Value} {below : List Frame} {meth : Method} {c : Code} {n nc ns nW b L : Nat} {xs : Nat → Int32} {dC : Nat → ClassId} {dI : Nat → Nat → Nat} {k : Nat → ClassId} {g : Nat → Nat} {A : Nat → Prop} {Qf : State → Prop} {J : Nat → List qV → List qV → qW → Prop} (X : q_X p R s m args meth c code 4 nW 10 231 R_law ret dC dI k g A) (hcells : nc + 0 ≤ R.cells ∧ ns + 0 ≤ R.slots) (hL : L ≤ 3072) (hXs : va_X b L xs s s.heap) (hbl : b < s.heap.size) (hbA : ¬ A b) (hg9 : g 900 = b) (hJ : ∀ d : Nat, q_SdN nc ns p l e R s m args below meth c 4 nW dC dI k g A Qf d (x_cut [0, 1, 2, 3] (J d))) : q_SdN nc ns p l e R s m args below meth c 4 nW dC dI k g A Qf 901 (b_law_901 n L xs J) := by
  unfold b_law_901
  refine sN_aload_n X rfl dL_law_901 ?_
  refine sN_aload_n X rfl dL_law_902 ?_
  refine sN_iload_n X rfl dL_law_903 ?_
  refine sN_iconst X ⟨by decide, by decide⟩ dL_law_904 ?_
  refine sN_iadd X dL_law_905 ?_
  refine sN_sld X hXs hbl hbA hg9 dL_law_906 ?_
  refine sN_aload_n X rfl dL_law_907 ?_
  refine sN_iload_n X rfl dL_law_908 ?_
  refine sN_iconst X ⟨by decide, by decide⟩ dL_law_909 ?_
  refine sN_iadd X dL_law_910 ?_
  refine sN_sld X hXs hbl hbA hg9 dL_law_911 ?_
  refine sN_aload_n X rfl dL_law_912 ?_
  refine sN_iload_n X rfl dL_law_913 ?_
  refine sN_iconst X ⟨by decide, by decide⟩ dL_law_914 ?_
  refine sN_iadd X dL_law_915 ?_
  refine sN_sld X hXs hbl hbA hg9 dL_law_916 ?_
  refine sN_aload_n X rfl dL_law_917 ?_
  refine sN_iload_n X rfl dL_law_918 ?_
  refine sN_iconst X ⟨by decide, by decide⟩ dL_law_919 ?_
  refine sN_iadd X dL_law_920 ?_
  exact s_law_921 X hcells hL hXs hbl hbA hg9 hJ
set_option maxRecDepth 100000 in
def b_law_880 (n L : Nat) (xs : Nat → Int32) (J : Nat → List qV → List qV → qW → Prop) : qK := x_iload 3 (x_int 3 (x_iadd (x_sldL L xs (x_aload 0 (x_iload 3 (x_int 4 (x_iadd (x_sldL L xs (x_aload 0 (x_iload 3 (x_int 5 (x_iadd (x_sldL L xs (x_callN 12 6 (spN n rkL (fun av => ∃ a b cc dd ee : Int, av = [q2 85, q1 a, q1 b, q1 cc, q1 dd, q1 ee])) (x_pop2 (b_law_1369 n L xs J))))))))))))))))
set_option maxRecDepth 100000 in
theorem s_law_880 {p : Program} {l : Launch} {e : Env} {R : Room} {s : State} {m : MethodId} {args : Array Value} {below : List Frame} {meth : Method} {c : Code} {n nc ns nW b L : Nat} {xs : Nat → Int32} {dC : Nat → ClassId} {dI : Nat → Nat → Nat} {k : Nat → ClassId} {g : Nat → Nat} {A : Nat → Prop} {Qf : State → Prop} {J : Nat → List qV → List qV → qW → Prop} (X : q_X p R s m args meth c code 4 nW 10 231 R_law ret dC dI k g A) (hcells : nc + 0 ≤ R.cells ∧ ns + 0 ≤ R.slots) (hL : L ≤ 3072) (hXs : va_X b L xs s s.heap) (hbl : b < s.heap.size) (hbA : ¬ A b) (hg9 : g 900 = b) (hJ : ∀ d : Nat, q_SdN nc ns p l e R s m args below meth c 4 nW dC dI k g A Qf d (x_cut [0, 1, 2, 3] (J d))) : q_SdN nc ns p l e R s m args below meth c 4 nW dC dI k g A Qf 880 (b_law_880 n L xs J) := by
  unfold b_law_880
  refine sN_iload_n X rfl dL_law_880 ?_
  refine sN_iconst X ⟨by decide, by decide⟩ dL_law_881 ?_
  refine sN_iadd X dL_law_882 ?_
  refine sN_sld X hXs hbl hbA hg9 dL_law_883 ?_
  refine sN_aload_n X rfl dL_law_884 ?_
  refine sN_iload_n X rfl dL_law_885 ?_
  refine sN_iconst X ⟨by decide, by decide⟩ dL_law_886 ?_
  refine sN_iadd X dL_law_887 ?_
  refine sN_sld X hXs hbl hbA hg9 dL_law_888 ?_
  refine sN_aload_n X rfl dL_law_889 ?_
  refine sN_iload_n X rfl dL_law_890 ?_
  refine sN_iconst X ⟨by decide, by decide⟩ dL_law_891 ?_
  refine sN_iadd X dL_law_892 ?_
  refine sN_sld X hXs hbl hbA hg9 dL_law_893 ?_
  refine sN_callN X hcells (q_MN_of n (mL_X12_rows l)) tw_1384 tw_1385 tw_1386 tw_134 tw_1387 rfl (by decide +kernel) ⟨by decide, by decide⟩ spN_mo dL_law_894 ?_
  refine sN_pop2 X dL_law_897 ?_
  refine sN_goto X (tgt := 1369) dL_law_898 (by decide) ?_
  exact s_law_1369 X hcells hL hXs hbl hbA hg9 hJ
set_option maxRecDepth 100000 in
def b_law_858 (n L : Nat) (xs : Nat → Int32) (J : Nat → List qV → List qV → qW → Prop) : qK := x_sldL L xs (x_aload 0 (x_iload 3 (x_int 5 (x_iadd (x_sldL L xs (x_callN 11 6 (spN n rkL (fun av => ∃ a b cc dd ee : Int, av = [q2 0, q1 a, q1 b, q1 cc, q1 dd, q1 ee])) (x_pop2 (x_aload 2 (x_aload 0 (x_iload 3 (x_int 1 (x_iadd (x_sldL L xs (x_aload 0 (x_iload 3 (x_int 2 (x_iadd (x_sldL L xs (x_aload 0 (b_law_880 n L xs J))))))))))))))))))))
set_option maxRecDepth 100000 in
theorem s_law_858 {p : Program} {l : Launch} {e : Env} {R : Room} {s : State} {m : MethodId} {args : Array Value} {below : List Frame} {meth : Method} {c : Code} {n nc ns nW b L : Nat} {xs : Nat → Int32} {dC : Nat → ClassId} {dI : Nat → Nat → Nat} {k : Nat → ClassId} {g : Nat → Nat} {A : Nat → Prop} {Qf : State → Prop} {J : Nat → List qV → List qV → qW → Prop} (X : q_X p R s m args meth c code 4 nW 10 231 R_law ret dC dI k g A) (hcells : nc + 0 ≤ R.cells ∧ ns + 0 ≤ R.slots) (hL : L ≤ 3072) (hXs : va_X b L xs s s.heap) (hbl : b < s.heap.size) (hbA : ¬ A b) (hg9 : g 900 = b) (hJ : ∀ d : Nat, q_SdN nc ns p l e R s m args below meth c 4 nW dC dI k g A Qf d (x_cut [0, 1, 2, 3] (J d))) : q_SdN nc ns p l e R s m args below meth c 4 nW dC dI k g A Qf 858 (b_law_858 n L xs J) := by
  unfold b_law_858
  refine sN_sld X hXs hbl hbA hg9 dL_law_858 ?_
  refine sN_aload_n X rfl dL_law_859 ?_
  refine sN_iload_n X rfl dL_law_860 ?_
  refine sN_iconst X ⟨by decide, by decide⟩ dL_law_861 ?_
  refine sN_iadd X dL_law_862 ?_
  refine sN_sld X hXs hbl hbA hg9 dL_law_863 ?_
  refine sN_callN X hcells (q_MN_of n (mL_X11_rows l)) tw_808 tw_809 tw_810 tw_120 tw_811 rfl (by decide +kernel) ⟨by decide, by decide⟩ spN_mo dL_law_864 ?_
  refine sN_pop2 X dL_law_867 ?_
  refine sN_aload_n X rfl dL_law_868 ?_
  refine sN_aload_n X rfl dL_law_869 ?_
  refine sN_iload_n X rfl dL_law_870 ?_
  refine sN_iconst X ⟨by decide, by decide⟩ dL_law_871 ?_
  refine sN_iadd X dL_law_872 ?_
  refine sN_sld X hXs hbl hbA hg9 dL_law_873 ?_
  refine sN_aload_n X rfl dL_law_874 ?_
  refine sN_iload_n X rfl dL_law_875 ?_
  refine sN_iconst X ⟨by decide, by decide⟩ dL_law_876 ?_
  refine sN_iadd X dL_law_877 ?_
  refine sN_sld X hXs hbl hbA hg9 dL_law_878 ?_
  refine sN_aload_n X rfl dL_law_879 ?_
  exact s_law_880 X hcells hL hXs hbl hbA hg9 hJ
set_option maxRecDepth 100000 in
def b_law_838 (n L : Nat) (xs : Nat → Int32) (J : Nat → List qV → List qV → qW → Prop) : qK := x_aload 1 (x_aload 0 (x_iload 3 (x_int 1 (x_iadd (x_sldL L xs (x_aload 0 (x_iload 3 (x_int 2 (x_iadd (x_sldL L xs (x_aload 0 (x_iload 3 (x_int 3 (x_iadd (x_sldL L xs (x_aload 0 (x_iload 3 (x_int 4 (x_iadd (b_law_858 n L xs J))))))))))))))))))))
set_option maxRecDepth 100000 in
theorem s_law_838 {p : Program} {l : Launch} {e : Env} {R : Room} {s : State} {m : MethodId} {args : Array Value} {below : List Frame} {meth : Method} {c : Code} {n nc ns nW b L : Nat} {xs : Nat → Int32} {dC : Nat → ClassId} {dI : Nat → Nat → Nat} {k : Nat → ClassId} {g : Nat → Nat} {A : Nat → Prop} {Qf : State → Prop} {J : Nat → List qV → List qV → qW → Prop} (X : q_X p R s m args meth c code 4 nW 10 231 R_law ret dC dI k g A) (hcells : nc + 0 ≤ R.cells ∧ ns + 0 ≤ R.slots) (hL : L ≤ 3072) (hXs : va_X b L xs s s.heap) (hbl : b < s.heap.size) (hbA : ¬ A b) (hg9 : g 900 = b) (hJ : ∀ d : Nat, q_SdN nc ns p l e R s m args below meth c 4 nW dC dI k g A Qf d (x_cut [0, 1, 2, 3] (J d))) : q_SdN nc ns p l e R s m args below meth c 4 nW dC dI k g A Qf 838 (b_law_838 n L xs J) := by
  unfold b_law_838
  refine sN_aload_n X rfl dL_law_838 ?_
  refine sN_aload_n X rfl dL_law_839 ?_
  refine sN_iload_n X rfl dL_law_840 ?_
  refine sN_iconst X ⟨by decide, by decide⟩ dL_law_841 ?_
  refine sN_iadd X dL_law_842 ?_
  refine sN_sld X hXs hbl hbA hg9 dL_law_843 ?_
  refine sN_aload_n X rfl dL_law_844 ?_
  refine sN_iload_n X rfl dL_law_845 ?_
  refine sN_iconst X ⟨by decide, by decide⟩ dL_law_846 ?_
  refine sN_iadd X dL_law_847 ?_
  refine sN_sld X hXs hbl hbA hg9 dL_law_848 ?_
  refine sN_aload_n X rfl dL_law_849 ?_
  refine sN_iload_n X rfl dL_law_850 ?_
  refine sN_iconst X ⟨by decide, by decide⟩ dL_law_851 ?_
  refine sN_iadd X dL_law_852 ?_
  refine sN_sld X hXs hbl hbA hg9 dL_law_853 ?_
  refine sN_aload_n X rfl dL_law_854 ?_
  refine sN_iload_n X rfl dL_law_855 ?_
  refine sN_iconst X ⟨by decide, by decide⟩ dL_law_856 ?_
  refine sN_iadd X dL_law_857 ?_
  exact s_law_858 X hcells hL hXs hbl hbA hg9 hJ
set_option maxRecDepth 100000 in
def b_law_817 (n L : Nat) (xs : Nat → Int32) (J : Nat → List qV → List qV → qW → Prop) : qK := x_iload 3 (x_int 1 (x_iadd (x_sldL L xs (x_aload 0 (x_iload 3 (x_int 2 (x_iadd (x_sldL L xs (x_aload 0 (x_iload 3 (x_int 3 (x_iadd (x_sldL L xs (x_callN 12 4 (spM n (fun av => ∃ a b cc : Int, av = [q2 85, q1 a, q1 b, q1 cc]) rlFtM) (x_pop (b_law_1369 n L xs J))))))))))))))))
set_option maxRecDepth 100000 in
theorem s_law_817 {p : Program} {l : Launch} {e : Env} {R : Room} {s : State} {m : MethodId} {args : Array Value} {below : List Frame} {meth : Method} {c : Code} {n nc ns nW b L : Nat} {xs : Nat → Int32} {dC : Nat → ClassId} {dI : Nat → Nat → Nat} {k : Nat → ClassId} {g : Nat → Nat} {A : Nat → Prop} {Qf : State → Prop} {J : Nat → List qV → List qV → qW → Prop} (X : q_X p R s m args meth c code 4 nW 10 231 R_law ret dC dI k g A) (hcells : nc + 0 ≤ R.cells ∧ ns + 0 ≤ R.slots) (hL : L ≤ 3072) (hXs : va_X b L xs s s.heap) (hbl : b < s.heap.size) (hbA : ¬ A b) (hg9 : g 900 = b) (hJ : ∀ d : Nat, q_SdN nc ns p l e R s m args below meth c 4 nW dC dI k g A Qf d (x_cut [0, 1, 2, 3] (J d))) : q_SdN nc ns p l e R s m args below meth c 4 nW dC dI k g A Qf 817 (b_law_817 n L xs J) := by
  unfold b_law_817
  refine sN_iload_n X rfl dL_law_817 ?_
  refine sN_iconst X ⟨by decide, by decide⟩ dL_law_818 ?_
  refine sN_iadd X dL_law_819 ?_
  refine sN_sld X hXs hbl hbA hg9 dL_law_820 ?_
  refine sN_aload_n X rfl dL_law_821 ?_
  refine sN_iload_n X rfl dL_law_822 ?_
  refine sN_iconst X ⟨by decide, by decide⟩ dL_law_823 ?_
  refine sN_iadd X dL_law_824 ?_
  refine sN_sld X hXs hbl hbA hg9 dL_law_825 ?_
  refine sN_aload_n X rfl dL_law_826 ?_
  refine sN_iload_n X rfl dL_law_827 ?_
  refine sN_iconst X ⟨by decide, by decide⟩ dL_law_828 ?_
  refine sN_iadd X dL_law_829 ?_
  refine sN_sld X hXs hbl hbA hg9 dL_law_830 ?_
  refine sN_callN X hcells (mN_ftM l n) tw_1371 tw_1372 tw_1373 tw_134 tw_1374 rfl (by decide +kernel) ⟨by decide, by decide⟩ spM_mo dL_law_831 ?_
  refine sN_pop X dL_law_834 ?_
  refine sN_goto X (tgt := 1369) dL_law_835 (by decide) ?_
  exact s_law_1369 X hcells hL hXs hbl hbA hg9 hJ
set_option maxRecDepth 100000 in
def b_law_795 (n L : Nat) (xs : Nat → Int32) (J : Nat → List qV → List qV → qW → Prop) : qK := x_aload 1 (x_aload 0 (x_iload 3 (x_int 1 (x_iadd (x_sldL L xs (x_aload 0 (x_iload 3 (x_int 2 (x_iadd (x_sldL L xs (x_aload 0 (x_iload 3 (x_int 3 (x_iadd (x_sldL L xs (x_callN 11 4 (spM n (fun av => ∃ a b cc : Int, av = [q2 0, q1 a, q1 b, q1 cc]) rlFtC) (x_pop (x_aload 2 (x_aload 0 (b_law_817 n L xs J))))))))))))))))))))
set_option maxRecDepth 100000 in
theorem s_law_795 {p : Program} {l : Launch} {e : Env} {R : Room} {s : State} {m : MethodId} {args : Array Value} {below : List Frame} {meth : Method} {c : Code} {n nc ns nW b L : Nat} {xs : Nat → Int32} {dC : Nat → ClassId} {dI : Nat → Nat → Nat} {k : Nat → ClassId} {g : Nat → Nat} {A : Nat → Prop} {Qf : State → Prop} {J : Nat → List qV → List qV → qW → Prop} (X : q_X p R s m args meth c code 4 nW 10 231 R_law ret dC dI k g A) (hcells : nc + 0 ≤ R.cells ∧ ns + 0 ≤ R.slots) (hL : L ≤ 3072) (hXs : va_X b L xs s s.heap) (hbl : b < s.heap.size) (hbA : ¬ A b) (hg9 : g 900 = b) (hJ : ∀ d : Nat, q_SdN nc ns p l e R s m args below meth c 4 nW dC dI k g A Qf d (x_cut [0, 1, 2, 3] (J d))) : q_SdN nc ns p l e R s m args below meth c 4 nW dC dI k g A Qf 795 (b_law_795 n L xs J) := by
  unfold b_law_795
  refine sN_aload_n X rfl dL_law_795 ?_
  refine sN_aload_n X rfl dL_law_796 ?_
  refine sN_iload_n X rfl dL_law_797 ?_
  refine sN_iconst X ⟨by decide, by decide⟩ dL_law_798 ?_
  refine sN_iadd X dL_law_799 ?_
  refine sN_sld X hXs hbl hbA hg9 dL_law_800 ?_
  refine sN_aload_n X rfl dL_law_801 ?_
  refine sN_iload_n X rfl dL_law_802 ?_
  refine sN_iconst X ⟨by decide, by decide⟩ dL_law_803 ?_
  refine sN_iadd X dL_law_804 ?_
  refine sN_sld X hXs hbl hbA hg9 dL_law_805 ?_
  refine sN_aload_n X rfl dL_law_806 ?_
  refine sN_iload_n X rfl dL_law_807 ?_
  refine sN_iconst X ⟨by decide, by decide⟩ dL_law_808 ?_
  refine sN_iadd X dL_law_809 ?_
  refine sN_sld X hXs hbl hbA hg9 dL_law_810 ?_
  refine sN_callN X hcells (mN_ftC l n) tw_796 tw_797 tw_798 tw_120 tw_799 rfl (by decide +kernel) ⟨by decide, by decide⟩ spM_mo dL_law_811 ?_
  refine sN_pop X dL_law_814 ?_
  refine sN_aload_n X rfl dL_law_815 ?_
  refine sN_aload_n X rfl dL_law_816 ?_
  exact s_law_817 X hcells hL hXs hbl hbA hg9 hJ
set_option maxRecDepth 100000 in
def b_law_784 (n L : Nat) (xs : Nat → Int32) (J : Nat → List qV → List qV → qW → Prop) : qK := x_iload 3 (x_int 2 (x_iadd (x_sldL L xs (x_callN 12 3 (spN n rkI (fun av => ∃ a b : Int, av = [q2 85, q1 a, q1 b])) (x_pop (b_law_1369 n L xs J))))))
set_option maxRecDepth 100000 in
theorem s_law_784 {p : Program} {l : Launch} {e : Env} {R : Room} {s : State} {m : MethodId} {args : Array Value} {below : List Frame} {meth : Method} {c : Code} {n nc ns nW b L : Nat} {xs : Nat → Int32} {dC : Nat → ClassId} {dI : Nat → Nat → Nat} {k : Nat → ClassId} {g : Nat → Nat} {A : Nat → Prop} {Qf : State → Prop} {J : Nat → List qV → List qV → qW → Prop} (X : q_X p R s m args meth c code 4 nW 10 231 R_law ret dC dI k g A) (hcells : nc + 0 ≤ R.cells ∧ ns + 0 ≤ R.slots) (hL : L ≤ 3072) (hXs : va_X b L xs s s.heap) (hbl : b < s.heap.size) (hbA : ¬ A b) (hg9 : g 900 = b) (hJ : ∀ d : Nat, q_SdN nc ns p l e R s m args below meth c 4 nW dC dI k g A Qf d (x_cut [0, 1, 2, 3] (J d))) : q_SdN nc ns p l e R s m args below meth c 4 nW dC dI k g A Qf 784 (b_law_784 n L xs J) := by
  unfold b_law_784
  refine sN_iload_n X rfl dL_law_784 ?_
  refine sN_iconst X ⟨by decide, by decide⟩ dL_law_785 ?_
  refine sN_iadd X dL_law_786 ?_
  refine sN_sld X hXs hbl hbA hg9 dL_law_787 ?_
  refine sN_callN X hcells (q_MN_of n (mL_X12_ledger l)) tw_1343 tw_1344 tw_1345 tw_134 tw_1346 rfl (by decide +kernel) ⟨by decide, by decide⟩ spN_mo dL_law_788 ?_
  refine sN_pop X dL_law_791 ?_
  refine sN_goto X (tgt := 1369) dL_law_792 (by decide) ?_
  exact s_law_1369 X hcells hL hXs hbl hbA hg9 hJ
set_option maxRecDepth 100000 in
def b_law_762 (n L : Nat) (xs : Nat → Int32) (J : Nat → List qV → List qV → qW → Prop) : qK := x_aload 1 (x_aload 0 (x_iload 3 (x_int 1 (x_iadd (x_sldL L xs (x_aload 0 (x_iload 3 (x_int 2 (x_iadd (x_sldL L xs (x_callN 11 3 (spN n rkI (fun av => ∃ a b : Int, av = [q2 0, q1 a, q1 b])) (x_pop (x_aload 2 (x_aload 0 (x_iload 3 (x_int 1 (x_iadd (x_sldL L xs (x_aload 0 (b_law_784 n L xs J))))))))))))))))))))
set_option maxRecDepth 100000 in
theorem s_law_762 {p : Program} {l : Launch} {e : Env} {R : Room} {s : State} {m : MethodId} {args : Array Value} {below : List Frame} {meth : Method} {c : Code} {n nc ns nW b L : Nat} {xs : Nat → Int32} {dC : Nat → ClassId} {dI : Nat → Nat → Nat} {k : Nat → ClassId} {g : Nat → Nat} {A : Nat → Prop} {Qf : State → Prop} {J : Nat → List qV → List qV → qW → Prop} (X : q_X p R s m args meth c code 4 nW 10 231 R_law ret dC dI k g A) (hcells : nc + 0 ≤ R.cells ∧ ns + 0 ≤ R.slots) (hL : L ≤ 3072) (hXs : va_X b L xs s s.heap) (hbl : b < s.heap.size) (hbA : ¬ A b) (hg9 : g 900 = b) (hJ : ∀ d : Nat, q_SdN nc ns p l e R s m args below meth c 4 nW dC dI k g A Qf d (x_cut [0, 1, 2, 3] (J d))) : q_SdN nc ns p l e R s m args below meth c 4 nW dC dI k g A Qf 762 (b_law_762 n L xs J) := by
  unfold b_law_762
  refine sN_aload_n X rfl dL_law_762 ?_
  refine sN_aload_n X rfl dL_law_763 ?_
  refine sN_iload_n X rfl dL_law_764 ?_
  refine sN_iconst X ⟨by decide, by decide⟩ dL_law_765 ?_
  refine sN_iadd X dL_law_766 ?_
  refine sN_sld X hXs hbl hbA hg9 dL_law_767 ?_
  refine sN_aload_n X rfl dL_law_768 ?_
  refine sN_iload_n X rfl dL_law_769 ?_
  refine sN_iconst X ⟨by decide, by decide⟩ dL_law_770 ?_
  refine sN_iadd X dL_law_771 ?_
  refine sN_sld X hXs hbl hbA hg9 dL_law_772 ?_
  refine sN_callN X hcells (q_MN_of n (mL_X11_ledger l)) tw_759 tw_760 tw_761 tw_120 tw_762 rfl (by decide +kernel) ⟨by decide, by decide⟩ spN_mo dL_law_773 ?_
  refine sN_pop X dL_law_776 ?_
  refine sN_aload_n X rfl dL_law_777 ?_
  refine sN_aload_n X rfl dL_law_778 ?_
  refine sN_iload_n X rfl dL_law_779 ?_
  refine sN_iconst X ⟨by decide, by decide⟩ dL_law_780 ?_
  refine sN_iadd X dL_law_781 ?_
  refine sN_sld X hXs hbl hbA hg9 dL_law_782 ?_
  refine sN_aload_n X rfl dL_law_783 ?_
  exact s_law_784 X hcells hL hXs hbl hbA hg9 hJ
set_option maxRecDepth 100000 in
def b_law_741 (n L : Nat) (xs : Nat → Int32) (J : Nat → List qV → List qV → qW → Prop) : qK := x_iload 3 (x_int 1 (x_iadd (x_sldL L xs (x_aload 0 (x_iload 3 (x_int 2 (x_iadd (x_sldL L xs (x_aload 0 (x_iload 3 (x_int 3 (x_iadd (x_sldL L xs (x_callN 12 4 (spM n (fun av => ∃ a b cc : Int, av = [q2 85, q1 a, q1 b, q1 cc]) rlElM) (x_pop (b_law_1369 n L xs J))))))))))))))))
set_option maxRecDepth 100000 in
theorem s_law_741 {p : Program} {l : Launch} {e : Env} {R : Room} {s : State} {m : MethodId} {args : Array Value} {below : List Frame} {meth : Method} {c : Code} {n nc ns nW b L : Nat} {xs : Nat → Int32} {dC : Nat → ClassId} {dI : Nat → Nat → Nat} {k : Nat → ClassId} {g : Nat → Nat} {A : Nat → Prop} {Qf : State → Prop} {J : Nat → List qV → List qV → qW → Prop} (X : q_X p R s m args meth c code 4 nW 10 231 R_law ret dC dI k g A) (hcells : nc + 0 ≤ R.cells ∧ ns + 0 ≤ R.slots) (hL : L ≤ 3072) (hXs : va_X b L xs s s.heap) (hbl : b < s.heap.size) (hbA : ¬ A b) (hg9 : g 900 = b) (hJ : ∀ d : Nat, q_SdN nc ns p l e R s m args below meth c 4 nW dC dI k g A Qf d (x_cut [0, 1, 2, 3] (J d))) : q_SdN nc ns p l e R s m args below meth c 4 nW dC dI k g A Qf 741 (b_law_741 n L xs J) := by
  unfold b_law_741
  refine sN_iload_n X rfl dL_law_741 ?_
  refine sN_iconst X ⟨by decide, by decide⟩ dL_law_742 ?_
  refine sN_iadd X dL_law_743 ?_
  refine sN_sld X hXs hbl hbA hg9 dL_law_744 ?_
  refine sN_aload_n X rfl dL_law_745 ?_
  refine sN_iload_n X rfl dL_law_746 ?_
  refine sN_iconst X ⟨by decide, by decide⟩ dL_law_747 ?_
  refine sN_iadd X dL_law_748 ?_
  refine sN_sld X hXs hbl hbA hg9 dL_law_749 ?_
  refine sN_aload_n X rfl dL_law_750 ?_
  refine sN_iload_n X rfl dL_law_751 ?_
  refine sN_iconst X ⟨by decide, by decide⟩ dL_law_752 ?_
  refine sN_iadd X dL_law_753 ?_
  refine sN_sld X hXs hbl hbA hg9 dL_law_754 ?_
  refine sN_callN X hcells (mN_elM l n) tw_1336 tw_1337 tw_1338 tw_134 tw_1339 rfl (by decide +kernel) ⟨by decide, by decide⟩ spM_mo dL_law_755 ?_
  refine sN_pop X dL_law_758 ?_
  refine sN_goto X (tgt := 1369) dL_law_759 (by decide) ?_
  exact s_law_1369 X hcells hL hXs hbl hbA hg9 hJ
set_option maxRecDepth 100000 in
def b_law_719 (n L : Nat) (xs : Nat → Int32) (J : Nat → List qV → List qV → qW → Prop) : qK := x_aload 1 (x_aload 0 (x_iload 3 (x_int 1 (x_iadd (x_sldL L xs (x_aload 0 (x_iload 3 (x_int 2 (x_iadd (x_sldL L xs (x_aload 0 (x_iload 3 (x_int 3 (x_iadd (x_sldL L xs (x_callN 11 4 (spM n (fun av => ∃ a b cc : Int, av = [q2 0, q1 a, q1 b, q1 cc]) rlElC) (x_pop (x_aload 2 (x_aload 0 (b_law_741 n L xs J))))))))))))))))))))
set_option maxRecDepth 100000 in
theorem s_law_719 {p : Program} {l : Launch} {e : Env} {R : Room} {s : State} {m : MethodId} {args : Array Value} {below : List Frame} {meth : Method} {c : Code} {n nc ns nW b L : Nat} {xs : Nat → Int32} {dC : Nat → ClassId} {dI : Nat → Nat → Nat} {k : Nat → ClassId} {g : Nat → Nat} {A : Nat → Prop} {Qf : State → Prop} {J : Nat → List qV → List qV → qW → Prop} (X : q_X p R s m args meth c code 4 nW 10 231 R_law ret dC dI k g A) (hcells : nc + 0 ≤ R.cells ∧ ns + 0 ≤ R.slots) (hL : L ≤ 3072) (hXs : va_X b L xs s s.heap) (hbl : b < s.heap.size) (hbA : ¬ A b) (hg9 : g 900 = b) (hJ : ∀ d : Nat, q_SdN nc ns p l e R s m args below meth c 4 nW dC dI k g A Qf d (x_cut [0, 1, 2, 3] (J d))) : q_SdN nc ns p l e R s m args below meth c 4 nW dC dI k g A Qf 719 (b_law_719 n L xs J) := by
  unfold b_law_719
  refine sN_aload_n X rfl dL_law_719 ?_
  refine sN_aload_n X rfl dL_law_720 ?_
  refine sN_iload_n X rfl dL_law_721 ?_
  refine sN_iconst X ⟨by decide, by decide⟩ dL_law_722 ?_
  refine sN_iadd X dL_law_723 ?_
  refine sN_sld X hXs hbl hbA hg9 dL_law_724 ?_
  refine sN_aload_n X rfl dL_law_725 ?_
  refine sN_iload_n X rfl dL_law_726 ?_
  refine sN_iconst X ⟨by decide, by decide⟩ dL_law_727 ?_
  refine sN_iadd X dL_law_728 ?_
  refine sN_sld X hXs hbl hbA hg9 dL_law_729 ?_
  refine sN_aload_n X rfl dL_law_730 ?_
  refine sN_iload_n X rfl dL_law_731 ?_
  refine sN_iconst X ⟨by decide, by decide⟩ dL_law_732 ?_
  refine sN_iadd X dL_law_733 ?_
  refine sN_sld X hXs hbl hbA hg9 dL_law_734 ?_
  refine sN_callN X hcells (mN_elC l n) tw_748 tw_749 tw_750 tw_120 tw_751 rfl (by decide +kernel) ⟨by decide, by decide⟩ spM_mo dL_law_735 ?_
  refine sN_pop X dL_law_738 ?_
  refine sN_aload_n X rfl dL_law_739 ?_
  refine sN_aload_n X rfl dL_law_740 ?_
  exact s_law_741 X hcells hL hXs hbl hbA hg9 hJ
set_option maxRecDepth 100000 in
def b_law_708 (n L : Nat) (xs : Nat → Int32) (J : Nat → List qV → List qV → qW → Prop) : qK := x_iload 3 (x_int 4 (x_iadd (x_sldL L xs (x_callN 12 5 (spN n rkI (fun av => ∃ a b cc dd : Int, av = [q2 85, q1 a, q1 b, q1 cc, q1 dd])) (x_pop (b_law_1369 n L xs J))))))
set_option maxRecDepth 100000 in
theorem s_law_708 {p : Program} {l : Launch} {e : Env} {R : Room} {s : State} {m : MethodId} {args : Array Value} {below : List Frame} {meth : Method} {c : Code} {n nc ns nW b L : Nat} {xs : Nat → Int32} {dC : Nat → ClassId} {dI : Nat → Nat → Nat} {k : Nat → ClassId} {g : Nat → Nat} {A : Nat → Prop} {Qf : State → Prop} {J : Nat → List qV → List qV → qW → Prop} (X : q_X p R s m args meth c code 4 nW 10 231 R_law ret dC dI k g A) (hcells : nc + 0 ≤ R.cells ∧ ns + 0 ≤ R.slots) (hL : L ≤ 3072) (hXs : va_X b L xs s s.heap) (hbl : b < s.heap.size) (hbA : ¬ A b) (hg9 : g 900 = b) (hJ : ∀ d : Nat, q_SdN nc ns p l e R s m args below meth c 4 nW dC dI k g A Qf d (x_cut [0, 1, 2, 3] (J d))) : q_SdN nc ns p l e R s m args below meth c 4 nW dC dI k g A Qf 708 (b_law_708 n L xs J) := by
  unfold b_law_708
  refine sN_iload_n X rfl dL_law_708 ?_
  refine sN_iconst X ⟨by decide, by decide⟩ dL_law_709 ?_
  refine sN_iadd X dL_law_710 ?_
  refine sN_sld X hXs hbl hbA hg9 dL_law_711 ?_
  refine sN_callN X hcells (q_MN_of n (mL_X12_share l)) tw_1329 tw_1330 tw_1331 tw_134 tw_1332 rfl (by decide +kernel) ⟨by decide, by decide⟩ spN_mo dL_law_712 ?_
  refine sN_pop X dL_law_715 ?_
  refine sN_goto X (tgt := 1369) dL_law_716 (by decide) ?_
  exact s_law_1369 X hcells hL hXs hbl hbA hg9 hJ
set_option maxRecDepth 100000 in
def b_law_686 (n L : Nat) (xs : Nat → Int32) (J : Nat → List qV → List qV → qW → Prop) : qK := x_sldL L xs (x_callN 11 5 (spN n rkI (fun av => ∃ a b cc dd : Int, av = [q2 0, q1 a, q1 b, q1 cc, q1 dd])) (x_pop (x_aload 2 (x_aload 0 (x_iload 3 (x_int 1 (x_iadd (x_sldL L xs (x_aload 0 (x_iload 3 (x_int 2 (x_iadd (x_sldL L xs (x_aload 0 (x_iload 3 (x_int 3 (x_iadd (x_sldL L xs (x_aload 0 (b_law_708 n L xs J))))))))))))))))))))
set_option maxRecDepth 100000 in
theorem s_law_686 {p : Program} {l : Launch} {e : Env} {R : Room} {s : State} {m : MethodId} {args : Array Value} {below : List Frame} {meth : Method} {c : Code} {n nc ns nW b L : Nat} {xs : Nat → Int32} {dC : Nat → ClassId} {dI : Nat → Nat → Nat} {k : Nat → ClassId} {g : Nat → Nat} {A : Nat → Prop} {Qf : State → Prop} {J : Nat → List qV → List qV → qW → Prop} (X : q_X p R s m args meth c code 4 nW 10 231 R_law ret dC dI k g A) (hcells : nc + 0 ≤ R.cells ∧ ns + 0 ≤ R.slots) (hL : L ≤ 3072) (hXs : va_X b L xs s s.heap) (hbl : b < s.heap.size) (hbA : ¬ A b) (hg9 : g 900 = b) (hJ : ∀ d : Nat, q_SdN nc ns p l e R s m args below meth c 4 nW dC dI k g A Qf d (x_cut [0, 1, 2, 3] (J d))) : q_SdN nc ns p l e R s m args below meth c 4 nW dC dI k g A Qf 686 (b_law_686 n L xs J) := by
  unfold b_law_686
  refine sN_sld X hXs hbl hbA hg9 dL_law_686 ?_
  refine sN_callN X hcells (q_MN_of n (mL_X11_share l)) tw_738 tw_739 tw_740 tw_120 tw_741 rfl (by decide +kernel) ⟨by decide, by decide⟩ spN_mo dL_law_687 ?_
  refine sN_pop X dL_law_690 ?_
  refine sN_aload_n X rfl dL_law_691 ?_
  refine sN_aload_n X rfl dL_law_692 ?_
  refine sN_iload_n X rfl dL_law_693 ?_
  refine sN_iconst X ⟨by decide, by decide⟩ dL_law_694 ?_
  refine sN_iadd X dL_law_695 ?_
  refine sN_sld X hXs hbl hbA hg9 dL_law_696 ?_
  refine sN_aload_n X rfl dL_law_697 ?_
  refine sN_iload_n X rfl dL_law_698 ?_
  refine sN_iconst X ⟨by decide, by decide⟩ dL_law_699 ?_
  refine sN_iadd X dL_law_700 ?_
  refine sN_sld X hXs hbl hbA hg9 dL_law_701 ?_
  refine sN_aload_n X rfl dL_law_702 ?_
  refine sN_iload_n X rfl dL_law_703 ?_
  refine sN_iconst X ⟨by decide, by decide⟩ dL_law_704 ?_
  refine sN_iadd X dL_law_705 ?_
  refine sN_sld X hXs hbl hbA hg9 dL_law_706 ?_
  refine sN_aload_n X rfl dL_law_707 ?_
  exact s_law_708 X hcells hL hXs hbl hbA hg9 hJ
set_option maxRecDepth 100000 in
def b_law_666 (n L : Nat) (xs : Nat → Int32) (J : Nat → List qV → List qV → qW → Prop) : qK := x_aload 1 (x_aload 0 (x_iload 3 (x_int 1 (x_iadd (x_sldL L xs (x_aload 0 (x_iload 3 (x_int 2 (x_iadd (x_sldL L xs (x_aload 0 (x_iload 3 (x_int 3 (x_iadd (x_sldL L xs (x_aload 0 (x_iload 3 (x_int 4 (x_iadd (b_law_686 n L xs J))))))))))))))))))))
set_option maxRecDepth 100000 in
theorem s_law_666 {p : Program} {l : Launch} {e : Env} {R : Room} {s : State} {m : MethodId} {args : Array Value} {below : List Frame} {meth : Method} {c : Code} {n nc ns nW b L : Nat} {xs : Nat → Int32} {dC : Nat → ClassId} {dI : Nat → Nat → Nat} {k : Nat → ClassId} {g : Nat → Nat} {A : Nat → Prop} {Qf : State → Prop} {J : Nat → List qV → List qV → qW → Prop} (X : q_X p R s m args meth c code 4 nW 10 231 R_law ret dC dI k g A) (hcells : nc + 0 ≤ R.cells ∧ ns + 0 ≤ R.slots) (hL : L ≤ 3072) (hXs : va_X b L xs s s.heap) (hbl : b < s.heap.size) (hbA : ¬ A b) (hg9 : g 900 = b) (hJ : ∀ d : Nat, q_SdN nc ns p l e R s m args below meth c 4 nW dC dI k g A Qf d (x_cut [0, 1, 2, 3] (J d))) : q_SdN nc ns p l e R s m args below meth c 4 nW dC dI k g A Qf 666 (b_law_666 n L xs J) := by
  unfold b_law_666
  refine sN_aload_n X rfl dL_law_666 ?_
  refine sN_aload_n X rfl dL_law_667 ?_
  refine sN_iload_n X rfl dL_law_668 ?_
  refine sN_iconst X ⟨by decide, by decide⟩ dL_law_669 ?_
  refine sN_iadd X dL_law_670 ?_
  refine sN_sld X hXs hbl hbA hg9 dL_law_671 ?_
  refine sN_aload_n X rfl dL_law_672 ?_
  refine sN_iload_n X rfl dL_law_673 ?_
  refine sN_iconst X ⟨by decide, by decide⟩ dL_law_674 ?_
  refine sN_iadd X dL_law_675 ?_
  refine sN_sld X hXs hbl hbA hg9 dL_law_676 ?_
  refine sN_aload_n X rfl dL_law_677 ?_
  refine sN_iload_n X rfl dL_law_678 ?_
  refine sN_iconst X ⟨by decide, by decide⟩ dL_law_679 ?_
  refine sN_iadd X dL_law_680 ?_
  refine sN_sld X hXs hbl hbA hg9 dL_law_681 ?_
  refine sN_aload_n X rfl dL_law_682 ?_
  refine sN_iload_n X rfl dL_law_683 ?_
  refine sN_iconst X ⟨by decide, by decide⟩ dL_law_684 ?_
  refine sN_iadd X dL_law_685 ?_
  exact s_law_686 X hcells hL hXs hbl hbA hg9 hJ
set_option maxRecDepth 100000 in
def b_law_655 (n L : Nat) (xs : Nat → Int32) (J : Nat → List qV → List qV → qW → Prop) : qK := x_iload 3 (x_int 4 (x_iadd (x_sldL L xs (x_callN 12 5 (spN n rkI (fun av => ∃ a b cc dd : Int, av = [q2 85, q1 a, q1 b, q1 cc, q1 dd])) (x_pop (b_law_1369 n L xs J))))))
set_option maxRecDepth 100000 in
theorem s_law_655 {p : Program} {l : Launch} {e : Env} {R : Room} {s : State} {m : MethodId} {args : Array Value} {below : List Frame} {meth : Method} {c : Code} {n nc ns nW b L : Nat} {xs : Nat → Int32} {dC : Nat → ClassId} {dI : Nat → Nat → Nat} {k : Nat → ClassId} {g : Nat → Nat} {A : Nat → Prop} {Qf : State → Prop} {J : Nat → List qV → List qV → qW → Prop} (X : q_X p R s m args meth c code 4 nW 10 231 R_law ret dC dI k g A) (hcells : nc + 0 ≤ R.cells ∧ ns + 0 ≤ R.slots) (hL : L ≤ 3072) (hXs : va_X b L xs s s.heap) (hbl : b < s.heap.size) (hbA : ¬ A b) (hg9 : g 900 = b) (hJ : ∀ d : Nat, q_SdN nc ns p l e R s m args below meth c 4 nW dC dI k g A Qf d (x_cut [0, 1, 2, 3] (J d))) : q_SdN nc ns p l e R s m args below meth c 4 nW dC dI k g A Qf 655 (b_law_655 n L xs J) := by
  unfold b_law_655
  refine sN_iload_n X rfl dL_law_655 ?_
  refine sN_iconst X ⟨by decide, by decide⟩ dL_law_656 ?_
  refine sN_iadd X dL_law_657 ?_
  refine sN_sld X hXs hbl hbA hg9 dL_law_658 ?_
  refine sN_callN X hcells (q_MN_of n (mL_X12_dares l)) tw_1313 tw_1314 tw_1315 tw_134 tw_1316 rfl (by decide +kernel) ⟨by decide, by decide⟩ spN_mo dL_law_659 ?_
  refine sN_pop X dL_law_662 ?_
  refine sN_goto X (tgt := 1369) dL_law_663 (by decide) ?_
  exact s_law_1369 X hcells hL hXs hbl hbA hg9 hJ
set_option maxRecDepth 100000 in
def b_law_633 (n L : Nat) (xs : Nat → Int32) (J : Nat → List qV → List qV → qW → Prop) : qK := x_sldL L xs (x_callN 11 5 (spN n rkI (fun av => ∃ a b cc dd : Int, av = [q2 0, q1 a, q1 b, q1 cc, q1 dd])) (x_pop (x_aload 2 (x_aload 0 (x_iload 3 (x_int 1 (x_iadd (x_sldL L xs (x_aload 0 (x_iload 3 (x_int 2 (x_iadd (x_sldL L xs (x_aload 0 (x_iload 3 (x_int 3 (x_iadd (x_sldL L xs (x_aload 0 (b_law_655 n L xs J))))))))))))))))))))
set_option maxRecDepth 100000 in
theorem s_law_633 {p : Program} {l : Launch} {e : Env} {R : Room} {s : State} {m : MethodId} {args : Array Value} {below : List Frame} {meth : Method} {c : Code} {n nc ns nW b L : Nat} {xs : Nat → Int32} {dC : Nat → ClassId} {dI : Nat → Nat → Nat} {k : Nat → ClassId} {g : Nat → Nat} {A : Nat → Prop} {Qf : State → Prop} {J : Nat → List qV → List qV → qW → Prop} (X : q_X p R s m args meth c code 4 nW 10 231 R_law ret dC dI k g A) (hcells : nc + 0 ≤ R.cells ∧ ns + 0 ≤ R.slots) (hL : L ≤ 3072) (hXs : va_X b L xs s s.heap) (hbl : b < s.heap.size) (hbA : ¬ A b) (hg9 : g 900 = b) (hJ : ∀ d : Nat, q_SdN nc ns p l e R s m args below meth c 4 nW dC dI k g A Qf d (x_cut [0, 1, 2, 3] (J d))) : q_SdN nc ns p l e R s m args below meth c 4 nW dC dI k g A Qf 633 (b_law_633 n L xs J) := by
  unfold b_law_633
  refine sN_sld X hXs hbl hbA hg9 dL_law_633 ?_
  refine sN_callN X hcells (q_MN_of n (mL_X11_dares l)) tw_711 tw_712 tw_713 tw_120 tw_714 rfl (by decide +kernel) ⟨by decide, by decide⟩ spN_mo dL_law_634 ?_
  refine sN_pop X dL_law_637 ?_
  refine sN_aload_n X rfl dL_law_638 ?_
  refine sN_aload_n X rfl dL_law_639 ?_
  refine sN_iload_n X rfl dL_law_640 ?_
  refine sN_iconst X ⟨by decide, by decide⟩ dL_law_641 ?_
  refine sN_iadd X dL_law_642 ?_
  refine sN_sld X hXs hbl hbA hg9 dL_law_643 ?_
  refine sN_aload_n X rfl dL_law_644 ?_
  refine sN_iload_n X rfl dL_law_645 ?_
  refine sN_iconst X ⟨by decide, by decide⟩ dL_law_646 ?_
  refine sN_iadd X dL_law_647 ?_
  refine sN_sld X hXs hbl hbA hg9 dL_law_648 ?_
  refine sN_aload_n X rfl dL_law_649 ?_
  refine sN_iload_n X rfl dL_law_650 ?_
  refine sN_iconst X ⟨by decide, by decide⟩ dL_law_651 ?_
  refine sN_iadd X dL_law_652 ?_
  refine sN_sld X hXs hbl hbA hg9 dL_law_653 ?_
  refine sN_aload_n X rfl dL_law_654 ?_
  exact s_law_655 X hcells hL hXs hbl hbA hg9 hJ
set_option maxRecDepth 100000 in
def b_law_613 (n L : Nat) (xs : Nat → Int32) (J : Nat → List qV → List qV → qW → Prop) : qK := x_aload 1 (x_aload 0 (x_iload 3 (x_int 1 (x_iadd (x_sldL L xs (x_aload 0 (x_iload 3 (x_int 2 (x_iadd (x_sldL L xs (x_aload 0 (x_iload 3 (x_int 3 (x_iadd (x_sldL L xs (x_aload 0 (x_iload 3 (x_int 4 (x_iadd (b_law_633 n L xs J))))))))))))))))))))
set_option maxRecDepth 100000 in
theorem s_law_613 {p : Program} {l : Launch} {e : Env} {R : Room} {s : State} {m : MethodId} {args : Array Value} {below : List Frame} {meth : Method} {c : Code} {n nc ns nW b L : Nat} {xs : Nat → Int32} {dC : Nat → ClassId} {dI : Nat → Nat → Nat} {k : Nat → ClassId} {g : Nat → Nat} {A : Nat → Prop} {Qf : State → Prop} {J : Nat → List qV → List qV → qW → Prop} (X : q_X p R s m args meth c code 4 nW 10 231 R_law ret dC dI k g A) (hcells : nc + 0 ≤ R.cells ∧ ns + 0 ≤ R.slots) (hL : L ≤ 3072) (hXs : va_X b L xs s s.heap) (hbl : b < s.heap.size) (hbA : ¬ A b) (hg9 : g 900 = b) (hJ : ∀ d : Nat, q_SdN nc ns p l e R s m args below meth c 4 nW dC dI k g A Qf d (x_cut [0, 1, 2, 3] (J d))) : q_SdN nc ns p l e R s m args below meth c 4 nW dC dI k g A Qf 613 (b_law_613 n L xs J) := by
  unfold b_law_613
  refine sN_aload_n X rfl dL_law_613 ?_
  refine sN_aload_n X rfl dL_law_614 ?_
  refine sN_iload_n X rfl dL_law_615 ?_
  refine sN_iconst X ⟨by decide, by decide⟩ dL_law_616 ?_
  refine sN_iadd X dL_law_617 ?_
  refine sN_sld X hXs hbl hbA hg9 dL_law_618 ?_
  refine sN_aload_n X rfl dL_law_619 ?_
  refine sN_iload_n X rfl dL_law_620 ?_
  refine sN_iconst X ⟨by decide, by decide⟩ dL_law_621 ?_
  refine sN_iadd X dL_law_622 ?_
  refine sN_sld X hXs hbl hbA hg9 dL_law_623 ?_
  refine sN_aload_n X rfl dL_law_624 ?_
  refine sN_iload_n X rfl dL_law_625 ?_
  refine sN_iconst X ⟨by decide, by decide⟩ dL_law_626 ?_
  refine sN_iadd X dL_law_627 ?_
  refine sN_sld X hXs hbl hbA hg9 dL_law_628 ?_
  refine sN_aload_n X rfl dL_law_629 ?_
  refine sN_iload_n X rfl dL_law_630 ?_
  refine sN_iconst X ⟨by decide, by decide⟩ dL_law_631 ?_
  refine sN_iadd X dL_law_632 ?_
  exact s_law_633 X hcells hL hXs hbl hbA hg9 hJ
set_option maxRecDepth 100000 in
def b_law_606 (n L : Nat) (xs : Nat → Int32) (J : Nat → List qV → List qV → qW → Prop) : qK := x_callN 12 4 (spN n rkI (fun av => ∃ a b cc : Int, av = [q2 85, q1 a, q1 b, q1 cc])) (x_pop (b_law_1369 n L xs J))
set_option maxRecDepth 100000 in
theorem s_law_606 {p : Program} {l : Launch} {e : Env} {R : Room} {s : State} {m : MethodId} {args : Array Value} {below : List Frame} {meth : Method} {c : Code} {n nc ns nW b L : Nat} {xs : Nat → Int32} {dC : Nat → ClassId} {dI : Nat → Nat → Nat} {k : Nat → ClassId} {g : Nat → Nat} {A : Nat → Prop} {Qf : State → Prop} {J : Nat → List qV → List qV → qW → Prop} (X : q_X p R s m args meth c code 4 nW 10 231 R_law ret dC dI k g A) (hcells : nc + 0 ≤ R.cells ∧ ns + 0 ≤ R.slots) (hL : L ≤ 3072) (hXs : va_X b L xs s s.heap) (hbl : b < s.heap.size) (hbA : ¬ A b) (hg9 : g 900 = b) (hJ : ∀ d : Nat, q_SdN nc ns p l e R s m args below meth c 4 nW dC dI k g A Qf d (x_cut [0, 1, 2, 3] (J d))) : q_SdN nc ns p l e R s m args below meth c 4 nW dC dI k g A Qf 606 (b_law_606 n L xs J) := by
  unfold b_law_606
  refine sN_callN X hcells (q_MN_of n (mL_X12_love l)) tw_1294 tw_1295 tw_1296 tw_134 tw_1297 rfl (by decide +kernel) ⟨by decide, by decide⟩ spN_mo dL_law_606 ?_
  refine sN_pop X dL_law_609 ?_
  refine sN_goto X (tgt := 1369) dL_law_610 (by decide) ?_
  exact s_law_1369 X hcells hL hXs hbl hbA hg9 hJ
set_option maxRecDepth 100000 in
def b_law_602 (n L : Nat) (xs : Nat → Int32) (J : Nat → List qV → List qV → qW → Prop) : qK := b_law_606 n L xs J
set_option maxRecDepth 100000 in
theorem s_law_602 {p : Program} {l : Launch} {e : Env} {R : Room} {s : State} {m : MethodId} {args : Array Value} {below : List Frame} {meth : Method} {c : Code} {n nc ns nW b L : Nat} {xs : Nat → Int32} {dC : Nat → ClassId} {dI : Nat → Nat → Nat} {k : Nat → ClassId} {g : Nat → Nat} {A : Nat → Prop} {Qf : State → Prop} {J : Nat → List qV → List qV → qW → Prop} (X : q_X p R s m args meth c code 4 nW 10 231 R_law ret dC dI k g A) (hcells : nc + 0 ≤ R.cells ∧ ns + 0 ≤ R.slots) (hL : L ≤ 3072) (hXs : va_X b L xs s s.heap) (hbl : b < s.heap.size) (hbA : ¬ A b) (hg9 : g 900 = b) (hJ : ∀ d : Nat, q_SdN nc ns p l e R s m args below meth c 4 nW dC dI k g A Qf d (x_cut [0, 1, 2, 3] (J d))) : q_SdN nc ns p l e R s m args below meth c 4 nW dC dI k g A Qf 602 (b_law_602 n L xs J) := by
  unfold b_law_602
  refine sN_goto X (tgt := 606) dL_law_602 (by decide) ?_
  exact s_law_606 X hcells hL hXs hbl hbA hg9 hJ
set_option maxRecDepth 100000 in
def b_law_578 (n L : Nat) (xs : Nat → Int32) (J : Nat → List qV → List qV → qW → Prop) : qK := x_callN 11 4 (spN n rkI (fun av => ∃ a b cc : Int, av = [q2 0, q1 a, q1 b, q1 cc])) (x_pop (x_aload 2 (x_aload 0 (x_iload 3 (x_int 1 (x_iadd (x_sldL L xs (x_aload 0 (x_iload 3 (x_int 2 (x_iadd (x_sldL L xs (x_aload 0 (x_iload 3 (x_int 3 (x_iadd (x_sldL L xs (x_if_eq (x_int 0 (b_law_606 n L xs J)) (x_int 1 (b_law_602 n L xs J))))))))))))))))))))
set_option maxRecDepth 100000 in
theorem s_law_578 {p : Program} {l : Launch} {e : Env} {R : Room} {s : State} {m : MethodId} {args : Array Value} {below : List Frame} {meth : Method} {c : Code} {n nc ns nW b L : Nat} {xs : Nat → Int32} {dC : Nat → ClassId} {dI : Nat → Nat → Nat} {k : Nat → ClassId} {g : Nat → Nat} {A : Nat → Prop} {Qf : State → Prop} {J : Nat → List qV → List qV → qW → Prop} (X : q_X p R s m args meth c code 4 nW 10 231 R_law ret dC dI k g A) (hcells : nc + 0 ≤ R.cells ∧ ns + 0 ≤ R.slots) (hL : L ≤ 3072) (hXs : va_X b L xs s s.heap) (hbl : b < s.heap.size) (hbA : ¬ A b) (hg9 : g 900 = b) (hJ : ∀ d : Nat, q_SdN nc ns p l e R s m args below meth c 4 nW dC dI k g A Qf d (x_cut [0, 1, 2, 3] (J d))) : q_SdN nc ns p l e R s m args below meth c 4 nW dC dI k g A Qf 578 (b_law_578 n L xs J) := by
  unfold b_law_578
  refine sN_callN X hcells (q_MN_of n (mL_X11_love l)) tw_691 tw_692 tw_693 tw_120 tw_694 rfl (by decide +kernel) ⟨by decide, by decide⟩ spN_mo dL_law_578 ?_
  refine sN_pop X dL_law_581 ?_
  refine sN_aload_n X rfl dL_law_582 ?_
  refine sN_aload_n X rfl dL_law_583 ?_
  refine sN_iload_n X rfl dL_law_584 ?_
  refine sN_iconst X ⟨by decide, by decide⟩ dL_law_585 ?_
  refine sN_iadd X dL_law_586 ?_
  refine sN_sld X hXs hbl hbA hg9 dL_law_587 ?_
  refine sN_aload_n X rfl dL_law_588 ?_
  refine sN_iload_n X rfl dL_law_589 ?_
  refine sN_iconst X ⟨by decide, by decide⟩ dL_law_590 ?_
  refine sN_iadd X dL_law_591 ?_
  refine sN_sld X hXs hbl hbA hg9 dL_law_592 ?_
  refine sN_aload_n X rfl dL_law_593 ?_
  refine sN_iload_n X rfl dL_law_594 ?_
  refine sN_iconst X ⟨by decide, by decide⟩ dL_law_595 ?_
  refine sN_iadd X dL_law_596 ?_
  refine sN_sld X hXs hbl hbA hg9 dL_law_597 ?_
  refine sN_if_eq X (tgt := 605) dL_law_598 (by decide) ?_ ?_
  · refine sN_iconst X ⟨by decide, by decide⟩ dL_law_605 ?_
    exact s_law_606 X hcells hL hXs hbl hbA hg9 hJ
  · refine sN_iconst X ⟨by decide, by decide⟩ dL_law_601 ?_
    exact s_law_602 X hcells hL hXs hbl hbA hg9 hJ
set_option maxRecDepth 100000 in
def b_law_554 (n L : Nat) (xs : Nat → Int32) (J : Nat → List qV → List qV → qW → Prop) : qK := x_aload 1 (x_aload 0 (x_iload 3 (x_int 1 (x_iadd (x_sldL L xs (x_aload 0 (x_iload 3 (x_int 2 (x_iadd (x_sldL L xs (x_aload 0 (x_iload 3 (x_int 3 (x_iadd (x_sldL L xs (x_if_eq (x_int 0 (b_law_578 n L xs J)) (x_int 1 (b_law_578 n L xs J))))))))))))))))))
set_option maxRecDepth 100000 in
theorem s_law_554 {p : Program} {l : Launch} {e : Env} {R : Room} {s : State} {m : MethodId} {args : Array Value} {below : List Frame} {meth : Method} {c : Code} {n nc ns nW b L : Nat} {xs : Nat → Int32} {dC : Nat → ClassId} {dI : Nat → Nat → Nat} {k : Nat → ClassId} {g : Nat → Nat} {A : Nat → Prop} {Qf : State → Prop} {J : Nat → List qV → List qV → qW → Prop} (X : q_X p R s m args meth c code 4 nW 10 231 R_law ret dC dI k g A) (hcells : nc + 0 ≤ R.cells ∧ ns + 0 ≤ R.slots) (hL : L ≤ 3072) (hXs : va_X b L xs s s.heap) (hbl : b < s.heap.size) (hbA : ¬ A b) (hg9 : g 900 = b) (hJ : ∀ d : Nat, q_SdN nc ns p l e R s m args below meth c 4 nW dC dI k g A Qf d (x_cut [0, 1, 2, 3] (J d))) : q_SdN nc ns p l e R s m args below meth c 4 nW dC dI k g A Qf 554 (b_law_554 n L xs J) := by
  unfold b_law_554
  refine sN_aload_n X rfl dL_law_554 ?_
  refine sN_aload_n X rfl dL_law_555 ?_
  refine sN_iload_n X rfl dL_law_556 ?_
  refine sN_iconst X ⟨by decide, by decide⟩ dL_law_557 ?_
  refine sN_iadd X dL_law_558 ?_
  refine sN_sld X hXs hbl hbA hg9 dL_law_559 ?_
  refine sN_aload_n X rfl dL_law_560 ?_
  refine sN_iload_n X rfl dL_law_561 ?_
  refine sN_iconst X ⟨by decide, by decide⟩ dL_law_562 ?_
  refine sN_iadd X dL_law_563 ?_
  refine sN_sld X hXs hbl hbA hg9 dL_law_564 ?_
  refine sN_aload_n X rfl dL_law_565 ?_
  refine sN_iload_n X rfl dL_law_566 ?_
  refine sN_iconst X ⟨by decide, by decide⟩ dL_law_567 ?_
  refine sN_iadd X dL_law_568 ?_
  refine sN_sld X hXs hbl hbA hg9 dL_law_569 ?_
  refine sN_if_eq X (tgt := 577) dL_law_570 (by decide) ?_ ?_
  · refine sN_iconst X ⟨by decide, by decide⟩ dL_law_577 ?_
    exact s_law_578 X hcells hL hXs hbl hbA hg9 hJ
  · refine sN_iconst X ⟨by decide, by decide⟩ dL_law_573 ?_
    refine sN_goto X (tgt := 578) dL_law_574 (by decide) ?_
    exact s_law_578 X hcells hL hXs hbl hbA hg9 hJ
set_option maxRecDepth 100000 in
def b_law_533 (n L : Nat) (xs : Nat → Int32) (J : Nat → List qV → List qV → qW → Prop) : qK := x_iload 3 (x_int 1 (x_iadd (x_sldL L xs (x_aload 0 (x_iload 3 (x_int 2 (x_iadd (x_sldL L xs (x_aload 0 (x_iload 3 (x_int 3 (x_iadd (x_sldL L xs (x_callN 12 4 (spN n rkI (fun av => ∃ a b cc : Int, av = [q2 85, q1 a, q1 b, q1 cc])) (x_pop (b_law_1369 n L xs J))))))))))))))))
set_option maxRecDepth 100000 in
theorem s_law_533 {p : Program} {l : Launch} {e : Env} {R : Room} {s : State} {m : MethodId} {args : Array Value} {below : List Frame} {meth : Method} {c : Code} {n nc ns nW b L : Nat} {xs : Nat → Int32} {dC : Nat → ClassId} {dI : Nat → Nat → Nat} {k : Nat → ClassId} {g : Nat → Nat} {A : Nat → Prop} {Qf : State → Prop} {J : Nat → List qV → List qV → qW → Prop} (X : q_X p R s m args meth c code 4 nW 10 231 R_law ret dC dI k g A) (hcells : nc + 0 ≤ R.cells ∧ ns + 0 ≤ R.slots) (hL : L ≤ 3072) (hXs : va_X b L xs s s.heap) (hbl : b < s.heap.size) (hbA : ¬ A b) (hg9 : g 900 = b) (hJ : ∀ d : Nat, q_SdN nc ns p l e R s m args below meth c 4 nW dC dI k g A Qf d (x_cut [0, 1, 2, 3] (J d))) : q_SdN nc ns p l e R s m args below meth c 4 nW dC dI k g A Qf 533 (b_law_533 n L xs J) := by
  unfold b_law_533
  refine sN_iload_n X rfl dL_law_533 ?_
  refine sN_iconst X ⟨by decide, by decide⟩ dL_law_534 ?_
  refine sN_iadd X dL_law_535 ?_
  refine sN_sld X hXs hbl hbA hg9 dL_law_536 ?_
  refine sN_aload_n X rfl dL_law_537 ?_
  refine sN_iload_n X rfl dL_law_538 ?_
  refine sN_iconst X ⟨by decide, by decide⟩ dL_law_539 ?_
  refine sN_iadd X dL_law_540 ?_
  refine sN_sld X hXs hbl hbA hg9 dL_law_541 ?_
  refine sN_aload_n X rfl dL_law_542 ?_
  refine sN_iload_n X rfl dL_law_543 ?_
  refine sN_iconst X ⟨by decide, by decide⟩ dL_law_544 ?_
  refine sN_iadd X dL_law_545 ?_
  refine sN_sld X hXs hbl hbA hg9 dL_law_546 ?_
  refine sN_callN X hcells (q_MN_of n (mL_X12_cut l)) tw_1281 tw_1282 tw_1283 tw_134 tw_1284 rfl (by decide +kernel) ⟨by decide, by decide⟩ spN_mo dL_law_547 ?_
  refine sN_pop X dL_law_550 ?_
  refine sN_goto X (tgt := 1369) dL_law_551 (by decide) ?_
  exact s_law_1369 X hcells hL hXs hbl hbA hg9 hJ
set_option maxRecDepth 100000 in
def b_law_511 (n L : Nat) (xs : Nat → Int32) (J : Nat → List qV → List qV → qW → Prop) : qK := x_aload 1 (x_aload 0 (x_iload 3 (x_int 1 (x_iadd (x_sldL L xs (x_aload 0 (x_iload 3 (x_int 2 (x_iadd (x_sldL L xs (x_aload 0 (x_iload 3 (x_int 3 (x_iadd (x_sldL L xs (x_callN 11 4 (spN n rkI (fun av => ∃ a b cc : Int, av = [q2 0, q1 a, q1 b, q1 cc])) (x_pop (x_aload 2 (x_aload 0 (b_law_533 n L xs J))))))))))))))))))))
set_option maxRecDepth 100000 in
theorem s_law_511 {p : Program} {l : Launch} {e : Env} {R : Room} {s : State} {m : MethodId} {args : Array Value} {below : List Frame} {meth : Method} {c : Code} {n nc ns nW b L : Nat} {xs : Nat → Int32} {dC : Nat → ClassId} {dI : Nat → Nat → Nat} {k : Nat → ClassId} {g : Nat → Nat} {A : Nat → Prop} {Qf : State → Prop} {J : Nat → List qV → List qV → qW → Prop} (X : q_X p R s m args meth c code 4 nW 10 231 R_law ret dC dI k g A) (hcells : nc + 0 ≤ R.cells ∧ ns + 0 ≤ R.slots) (hL : L ≤ 3072) (hXs : va_X b L xs s s.heap) (hbl : b < s.heap.size) (hbA : ¬ A b) (hg9 : g 900 = b) (hJ : ∀ d : Nat, q_SdN nc ns p l e R s m args below meth c 4 nW dC dI k g A Qf d (x_cut [0, 1, 2, 3] (J d))) : q_SdN nc ns p l e R s m args below meth c 4 nW dC dI k g A Qf 511 (b_law_511 n L xs J) := by
  unfold b_law_511
  refine sN_aload_n X rfl dL_law_511 ?_
  refine sN_aload_n X rfl dL_law_512 ?_
  refine sN_iload_n X rfl dL_law_513 ?_
  refine sN_iconst X ⟨by decide, by decide⟩ dL_law_514 ?_
  refine sN_iadd X dL_law_515 ?_
  refine sN_sld X hXs hbl hbA hg9 dL_law_516 ?_
  refine sN_aload_n X rfl dL_law_517 ?_
  refine sN_iload_n X rfl dL_law_518 ?_
  refine sN_iconst X ⟨by decide, by decide⟩ dL_law_519 ?_
  refine sN_iadd X dL_law_520 ?_
  refine sN_sld X hXs hbl hbA hg9 dL_law_521 ?_
  refine sN_aload_n X rfl dL_law_522 ?_
  refine sN_iload_n X rfl dL_law_523 ?_
  refine sN_iconst X ⟨by decide, by decide⟩ dL_law_524 ?_
  refine sN_iadd X dL_law_525 ?_
  refine sN_sld X hXs hbl hbA hg9 dL_law_526 ?_
  refine sN_callN X hcells (q_MN_of n (mL_X11_cut l)) tw_661 tw_662 tw_663 tw_120 tw_664 rfl (by decide +kernel) ⟨by decide, by decide⟩ spN_mo dL_law_527 ?_
  refine sN_pop X dL_law_530 ?_
  refine sN_aload_n X rfl dL_law_531 ?_
  refine sN_aload_n X rfl dL_law_532 ?_
  exact s_law_533 X hcells hL hXs hbl hbA hg9 hJ
set_option maxRecDepth 100000 in
def b_law_490 (n L : Nat) (xs : Nat → Int32) (J : Nat → List qV → List qV → qW → Prop) : qK := x_iload 3 (x_int 1 (x_iadd (x_sldL L xs (x_aload 0 (x_iload 3 (x_int 2 (x_iadd (x_sldL L xs (x_aload 0 (x_iload 3 (x_int 3 (x_iadd (x_sldL L xs (x_callN 12 4 (spN n rkI (fun av => ∃ a b cc : Int, av = [q2 85, q1 a, q1 b, q1 cc])) (x_pop (b_law_1369 n L xs J))))))))))))))))
set_option maxRecDepth 100000 in
theorem s_law_490 {p : Program} {l : Launch} {e : Env} {R : Room} {s : State} {m : MethodId} {args : Array Value} {below : List Frame} {meth : Method} {c : Code} {n nc ns nW b L : Nat} {xs : Nat → Int32} {dC : Nat → ClassId} {dI : Nat → Nat → Nat} {k : Nat → ClassId} {g : Nat → Nat} {A : Nat → Prop} {Qf : State → Prop} {J : Nat → List qV → List qV → qW → Prop} (X : q_X p R s m args meth c code 4 nW 10 231 R_law ret dC dI k g A) (hcells : nc + 0 ≤ R.cells ∧ ns + 0 ≤ R.slots) (hL : L ≤ 3072) (hXs : va_X b L xs s s.heap) (hbl : b < s.heap.size) (hbA : ¬ A b) (hg9 : g 900 = b) (hJ : ∀ d : Nat, q_SdN nc ns p l e R s m args below meth c 4 nW dC dI k g A Qf d (x_cut [0, 1, 2, 3] (J d))) : q_SdN nc ns p l e R s m args below meth c 4 nW dC dI k g A Qf 490 (b_law_490 n L xs J) := by
  unfold b_law_490
  refine sN_iload_n X rfl dL_law_490 ?_
  refine sN_iconst X ⟨by decide, by decide⟩ dL_law_491 ?_
  refine sN_iadd X dL_law_492 ?_
  refine sN_sld X hXs hbl hbA hg9 dL_law_493 ?_
  refine sN_aload_n X rfl dL_law_494 ?_
  refine sN_iload_n X rfl dL_law_495 ?_
  refine sN_iconst X ⟨by decide, by decide⟩ dL_law_496 ?_
  refine sN_iadd X dL_law_497 ?_
  refine sN_sld X hXs hbl hbA hg9 dL_law_498 ?_
  refine sN_aload_n X rfl dL_law_499 ?_
  refine sN_iload_n X rfl dL_law_500 ?_
  refine sN_iconst X ⟨by decide, by decide⟩ dL_law_501 ?_
  refine sN_iadd X dL_law_502 ?_
  refine sN_sld X hXs hbl hbA hg9 dL_law_503 ?_
  refine sN_callN X hcells (q_MN_of n (mL_X12_reached l)) tw_1258 tw_1259 tw_1260 tw_134 tw_1261 rfl (by decide +kernel) ⟨by decide, by decide⟩ spN_mo dL_law_504 ?_
  refine sN_pop X dL_law_507 ?_
  refine sN_goto X (tgt := 1369) dL_law_508 (by decide) ?_
  exact s_law_1369 X hcells hL hXs hbl hbA hg9 hJ
set_option maxRecDepth 100000 in
def b_law_468 (n L : Nat) (xs : Nat → Int32) (J : Nat → List qV → List qV → qW → Prop) : qK := x_aload 1 (x_aload 0 (x_iload 3 (x_int 1 (x_iadd (x_sldL L xs (x_aload 0 (x_iload 3 (x_int 2 (x_iadd (x_sldL L xs (x_aload 0 (x_iload 3 (x_int 3 (x_iadd (x_sldL L xs (x_callN 11 4 (spN n rkI (fun av => ∃ a b cc : Int, av = [q2 0, q1 a, q1 b, q1 cc])) (x_pop (x_aload 2 (x_aload 0 (b_law_490 n L xs J))))))))))))))))))))
set_option maxRecDepth 100000 in
theorem s_law_468 {p : Program} {l : Launch} {e : Env} {R : Room} {s : State} {m : MethodId} {args : Array Value} {below : List Frame} {meth : Method} {c : Code} {n nc ns nW b L : Nat} {xs : Nat → Int32} {dC : Nat → ClassId} {dI : Nat → Nat → Nat} {k : Nat → ClassId} {g : Nat → Nat} {A : Nat → Prop} {Qf : State → Prop} {J : Nat → List qV → List qV → qW → Prop} (X : q_X p R s m args meth c code 4 nW 10 231 R_law ret dC dI k g A) (hcells : nc + 0 ≤ R.cells ∧ ns + 0 ≤ R.slots) (hL : L ≤ 3072) (hXs : va_X b L xs s s.heap) (hbl : b < s.heap.size) (hbA : ¬ A b) (hg9 : g 900 = b) (hJ : ∀ d : Nat, q_SdN nc ns p l e R s m args below meth c 4 nW dC dI k g A Qf d (x_cut [0, 1, 2, 3] (J d))) : q_SdN nc ns p l e R s m args below meth c 4 nW dC dI k g A Qf 468 (b_law_468 n L xs J) := by
  unfold b_law_468
  refine sN_aload_n X rfl dL_law_468 ?_
  refine sN_aload_n X rfl dL_law_469 ?_
  refine sN_iload_n X rfl dL_law_470 ?_
  refine sN_iconst X ⟨by decide, by decide⟩ dL_law_471 ?_
  refine sN_iadd X dL_law_472 ?_
  refine sN_sld X hXs hbl hbA hg9 dL_law_473 ?_
  refine sN_aload_n X rfl dL_law_474 ?_
  refine sN_iload_n X rfl dL_law_475 ?_
  refine sN_iconst X ⟨by decide, by decide⟩ dL_law_476 ?_
  refine sN_iadd X dL_law_477 ?_
  refine sN_sld X hXs hbl hbA hg9 dL_law_478 ?_
  refine sN_aload_n X rfl dL_law_479 ?_
  refine sN_iload_n X rfl dL_law_480 ?_
  refine sN_iconst X ⟨by decide, by decide⟩ dL_law_481 ?_
  refine sN_iadd X dL_law_482 ?_
  refine sN_sld X hXs hbl hbA hg9 dL_law_483 ?_
  refine sN_callN X hcells (q_MN_of n (mL_X11_reached l)) tw_624 tw_625 tw_626 tw_120 tw_627 rfl (by decide +kernel) ⟨by decide, by decide⟩ spN_mo dL_law_484 ?_
  refine sN_pop X dL_law_487 ?_
  refine sN_aload_n X rfl dL_law_488 ?_
  refine sN_aload_n X rfl dL_law_489 ?_
  exact s_law_490 X hcells hL hXs hbl hbA hg9 hJ
set_option maxRecDepth 100000 in
def b_law_457 (n L : Nat) (xs : Nat → Int32) (J : Nat → List qV → List qV → qW → Prop) : qK := x_iload 3 (x_int 4 (x_iadd (x_sldL L xs (x_callN 12 5 (spN n rkI (fun av => ∃ a b cc dd : Int, av = [q2 85, q1 a, q1 b, q1 cc, q1 dd])) (x_pop (b_law_1369 n L xs J))))))
set_option maxRecDepth 100000 in
theorem s_law_457 {p : Program} {l : Launch} {e : Env} {R : Room} {s : State} {m : MethodId} {args : Array Value} {below : List Frame} {meth : Method} {c : Code} {n nc ns nW b L : Nat} {xs : Nat → Int32} {dC : Nat → ClassId} {dI : Nat → Nat → Nat} {k : Nat → ClassId} {g : Nat → Nat} {A : Nat → Prop} {Qf : State → Prop} {J : Nat → List qV → List qV → qW → Prop} (X : q_X p R s m args meth c code 4 nW 10 231 R_law ret dC dI k g A) (hcells : nc + 0 ≤ R.cells ∧ ns + 0 ≤ R.slots) (hL : L ≤ 3072) (hXs : va_X b L xs s s.heap) (hbl : b < s.heap.size) (hbA : ¬ A b) (hg9 : g 900 = b) (hJ : ∀ d : Nat, q_SdN nc ns p l e R s m args below meth c 4 nW dC dI k g A Qf d (x_cut [0, 1, 2, 3] (J d))) : q_SdN nc ns p l e R s m args below meth c 4 nW dC dI k g A Qf 457 (b_law_457 n L xs J) := by
  unfold b_law_457
  refine sN_iload_n X rfl dL_law_457 ?_
  refine sN_iconst X ⟨by decide, by decide⟩ dL_law_458 ?_
  refine sN_iadd X dL_law_459 ?_
  refine sN_sld X hXs hbl hbA hg9 dL_law_460 ?_
  refine sN_callN X hcells (q_MN_of n (mL_X12_state l)) tw_1245 tw_1246 tw_1247 tw_134 tw_1248 rfl (by decide +kernel) ⟨by decide, by decide⟩ spN_mo dL_law_461 ?_
  refine sN_pop X dL_law_464 ?_
  refine sN_goto X (tgt := 1369) dL_law_465 (by decide) ?_
  exact s_law_1369 X hcells hL hXs hbl hbA hg9 hJ
set_option maxRecDepth 100000 in
def b_law_435 (n L : Nat) (xs : Nat → Int32) (J : Nat → List qV → List qV → qW → Prop) : qK := x_sldL L xs (x_callN 11 5 (spN n rkI (fun av => ∃ a b cc dd : Int, av = [q2 0, q1 a, q1 b, q1 cc, q1 dd])) (x_pop (x_aload 2 (x_aload 0 (x_iload 3 (x_int 1 (x_iadd (x_sldL L xs (x_aload 0 (x_iload 3 (x_int 2 (x_iadd (x_sldL L xs (x_aload 0 (x_iload 3 (x_int 3 (x_iadd (x_sldL L xs (x_aload 0 (b_law_457 n L xs J))))))))))))))))))))
set_option maxRecDepth 100000 in
theorem s_law_435 {p : Program} {l : Launch} {e : Env} {R : Room} {s : State} {m : MethodId} {args : Array Value} {below : List Frame} {meth : Method} {c : Code} {n nc ns nW b L : Nat} {xs : Nat → Int32} {dC : Nat → ClassId} {dI : Nat → Nat → Nat} {k : Nat → ClassId} {g : Nat → Nat} {A : Nat → Prop} {Qf : State → Prop} {J : Nat → List qV → List qV → qW → Prop} (X : q_X p R s m args meth c code 4 nW 10 231 R_law ret dC dI k g A) (hcells : nc + 0 ≤ R.cells ∧ ns + 0 ≤ R.slots) (hL : L ≤ 3072) (hXs : va_X b L xs s s.heap) (hbl : b < s.heap.size) (hbA : ¬ A b) (hg9 : g 900 = b) (hJ : ∀ d : Nat, q_SdN nc ns p l e R s m args below meth c 4 nW dC dI k g A Qf d (x_cut [0, 1, 2, 3] (J d))) : q_SdN nc ns p l e R s m args below meth c 4 nW dC dI k g A Qf 435 (b_law_435 n L xs J) := by
  unfold b_law_435
  refine sN_sld X hXs hbl hbA hg9 dL_law_435 ?_
  refine sN_callN X hcells (q_MN_of n (mL_X11_state l)) tw_601 tw_602 tw_603 tw_120 tw_604 rfl (by decide +kernel) ⟨by decide, by decide⟩ spN_mo dL_law_436 ?_
  refine sN_pop X dL_law_439 ?_
  refine sN_aload_n X rfl dL_law_440 ?_
  refine sN_aload_n X rfl dL_law_441 ?_
  refine sN_iload_n X rfl dL_law_442 ?_
  refine sN_iconst X ⟨by decide, by decide⟩ dL_law_443 ?_
  refine sN_iadd X dL_law_444 ?_
  refine sN_sld X hXs hbl hbA hg9 dL_law_445 ?_
  refine sN_aload_n X rfl dL_law_446 ?_
  refine sN_iload_n X rfl dL_law_447 ?_
  refine sN_iconst X ⟨by decide, by decide⟩ dL_law_448 ?_
  refine sN_iadd X dL_law_449 ?_
  refine sN_sld X hXs hbl hbA hg9 dL_law_450 ?_
  refine sN_aload_n X rfl dL_law_451 ?_
  refine sN_iload_n X rfl dL_law_452 ?_
  refine sN_iconst X ⟨by decide, by decide⟩ dL_law_453 ?_
  refine sN_iadd X dL_law_454 ?_
  refine sN_sld X hXs hbl hbA hg9 dL_law_455 ?_
  refine sN_aload_n X rfl dL_law_456 ?_
  exact s_law_457 X hcells hL hXs hbl hbA hg9 hJ
set_option maxRecDepth 100000 in
def b_law_415 (n L : Nat) (xs : Nat → Int32) (J : Nat → List qV → List qV → qW → Prop) : qK := x_aload 1 (x_aload 0 (x_iload 3 (x_int 1 (x_iadd (x_sldL L xs (x_aload 0 (x_iload 3 (x_int 2 (x_iadd (x_sldL L xs (x_aload 0 (x_iload 3 (x_int 3 (x_iadd (x_sldL L xs (x_aload 0 (x_iload 3 (x_int 4 (x_iadd (b_law_435 n L xs J))))))))))))))))))))
set_option maxRecDepth 100000 in
theorem s_law_415 {p : Program} {l : Launch} {e : Env} {R : Room} {s : State} {m : MethodId} {args : Array Value} {below : List Frame} {meth : Method} {c : Code} {n nc ns nW b L : Nat} {xs : Nat → Int32} {dC : Nat → ClassId} {dI : Nat → Nat → Nat} {k : Nat → ClassId} {g : Nat → Nat} {A : Nat → Prop} {Qf : State → Prop} {J : Nat → List qV → List qV → qW → Prop} (X : q_X p R s m args meth c code 4 nW 10 231 R_law ret dC dI k g A) (hcells : nc + 0 ≤ R.cells ∧ ns + 0 ≤ R.slots) (hL : L ≤ 3072) (hXs : va_X b L xs s s.heap) (hbl : b < s.heap.size) (hbA : ¬ A b) (hg9 : g 900 = b) (hJ : ∀ d : Nat, q_SdN nc ns p l e R s m args below meth c 4 nW dC dI k g A Qf d (x_cut [0, 1, 2, 3] (J d))) : q_SdN nc ns p l e R s m args below meth c 4 nW dC dI k g A Qf 415 (b_law_415 n L xs J) := by
  unfold b_law_415
  refine sN_aload_n X rfl dL_law_415 ?_
  refine sN_aload_n X rfl dL_law_416 ?_
  refine sN_iload_n X rfl dL_law_417 ?_
  refine sN_iconst X ⟨by decide, by decide⟩ dL_law_418 ?_
  refine sN_iadd X dL_law_419 ?_
  refine sN_sld X hXs hbl hbA hg9 dL_law_420 ?_
  refine sN_aload_n X rfl dL_law_421 ?_
  refine sN_iload_n X rfl dL_law_422 ?_
  refine sN_iconst X ⟨by decide, by decide⟩ dL_law_423 ?_
  refine sN_iadd X dL_law_424 ?_
  refine sN_sld X hXs hbl hbA hg9 dL_law_425 ?_
  refine sN_aload_n X rfl dL_law_426 ?_
  refine sN_iload_n X rfl dL_law_427 ?_
  refine sN_iconst X ⟨by decide, by decide⟩ dL_law_428 ?_
  refine sN_iadd X dL_law_429 ?_
  refine sN_sld X hXs hbl hbA hg9 dL_law_430 ?_
  refine sN_aload_n X rfl dL_law_431 ?_
  refine sN_iload_n X rfl dL_law_432 ?_
  refine sN_iconst X ⟨by decide, by decide⟩ dL_law_433 ?_
  refine sN_iadd X dL_law_434 ?_
  exact s_law_435 X hcells hL hXs hbl hbA hg9 hJ
set_option maxRecDepth 100000 in
def b_law_404 (n L : Nat) (xs : Nat → Int32) (J : Nat → List qV → List qV → qW → Prop) : qK := x_iload 3 (x_int 2 (x_iadd (x_sldL L xs (x_callN 12 3 (spN n rkI (fun av => ∃ a b : Int, av = [q2 85, q1 a, q1 b])) (x_pop (b_law_1369 n L xs J))))))
set_option maxRecDepth 100000 in
theorem s_law_404 {p : Program} {l : Launch} {e : Env} {R : Room} {s : State} {m : MethodId} {args : Array Value} {below : List Frame} {meth : Method} {c : Code} {n nc ns nW b L : Nat} {xs : Nat → Int32} {dC : Nat → ClassId} {dI : Nat → Nat → Nat} {k : Nat → ClassId} {g : Nat → Nat} {A : Nat → Prop} {Qf : State → Prop} {J : Nat → List qV → List qV → qW → Prop} (X : q_X p R s m args meth c code 4 nW 10 231 R_law ret dC dI k g A) (hcells : nc + 0 ≤ R.cells ∧ ns + 0 ≤ R.slots) (hL : L ≤ 3072) (hXs : va_X b L xs s s.heap) (hbl : b < s.heap.size) (hbA : ¬ A b) (hg9 : g 900 = b) (hJ : ∀ d : Nat, q_SdN nc ns p l e R s m args below meth c 4 nW dC dI k g A Qf d (x_cut [0, 1, 2, 3] (J d))) : q_SdN nc ns p l e R s m args below meth c 4 nW dC dI k g A Qf 404 (b_law_404 n L xs J) := by
  unfold b_law_404
  refine sN_iload_n X rfl dL_law_404 ?_
  refine sN_iconst X ⟨by decide, by decide⟩ dL_law_405 ?_
  refine sN_iadd X dL_law_406 ?_
  refine sN_sld X hXs hbl hbA hg9 dL_law_407 ?_
  refine sN_callN X hcells (q_MN_of n (mL_X12_stop l)) tw_1208 tw_1209 tw_1210 tw_134 tw_1211 rfl (by decide +kernel) ⟨by decide, by decide⟩ spN_mo dL_law_408 ?_
  refine sN_pop X dL_law_411 ?_
  refine sN_goto X (tgt := 1369) dL_law_412 (by decide) ?_
  exact s_law_1369 X hcells hL hXs hbl hbA hg9 hJ
set_option maxRecDepth 100000 in
def b_law_382 (n L : Nat) (xs : Nat → Int32) (J : Nat → List qV → List qV → qW → Prop) : qK := x_aload 1 (x_aload 0 (x_iload 3 (x_int 1 (x_iadd (x_sldL L xs (x_aload 0 (x_iload 3 (x_int 2 (x_iadd (x_sldL L xs (x_callN 11 3 (spN n rkI (fun av => ∃ a b : Int, av = [q2 0, q1 a, q1 b])) (x_pop (x_aload 2 (x_aload 0 (x_iload 3 (x_int 1 (x_iadd (x_sldL L xs (x_aload 0 (b_law_404 n L xs J))))))))))))))))))))
set_option maxRecDepth 100000 in
theorem s_law_382 {p : Program} {l : Launch} {e : Env} {R : Room} {s : State} {m : MethodId} {args : Array Value} {below : List Frame} {meth : Method} {c : Code} {n nc ns nW b L : Nat} {xs : Nat → Int32} {dC : Nat → ClassId} {dI : Nat → Nat → Nat} {k : Nat → ClassId} {g : Nat → Nat} {A : Nat → Prop} {Qf : State → Prop} {J : Nat → List qV → List qV → qW → Prop} (X : q_X p R s m args meth c code 4 nW 10 231 R_law ret dC dI k g A) (hcells : nc + 0 ≤ R.cells ∧ ns + 0 ≤ R.slots) (hL : L ≤ 3072) (hXs : va_X b L xs s s.heap) (hbl : b < s.heap.size) (hbA : ¬ A b) (hg9 : g 900 = b) (hJ : ∀ d : Nat, q_SdN nc ns p l e R s m args below meth c 4 nW dC dI k g A Qf d (x_cut [0, 1, 2, 3] (J d))) : q_SdN nc ns p l e R s m args below meth c 4 nW dC dI k g A Qf 382 (b_law_382 n L xs J) := by
  unfold b_law_382
  refine sN_aload_n X rfl dL_law_382 ?_
  refine sN_aload_n X rfl dL_law_383 ?_
  refine sN_iload_n X rfl dL_law_384 ?_
  refine sN_iconst X ⟨by decide, by decide⟩ dL_law_385 ?_
  refine sN_iadd X dL_law_386 ?_
  refine sN_sld X hXs hbl hbA hg9 dL_law_387 ?_
  refine sN_aload_n X rfl dL_law_388 ?_
  refine sN_iload_n X rfl dL_law_389 ?_
  refine sN_iconst X ⟨by decide, by decide⟩ dL_law_390 ?_
  refine sN_iadd X dL_law_391 ?_
  refine sN_sld X hXs hbl hbA hg9 dL_law_392 ?_
  refine sN_callN X hcells (q_MN_of n (mL_X11_stop l)) tw_567 tw_568 tw_569 tw_120 tw_570 rfl (by decide +kernel) ⟨by decide, by decide⟩ spN_mo dL_law_393 ?_
  refine sN_pop X dL_law_396 ?_
  refine sN_aload_n X rfl dL_law_397 ?_
  refine sN_aload_n X rfl dL_law_398 ?_
  refine sN_iload_n X rfl dL_law_399 ?_
  refine sN_iconst X ⟨by decide, by decide⟩ dL_law_400 ?_
  refine sN_iadd X dL_law_401 ?_
  refine sN_sld X hXs hbl hbA hg9 dL_law_402 ?_
  refine sN_aload_n X rfl dL_law_403 ?_
  exact s_law_404 X hcells hL hXs hbl hbA hg9 hJ
set_option maxRecDepth 100000 in
def b_law_361 (n L : Nat) (xs : Nat → Int32) (J : Nat → List qV → List qV → qW → Prop) : qK := x_iload 3 (x_int 1 (x_iadd (x_sldL L xs (x_aload 0 (x_iload 3 (x_int 2 (x_iadd (x_sldL L xs (x_aload 0 (x_iload 3 (x_int 3 (x_iadd (x_sldL L xs (x_callN 12 4 (spM n (fun av => ∃ a b cc : Int, av = [q2 85, q1 a, q1 b, q1 cc]) rlDeM) (x_pop (b_law_1369 n L xs J))))))))))))))))
set_option maxRecDepth 100000 in
theorem s_law_361 {p : Program} {l : Launch} {e : Env} {R : Room} {s : State} {m : MethodId} {args : Array Value} {below : List Frame} {meth : Method} {c : Code} {n nc ns nW b L : Nat} {xs : Nat → Int32} {dC : Nat → ClassId} {dI : Nat → Nat → Nat} {k : Nat → ClassId} {g : Nat → Nat} {A : Nat → Prop} {Qf : State → Prop} {J : Nat → List qV → List qV → qW → Prop} (X : q_X p R s m args meth c code 4 nW 10 231 R_law ret dC dI k g A) (hcells : nc + 0 ≤ R.cells ∧ ns + 0 ≤ R.slots) (hL : L ≤ 3072) (hXs : va_X b L xs s s.heap) (hbl : b < s.heap.size) (hbA : ¬ A b) (hg9 : g 900 = b) (hJ : ∀ d : Nat, q_SdN nc ns p l e R s m args below meth c 4 nW dC dI k g A Qf d (x_cut [0, 1, 2, 3] (J d))) : q_SdN nc ns p l e R s m args below meth c 4 nW dC dI k g A Qf 361 (b_law_361 n L xs J) := by
  unfold b_law_361
  refine sN_iload_n X rfl dL_law_361 ?_
  refine sN_iconst X ⟨by decide, by decide⟩ dL_law_362 ?_
  refine sN_iadd X dL_law_363 ?_
  refine sN_sld X hXs hbl hbA hg9 dL_law_364 ?_
  refine sN_aload_n X rfl dL_law_365 ?_
  refine sN_iload_n X rfl dL_law_366 ?_
  refine sN_iconst X ⟨by decide, by decide⟩ dL_law_367 ?_
  refine sN_iadd X dL_law_368 ?_
  refine sN_sld X hXs hbl hbA hg9 dL_law_369 ?_
  refine sN_aload_n X rfl dL_law_370 ?_
  refine sN_iload_n X rfl dL_law_371 ?_
  refine sN_iconst X ⟨by decide, by decide⟩ dL_law_372 ?_
  refine sN_iadd X dL_law_373 ?_
  refine sN_sld X hXs hbl hbA hg9 dL_law_374 ?_
  refine sN_callN X hcells (mN_deM l n) tw_1195 tw_1196 tw_1197 tw_134 tw_1198 rfl (by decide +kernel) ⟨by decide, by decide⟩ spM_mo dL_law_375 ?_
  refine sN_pop X dL_law_378 ?_
  refine sN_goto X (tgt := 1369) dL_law_379 (by decide) ?_
  exact s_law_1369 X hcells hL hXs hbl hbA hg9 hJ
set_option maxRecDepth 100000 in
def b_law_339 (n L : Nat) (xs : Nat → Int32) (J : Nat → List qV → List qV → qW → Prop) : qK := x_aload 1 (x_aload 0 (x_iload 3 (x_int 1 (x_iadd (x_sldL L xs (x_aload 0 (x_iload 3 (x_int 2 (x_iadd (x_sldL L xs (x_aload 0 (x_iload 3 (x_int 3 (x_iadd (x_sldL L xs (x_callN 11 4 (spM n (fun av => ∃ a b cc : Int, av = [q2 0, q1 a, q1 b, q1 cc]) rlDeC) (x_pop (x_aload 2 (x_aload 0 (b_law_361 n L xs J))))))))))))))))))))
set_option maxRecDepth 100000 in
theorem s_law_339 {p : Program} {l : Launch} {e : Env} {R : Room} {s : State} {m : MethodId} {args : Array Value} {below : List Frame} {meth : Method} {c : Code} {n nc ns nW b L : Nat} {xs : Nat → Int32} {dC : Nat → ClassId} {dI : Nat → Nat → Nat} {k : Nat → ClassId} {g : Nat → Nat} {A : Nat → Prop} {Qf : State → Prop} {J : Nat → List qV → List qV → qW → Prop} (X : q_X p R s m args meth c code 4 nW 10 231 R_law ret dC dI k g A) (hcells : nc + 0 ≤ R.cells ∧ ns + 0 ≤ R.slots) (hL : L ≤ 3072) (hXs : va_X b L xs s s.heap) (hbl : b < s.heap.size) (hbA : ¬ A b) (hg9 : g 900 = b) (hJ : ∀ d : Nat, q_SdN nc ns p l e R s m args below meth c 4 nW dC dI k g A Qf d (x_cut [0, 1, 2, 3] (J d))) : q_SdN nc ns p l e R s m args below meth c 4 nW dC dI k g A Qf 339 (b_law_339 n L xs J) := by
  unfold b_law_339
  refine sN_aload_n X rfl dL_law_339 ?_
  refine sN_aload_n X rfl dL_law_340 ?_
  refine sN_iload_n X rfl dL_law_341 ?_
  refine sN_iconst X ⟨by decide, by decide⟩ dL_law_342 ?_
  refine sN_iadd X dL_law_343 ?_
  refine sN_sld X hXs hbl hbA hg9 dL_law_344 ?_
  refine sN_aload_n X rfl dL_law_345 ?_
  refine sN_iload_n X rfl dL_law_346 ?_
  refine sN_iconst X ⟨by decide, by decide⟩ dL_law_347 ?_
  refine sN_iadd X dL_law_348 ?_
  refine sN_sld X hXs hbl hbA hg9 dL_law_349 ?_
  refine sN_aload_n X rfl dL_law_350 ?_
  refine sN_iload_n X rfl dL_law_351 ?_
  refine sN_iconst X ⟨by decide, by decide⟩ dL_law_352 ?_
  refine sN_iadd X dL_law_353 ?_
  refine sN_sld X hXs hbl hbA hg9 dL_law_354 ?_
  refine sN_callN X hcells (mN_deC l n) tw_555 tw_556 tw_557 tw_120 tw_558 rfl (by decide +kernel) ⟨by decide, by decide⟩ spM_mo dL_law_355 ?_
  refine sN_pop X dL_law_358 ?_
  refine sN_aload_n X rfl dL_law_359 ?_
  refine sN_aload_n X rfl dL_law_360 ?_
  exact s_law_361 X hcells hL hXs hbl hbA hg9 hJ
set_option maxRecDepth 100000 in
def b_law_328 (n L : Nat) (xs : Nat → Int32) (J : Nat → List qV → List qV → qW → Prop) : qK := x_iload 3 (x_int 2 (x_iadd (x_sldL L xs (x_callN 12 3 (spM n (fun av => ∃ a b : Int, av = [q2 85, q1 a, q1 b]) rlBoM) (x_pop (b_law_1369 n L xs J))))))
set_option maxRecDepth 100000 in
theorem s_law_328 {p : Program} {l : Launch} {e : Env} {R : Room} {s : State} {m : MethodId} {args : Array Value} {below : List Frame} {meth : Method} {c : Code} {n nc ns nW b L : Nat} {xs : Nat → Int32} {dC : Nat → ClassId} {dI : Nat → Nat → Nat} {k : Nat → ClassId} {g : Nat → Nat} {A : Nat → Prop} {Qf : State → Prop} {J : Nat → List qV → List qV → qW → Prop} (X : q_X p R s m args meth c code 4 nW 10 231 R_law ret dC dI k g A) (hcells : nc + 0 ≤ R.cells ∧ ns + 0 ≤ R.slots) (hL : L ≤ 3072) (hXs : va_X b L xs s s.heap) (hbl : b < s.heap.size) (hbA : ¬ A b) (hg9 : g 900 = b) (hJ : ∀ d : Nat, q_SdN nc ns p l e R s m args below meth c 4 nW dC dI k g A Qf d (x_cut [0, 1, 2, 3] (J d))) : q_SdN nc ns p l e R s m args below meth c 4 nW dC dI k g A Qf 328 (b_law_328 n L xs J) := by
  unfold b_law_328
  refine sN_iload_n X rfl dL_law_328 ?_
  refine sN_iconst X ⟨by decide, by decide⟩ dL_law_329 ?_
  refine sN_iadd X dL_law_330 ?_
  refine sN_sld X hXs hbl hbA hg9 dL_law_331 ?_
  refine sN_callN X hcells (mN_boM l n) tw_1182 tw_1183 tw_1184 tw_134 tw_1185 rfl (by decide +kernel) ⟨by decide, by decide⟩ spM_mo dL_law_332 ?_
  refine sN_pop X dL_law_335 ?_
  refine sN_goto X (tgt := 1369) dL_law_336 (by decide) ?_
  exact s_law_1369 X hcells hL hXs hbl hbA hg9 hJ
set_option maxRecDepth 100000 in
def b_law_306 (n L : Nat) (xs : Nat → Int32) (J : Nat → List qV → List qV → qW → Prop) : qK := x_aload 1 (x_aload 0 (x_iload 3 (x_int 1 (x_iadd (x_sldL L xs (x_aload 0 (x_iload 3 (x_int 2 (x_iadd (x_sldL L xs (x_callN 11 3 (spM n (fun av => ∃ a b : Int, av = [q2 0, q1 a, q1 b]) rlBoC) (x_pop (x_aload 2 (x_aload 0 (x_iload 3 (x_int 1 (x_iadd (x_sldL L xs (x_aload 0 (b_law_328 n L xs J))))))))))))))))))))
set_option maxRecDepth 100000 in
theorem s_law_306 {p : Program} {l : Launch} {e : Env} {R : Room} {s : State} {m : MethodId} {args : Array Value} {below : List Frame} {meth : Method} {c : Code} {n nc ns nW b L : Nat} {xs : Nat → Int32} {dC : Nat → ClassId} {dI : Nat → Nat → Nat} {k : Nat → ClassId} {g : Nat → Nat} {A : Nat → Prop} {Qf : State → Prop} {J : Nat → List qV → List qV → qW → Prop} (X : q_X p R s m args meth c code 4 nW 10 231 R_law ret dC dI k g A) (hcells : nc + 0 ≤ R.cells ∧ ns + 0 ≤ R.slots) (hL : L ≤ 3072) (hXs : va_X b L xs s s.heap) (hbl : b < s.heap.size) (hbA : ¬ A b) (hg9 : g 900 = b) (hJ : ∀ d : Nat, q_SdN nc ns p l e R s m args below meth c 4 nW dC dI k g A Qf d (x_cut [0, 1, 2, 3] (J d))) : q_SdN nc ns p l e R s m args below meth c 4 nW dC dI k g A Qf 306 (b_law_306 n L xs J) := by
  unfold b_law_306
  refine sN_aload_n X rfl dL_law_306 ?_
  refine sN_aload_n X rfl dL_law_307 ?_
  refine sN_iload_n X rfl dL_law_308 ?_
  refine sN_iconst X ⟨by decide, by decide⟩ dL_law_309 ?_
  refine sN_iadd X dL_law_310 ?_
  refine sN_sld X hXs hbl hbA hg9 dL_law_311 ?_
  refine sN_aload_n X rfl dL_law_312 ?_
  refine sN_iload_n X rfl dL_law_313 ?_
  refine sN_iconst X ⟨by decide, by decide⟩ dL_law_314 ?_
  refine sN_iadd X dL_law_315 ?_
  refine sN_sld X hXs hbl hbA hg9 dL_law_316 ?_
  refine sN_callN X hcells (mN_boC l n) tw_537 tw_538 tw_539 tw_120 tw_540 rfl (by decide +kernel) ⟨by decide, by decide⟩ spM_mo dL_law_317 ?_
  refine sN_pop X dL_law_320 ?_
  refine sN_aload_n X rfl dL_law_321 ?_
  refine sN_aload_n X rfl dL_law_322 ?_
  refine sN_iload_n X rfl dL_law_323 ?_
  refine sN_iconst X ⟨by decide, by decide⟩ dL_law_324 ?_
  refine sN_iadd X dL_law_325 ?_
  refine sN_sld X hXs hbl hbA hg9 dL_law_326 ?_
  refine sN_aload_n X rfl dL_law_327 ?_
  exact s_law_328 X hcells hL hXs hbl hbA hg9 hJ
set_option maxRecDepth 100000 in
def b_law_283 (n L : Nat) (xs : Nat → Int32) (J : Nat → List qV → List qV → qW → Prop) : qK := x_aload 1 (x_aload 0 (x_iload 3 (x_int 1 (x_iadd (x_sldL L xs (x_callN 11 2 (spM n (fun av => ∃ a : Int, av = [q2 0, q1 a]) rlFaC) (x_pop (x_aload 2 (x_aload 0 (x_iload 3 (x_int 1 (x_iadd (x_sldL L xs (x_callN 12 2 (spM n (fun av => ∃ a : Int, av = [q2 85, q1 a]) rlFaM) (x_pop (b_law_1369 n L xs J))))))))))))))))
set_option maxRecDepth 100000 in
theorem s_law_283 {p : Program} {l : Launch} {e : Env} {R : Room} {s : State} {m : MethodId} {args : Array Value} {below : List Frame} {meth : Method} {c : Code} {n nc ns nW b L : Nat} {xs : Nat → Int32} {dC : Nat → ClassId} {dI : Nat → Nat → Nat} {k : Nat → ClassId} {g : Nat → Nat} {A : Nat → Prop} {Qf : State → Prop} {J : Nat → List qV → List qV → qW → Prop} (X : q_X p R s m args meth c code 4 nW 10 231 R_law ret dC dI k g A) (hcells : nc + 0 ≤ R.cells ∧ ns + 0 ≤ R.slots) (hL : L ≤ 3072) (hXs : va_X b L xs s s.heap) (hbl : b < s.heap.size) (hbA : ¬ A b) (hg9 : g 900 = b) (hJ : ∀ d : Nat, q_SdN nc ns p l e R s m args below meth c 4 nW dC dI k g A Qf d (x_cut [0, 1, 2, 3] (J d))) : q_SdN nc ns p l e R s m args below meth c 4 nW dC dI k g A Qf 283 (b_law_283 n L xs J) := by
  unfold b_law_283
  refine sN_aload_n X rfl dL_law_283 ?_
  refine sN_aload_n X rfl dL_law_284 ?_
  refine sN_iload_n X rfl dL_law_285 ?_
  refine sN_iconst X ⟨by decide, by decide⟩ dL_law_286 ?_
  refine sN_iadd X dL_law_287 ?_
  refine sN_sld X hXs hbl hbA hg9 dL_law_288 ?_
  refine sN_callN X hcells (mN_faC l n) tw_533 tw_534 tw_535 tw_120 tw_536 rfl (by decide +kernel) ⟨by decide, by decide⟩ spM_mo dL_law_289 ?_
  refine sN_pop X dL_law_292 ?_
  refine sN_aload_n X rfl dL_law_293 ?_
  refine sN_aload_n X rfl dL_law_294 ?_
  refine sN_iload_n X rfl dL_law_295 ?_
  refine sN_iconst X ⟨by decide, by decide⟩ dL_law_296 ?_
  refine sN_iadd X dL_law_297 ?_
  refine sN_sld X hXs hbl hbA hg9 dL_law_298 ?_
  refine sN_callN X hcells (mN_faM l n) tw_1178 tw_1179 tw_1180 tw_134 tw_1181 rfl (by decide +kernel) ⟨by decide, by decide⟩ spM_mo dL_law_299 ?_
  refine sN_pop X dL_law_302 ?_
  refine sN_goto X (tgt := 1369) dL_law_303 (by decide) ?_
  exact s_law_1369 X hcells hL hXs hbl hbA hg9 hJ
set_option maxRecDepth 100000 in
def b_law_272 (n L : Nat) (xs : Nat → Int32) (J : Nat → List qV → List qV → qW → Prop) : qK := x_iload 3 (x_int 2 (x_iadd (x_sldL L xs (x_callN 12 3 (spM n (fun av => ∃ a b : Int, av = [q2 85, q1 a, q1 b]) rlTxM) (x_pop (b_law_1369 n L xs J))))))
set_option maxRecDepth 100000 in
theorem s_law_272 {p : Program} {l : Launch} {e : Env} {R : Room} {s : State} {m : MethodId} {args : Array Value} {below : List Frame} {meth : Method} {c : Code} {n nc ns nW b L : Nat} {xs : Nat → Int32} {dC : Nat → ClassId} {dI : Nat → Nat → Nat} {k : Nat → ClassId} {g : Nat → Nat} {A : Nat → Prop} {Qf : State → Prop} {J : Nat → List qV → List qV → qW → Prop} (X : q_X p R s m args meth c code 4 nW 10 231 R_law ret dC dI k g A) (hcells : nc + 0 ≤ R.cells ∧ ns + 0 ≤ R.slots) (hL : L ≤ 3072) (hXs : va_X b L xs s s.heap) (hbl : b < s.heap.size) (hbA : ¬ A b) (hg9 : g 900 = b) (hJ : ∀ d : Nat, q_SdN nc ns p l e R s m args below meth c 4 nW dC dI k g A Qf d (x_cut [0, 1, 2, 3] (J d))) : q_SdN nc ns p l e R s m args below meth c 4 nW dC dI k g A Qf 272 (b_law_272 n L xs J) := by
  unfold b_law_272
  refine sN_iload_n X rfl dL_law_272 ?_
  refine sN_iconst X ⟨by decide, by decide⟩ dL_law_273 ?_
  refine sN_iadd X dL_law_274 ?_
  refine sN_sld X hXs hbl hbA hg9 dL_law_275 ?_
  refine sN_callN X hcells (mN_txM l n) tw_1057 tw_1058 tw_1059 tw_134 tw_1060 rfl (by decide +kernel) ⟨by decide, by decide⟩ spM_mo dL_law_276 ?_
  refine sN_pop X dL_law_279 ?_
  refine sN_goto X (tgt := 1369) dL_law_280 (by decide) ?_
  exact s_law_1369 X hcells hL hXs hbl hbA hg9 hJ
set_option maxRecDepth 100000 in
def b_law_250 (n L : Nat) (xs : Nat → Int32) (J : Nat → List qV → List qV → qW → Prop) : qK := x_aload 1 (x_aload 0 (x_iload 3 (x_int 1 (x_iadd (x_sldL L xs (x_aload 0 (x_iload 3 (x_int 2 (x_iadd (x_sldL L xs (x_callN 11 3 (spM n (fun av => ∃ a b : Int, av = [q2 0, q1 a, q1 b]) rlTxC) (x_pop (x_aload 2 (x_aload 0 (x_iload 3 (x_int 1 (x_iadd (x_sldL L xs (x_aload 0 (b_law_272 n L xs J))))))))))))))))))))
set_option maxRecDepth 100000 in
theorem s_law_250 {p : Program} {l : Launch} {e : Env} {R : Room} {s : State} {m : MethodId} {args : Array Value} {below : List Frame} {meth : Method} {c : Code} {n nc ns nW b L : Nat} {xs : Nat → Int32} {dC : Nat → ClassId} {dI : Nat → Nat → Nat} {k : Nat → ClassId} {g : Nat → Nat} {A : Nat → Prop} {Qf : State → Prop} {J : Nat → List qV → List qV → qW → Prop} (X : q_X p R s m args meth c code 4 nW 10 231 R_law ret dC dI k g A) (hcells : nc + 0 ≤ R.cells ∧ ns + 0 ≤ R.slots) (hL : L ≤ 3072) (hXs : va_X b L xs s s.heap) (hbl : b < s.heap.size) (hbA : ¬ A b) (hg9 : g 900 = b) (hJ : ∀ d : Nat, q_SdN nc ns p l e R s m args below meth c 4 nW dC dI k g A Qf d (x_cut [0, 1, 2, 3] (J d))) : q_SdN nc ns p l e R s m args below meth c 4 nW dC dI k g A Qf 250 (b_law_250 n L xs J) := by
  unfold b_law_250
  refine sN_aload_n X rfl dL_law_250 ?_
  refine sN_aload_n X rfl dL_law_251 ?_
  refine sN_iload_n X rfl dL_law_252 ?_
  refine sN_iconst X ⟨by decide, by decide⟩ dL_law_253 ?_
  refine sN_iadd X dL_law_254 ?_
  refine sN_sld X hXs hbl hbA hg9 dL_law_255 ?_
  refine sN_aload_n X rfl dL_law_256 ?_
  refine sN_iload_n X rfl dL_law_257 ?_
  refine sN_iconst X ⟨by decide, by decide⟩ dL_law_258 ?_
  refine sN_iadd X dL_law_259 ?_
  refine sN_sld X hXs hbl hbA hg9 dL_law_260 ?_
  refine sN_callN X hcells (mN_text l n) tw_346 tw_347 tw_348 tw_120 tw_349 rfl (by decide +kernel) ⟨by decide, by decide⟩ spM_mo dL_law_261 ?_
  refine sN_pop X dL_law_264 ?_
  refine sN_aload_n X rfl dL_law_265 ?_
  refine sN_aload_n X rfl dL_law_266 ?_
  refine sN_iload_n X rfl dL_law_267 ?_
  refine sN_iconst X ⟨by decide, by decide⟩ dL_law_268 ?_
  refine sN_iadd X dL_law_269 ?_
  refine sN_sld X hXs hbl hbA hg9 dL_law_270 ?_
  refine sN_aload_n X rfl dL_law_271 ?_
  exact s_law_272 X hcells hL hXs hbl hbA hg9 hJ
set_option maxRecDepth 100000 in
def b_law_227 (n L : Nat) (xs : Nat → Int32) (J : Nat → List qV → List qV → qW → Prop) : qK := x_aload 1 (x_aload 0 (x_iload 3 (x_int 1 (x_iadd (x_sldL L xs (x_callN 11 2 (spM n (fun av => ∃ a : Int, av = [q2 0, q1 a]) rlEnC) (x_pop (x_aload 2 (x_aload 0 (x_iload 3 (x_int 1 (x_iadd (x_sldL L xs (x_callN 12 2 (spM n (fun av => ∃ a : Int, av = [q2 85, q1 a]) rlEnM) (x_pop (b_law_1369 n L xs J))))))))))))))))
set_option maxRecDepth 100000 in
theorem s_law_227 {p : Program} {l : Launch} {e : Env} {R : Room} {s : State} {m : MethodId} {args : Array Value} {below : List Frame} {meth : Method} {c : Code} {n nc ns nW b L : Nat} {xs : Nat → Int32} {dC : Nat → ClassId} {dI : Nat → Nat → Nat} {k : Nat → ClassId} {g : Nat → Nat} {A : Nat → Prop} {Qf : State → Prop} {J : Nat → List qV → List qV → qW → Prop} (X : q_X p R s m args meth c code 4 nW 10 231 R_law ret dC dI k g A) (hcells : nc + 0 ≤ R.cells ∧ ns + 0 ≤ R.slots) (hL : L ≤ 3072) (hXs : va_X b L xs s s.heap) (hbl : b < s.heap.size) (hbA : ¬ A b) (hg9 : g 900 = b) (hJ : ∀ d : Nat, q_SdN nc ns p l e R s m args below meth c 4 nW dC dI k g A Qf d (x_cut [0, 1, 2, 3] (J d))) : q_SdN nc ns p l e R s m args below meth c 4 nW dC dI k g A Qf 227 (b_law_227 n L xs J) := by
  unfold b_law_227
  refine sN_aload_n X rfl dL_law_227 ?_
  refine sN_aload_n X rfl dL_law_228 ?_
  refine sN_iload_n X rfl dL_law_229 ?_
  refine sN_iconst X ⟨by decide, by decide⟩ dL_law_230 ?_
  refine sN_iadd X dL_law_231 ?_
  refine sN_sld X hXs hbl hbA hg9 dL_law_232 ?_
  refine sN_callN X hcells (mN_enC l n) tw_342 tw_343 tw_344 tw_120 tw_345 rfl (by decide +kernel) ⟨by decide, by decide⟩ spM_mo dL_law_233 ?_
  refine sN_pop X dL_law_236 ?_
  refine sN_aload_n X rfl dL_law_237 ?_
  refine sN_aload_n X rfl dL_law_238 ?_
  refine sN_iload_n X rfl dL_law_239 ?_
  refine sN_iconst X ⟨by decide, by decide⟩ dL_law_240 ?_
  refine sN_iadd X dL_law_241 ?_
  refine sN_sld X hXs hbl hbA hg9 dL_law_242 ?_
  refine sN_callN X hcells (mN_enM l n) tw_1050 tw_1051 tw_1052 tw_134 tw_1053 rfl (by decide +kernel) ⟨by decide, by decide⟩ spM_mo dL_law_243 ?_
  refine sN_pop X dL_law_246 ?_
  refine sN_goto X (tgt := 1369) dL_law_247 (by decide) ?_
  exact s_law_1369 X hcells hL hXs hbl hbA hg9 hJ
set_option maxRecDepth 100000 in
def b_law_206 (n L : Nat) (xs : Nat → Int32) (J : Nat → List qV → List qV → qW → Prop) : qK := x_iload 3 (x_int 3 (x_iadd (x_sldL L xs (x_aload 0 (x_iload 3 (x_int 4 (x_iadd (x_sldL L xs (x_aload 0 (x_iload 3 (x_int 5 (x_iadd (x_sldL L xs (x_callN 12 6 (spM n (fun av => ∃ a b cc dd ee : Int, av = [q2 85, q1 a, q1 b, q1 cc, q1 dd, q1 ee]) rlFeM) (x_pop (b_law_1369 n L xs J))))))))))))))))
set_option maxRecDepth 100000 in
theorem s_law_206 {p : Program} {l : Launch} {e : Env} {R : Room} {s : State} {m : MethodId} {args : Array Value} {below : List Frame} {meth : Method} {c : Code} {n nc ns nW b L : Nat} {xs : Nat → Int32} {dC : Nat → ClassId} {dI : Nat → Nat → Nat} {k : Nat → ClassId} {g : Nat → Nat} {A : Nat → Prop} {Qf : State → Prop} {J : Nat → List qV → List qV → qW → Prop} (X : q_X p R s m args meth c code 4 nW 10 231 R_law ret dC dI k g A) (hcells : nc + 0 ≤ R.cells ∧ ns + 0 ≤ R.slots) (hL : L ≤ 3072) (hXs : va_X b L xs s s.heap) (hbl : b < s.heap.size) (hbA : ¬ A b) (hg9 : g 900 = b) (hJ : ∀ d : Nat, q_SdN nc ns p l e R s m args below meth c 4 nW dC dI k g A Qf d (x_cut [0, 1, 2, 3] (J d))) : q_SdN nc ns p l e R s m args below meth c 4 nW dC dI k g A Qf 206 (b_law_206 n L xs J) := by
  unfold b_law_206
  refine sN_iload_n X rfl dL_law_206 ?_
  refine sN_iconst X ⟨by decide, by decide⟩ dL_law_207 ?_
  refine sN_iadd X dL_law_208 ?_
  refine sN_sld X hXs hbl hbA hg9 dL_law_209 ?_
  refine sN_aload_n X rfl dL_law_210 ?_
  refine sN_iload_n X rfl dL_law_211 ?_
  refine sN_iconst X ⟨by decide, by decide⟩ dL_law_212 ?_
  refine sN_iadd X dL_law_213 ?_
  refine sN_sld X hXs hbl hbA hg9 dL_law_214 ?_
  refine sN_aload_n X rfl dL_law_215 ?_
  refine sN_iload_n X rfl dL_law_216 ?_
  refine sN_iconst X ⟨by decide, by decide⟩ dL_law_217 ?_
  refine sN_iadd X dL_law_218 ?_
  refine sN_sld X hXs hbl hbA hg9 dL_law_219 ?_
  refine sN_callN X hcells (mN_feM l n) tw_1043 tw_1044 tw_1045 tw_134 tw_1046 rfl (by decide +kernel) ⟨by decide, by decide⟩ spM_mo dL_law_220 ?_
  refine sN_pop X dL_law_223 ?_
  refine sN_goto X (tgt := 1369) dL_law_224 (by decide) ?_
  exact s_law_1369 X hcells hL hXs hbl hbA hg9 hJ
set_option maxRecDepth 100000 in
def b_law_184 (n L : Nat) (xs : Nat → Int32) (J : Nat → List qV → List qV → qW → Prop) : qK := x_sldL L xs (x_aload 0 (x_iload 3 (x_int 5 (x_iadd (x_sldL L xs (x_callN 11 6 (spM n (fun av => ∃ a b cc dd ee : Int, av = [q2 0, q1 a, q1 b, q1 cc, q1 dd, q1 ee]) rlFeC) (x_pop (x_aload 2 (x_aload 0 (x_iload 3 (x_int 1 (x_iadd (x_sldL L xs (x_aload 0 (x_iload 3 (x_int 2 (x_iadd (x_sldL L xs (x_aload 0 (b_law_206 n L xs J))))))))))))))))))))
set_option maxRecDepth 100000 in
theorem s_law_184 {p : Program} {l : Launch} {e : Env} {R : Room} {s : State} {m : MethodId} {args : Array Value} {below : List Frame} {meth : Method} {c : Code} {n nc ns nW b L : Nat} {xs : Nat → Int32} {dC : Nat → ClassId} {dI : Nat → Nat → Nat} {k : Nat → ClassId} {g : Nat → Nat} {A : Nat → Prop} {Qf : State → Prop} {J : Nat → List qV → List qV → qW → Prop} (X : q_X p R s m args meth c code 4 nW 10 231 R_law ret dC dI k g A) (hcells : nc + 0 ≤ R.cells ∧ ns + 0 ≤ R.slots) (hL : L ≤ 3072) (hXs : va_X b L xs s s.heap) (hbl : b < s.heap.size) (hbA : ¬ A b) (hg9 : g 900 = b) (hJ : ∀ d : Nat, q_SdN nc ns p l e R s m args below meth c 4 nW dC dI k g A Qf d (x_cut [0, 1, 2, 3] (J d))) : q_SdN nc ns p l e R s m args below meth c 4 nW dC dI k g A Qf 184 (b_law_184 n L xs J) := by
  unfold b_law_184
  refine sN_sld X hXs hbl hbA hg9 dL_law_184 ?_
  refine sN_aload_n X rfl dL_law_185 ?_
  refine sN_iload_n X rfl dL_law_186 ?_
  refine sN_iconst X ⟨by decide, by decide⟩ dL_law_187 ?_
  refine sN_iadd X dL_law_188 ?_
  refine sN_sld X hXs hbl hbA hg9 dL_law_189 ?_
  refine sN_callN X hcells (mN_feC l n) tw_334 tw_335 tw_336 tw_120 tw_337 rfl (by decide +kernel) ⟨by decide, by decide⟩ spM_mo dL_law_190 ?_
  refine sN_pop X dL_law_193 ?_
  refine sN_aload_n X rfl dL_law_194 ?_
  refine sN_aload_n X rfl dL_law_195 ?_
  refine sN_iload_n X rfl dL_law_196 ?_
  refine sN_iconst X ⟨by decide, by decide⟩ dL_law_197 ?_
  refine sN_iadd X dL_law_198 ?_
  refine sN_sld X hXs hbl hbA hg9 dL_law_199 ?_
  refine sN_aload_n X rfl dL_law_200 ?_
  refine sN_iload_n X rfl dL_law_201 ?_
  refine sN_iconst X ⟨by decide, by decide⟩ dL_law_202 ?_
  refine sN_iadd X dL_law_203 ?_
  refine sN_sld X hXs hbl hbA hg9 dL_law_204 ?_
  refine sN_aload_n X rfl dL_law_205 ?_
  exact s_law_206 X hcells hL hXs hbl hbA hg9 hJ
set_option maxRecDepth 100000 in
def b_law_164 (n L : Nat) (xs : Nat → Int32) (J : Nat → List qV → List qV → qW → Prop) : qK := x_aload 1 (x_aload 0 (x_iload 3 (x_int 1 (x_iadd (x_sldL L xs (x_aload 0 (x_iload 3 (x_int 2 (x_iadd (x_sldL L xs (x_aload 0 (x_iload 3 (x_int 3 (x_iadd (x_sldL L xs (x_aload 0 (x_iload 3 (x_int 4 (x_iadd (b_law_184 n L xs J))))))))))))))))))))
set_option maxRecDepth 100000 in
theorem s_law_164 {p : Program} {l : Launch} {e : Env} {R : Room} {s : State} {m : MethodId} {args : Array Value} {below : List Frame} {meth : Method} {c : Code} {n nc ns nW b L : Nat} {xs : Nat → Int32} {dC : Nat → ClassId} {dI : Nat → Nat → Nat} {k : Nat → ClassId} {g : Nat → Nat} {A : Nat → Prop} {Qf : State → Prop} {J : Nat → List qV → List qV → qW → Prop} (X : q_X p R s m args meth c code 4 nW 10 231 R_law ret dC dI k g A) (hcells : nc + 0 ≤ R.cells ∧ ns + 0 ≤ R.slots) (hL : L ≤ 3072) (hXs : va_X b L xs s s.heap) (hbl : b < s.heap.size) (hbA : ¬ A b) (hg9 : g 900 = b) (hJ : ∀ d : Nat, q_SdN nc ns p l e R s m args below meth c 4 nW dC dI k g A Qf d (x_cut [0, 1, 2, 3] (J d))) : q_SdN nc ns p l e R s m args below meth c 4 nW dC dI k g A Qf 164 (b_law_164 n L xs J) := by
  unfold b_law_164
  refine sN_aload_n X rfl dL_law_164 ?_
  refine sN_aload_n X rfl dL_law_165 ?_
  refine sN_iload_n X rfl dL_law_166 ?_
  refine sN_iconst X ⟨by decide, by decide⟩ dL_law_167 ?_
  refine sN_iadd X dL_law_168 ?_
  refine sN_sld X hXs hbl hbA hg9 dL_law_169 ?_
  refine sN_aload_n X rfl dL_law_170 ?_
  refine sN_iload_n X rfl dL_law_171 ?_
  refine sN_iconst X ⟨by decide, by decide⟩ dL_law_172 ?_
  refine sN_iadd X dL_law_173 ?_
  refine sN_sld X hXs hbl hbA hg9 dL_law_174 ?_
  refine sN_aload_n X rfl dL_law_175 ?_
  refine sN_iload_n X rfl dL_law_176 ?_
  refine sN_iconst X ⟨by decide, by decide⟩ dL_law_177 ?_
  refine sN_iadd X dL_law_178 ?_
  refine sN_sld X hXs hbl hbA hg9 dL_law_179 ?_
  refine sN_aload_n X rfl dL_law_180 ?_
  refine sN_iload_n X rfl dL_law_181 ?_
  refine sN_iconst X ⟨by decide, by decide⟩ dL_law_182 ?_
  refine sN_iadd X dL_law_183 ?_
  exact s_law_184 X hcells hL hXs hbl hbA hg9 hJ
set_option maxRecDepth 100000 in
def b_law_1332 (n L : Nat) (xs : Nat → Int32) (J : Nat → List qV → List qV → qW → Prop) : qK := x_pop (x_aload 2 (x_aload 0 (x_iload 3 (x_int 1 (x_iadd (x_sldL L xs (x_callN 12 2 (spM n (fun av => ∃ a : Int, av = [q2 85, q1 a]) rlImM) (x_pop (b_law_1369 n L xs J)))))))))
set_option maxRecDepth 100000 in
theorem s_law_1332 {p : Program} {l : Launch} {e : Env} {R : Room} {s : State} {m : MethodId} {args : Array Value} {below : List Frame} {meth : Method} {c : Code} {n nc ns nW b L : Nat} {xs : Nat → Int32} {dC : Nat → ClassId} {dI : Nat → Nat → Nat} {k : Nat → ClassId} {g : Nat → Nat} {A : Nat → Prop} {Qf : State → Prop} {J : Nat → List qV → List qV → qW → Prop} (X : q_X p R s m args meth c code 4 nW 10 231 R_law ret dC dI k g A) (hcells : nc + 0 ≤ R.cells ∧ ns + 0 ≤ R.slots) (hL : L ≤ 3072) (hXs : va_X b L xs s s.heap) (hbl : b < s.heap.size) (hbA : ¬ A b) (hg9 : g 900 = b) (hJ : ∀ d : Nat, q_SdN nc ns p l e R s m args below meth c 4 nW dC dI k g A Qf d (x_cut [0, 1, 2, 3] (J d))) : q_SdN nc ns p l e R s m args below meth c 4 nW dC dI k g A Qf 1332 (b_law_1332 n L xs J) := by
  unfold b_law_1332
  refine sN_pop X dL_law_1332 ?_
  refine sN_aload_n X rfl dL_law_1333 ?_
  refine sN_aload_n X rfl dL_law_1334 ?_
  refine sN_iload_n X rfl dL_law_1335 ?_
  refine sN_iconst X ⟨by decide, by decide⟩ dL_law_1336 ?_
  refine sN_iadd X dL_law_1337 ?_
  refine sN_sld X hXs hbl hbA hg9 dL_law_1338 ?_
  refine sN_callN X hcells (mN_imM l n) tw_1469 tw_1470 tw_1471 tw_134 tw_1472 rfl (by decide +kernel) ⟨by decide, by decide⟩ spM_mo dL_law_1339 ?_
  refine sN_pop X dL_law_1342 ?_
  refine sN_goto X (tgt := 1369) dL_law_1343 (by decide) ?_
  exact s_law_1369 X hcells hL hXs hbl hbA hg9 hJ
set_option maxRecDepth 100000 in
def b_law_1323 (n L : Nat) (xs : Nat → Int32) (J : Nat → List qV → List qV → qW → Prop) : qK := x_aload 1 (x_aload 0 (x_iload 3 (x_int 1 (x_iadd (x_sldL L xs (x_cut [0, 1, 2, 3] (J 1329)))))))
set_option maxRecDepth 100000 in
theorem s_law_1323 {p : Program} {l : Launch} {e : Env} {R : Room} {s : State} {m : MethodId} {args : Array Value} {below : List Frame} {meth : Method} {c : Code} {n nc ns nW b L : Nat} {xs : Nat → Int32} {dC : Nat → ClassId} {dI : Nat → Nat → Nat} {k : Nat → ClassId} {g : Nat → Nat} {A : Nat → Prop} {Qf : State → Prop} {J : Nat → List qV → List qV → qW → Prop} (X : q_X p R s m args meth c code 4 nW 10 231 R_law ret dC dI k g A) (hcells : nc + 0 ≤ R.cells ∧ ns + 0 ≤ R.slots) (hL : L ≤ 3072) (hXs : va_X b L xs s s.heap) (hbl : b < s.heap.size) (hbA : ¬ A b) (hg9 : g 900 = b) (hJ : ∀ d : Nat, q_SdN nc ns p l e R s m args below meth c 4 nW dC dI k g A Qf d (x_cut [0, 1, 2, 3] (J d))) : q_SdN nc ns p l e R s m args below meth c 4 nW dC dI k g A Qf 1323 (b_law_1323 n L xs J) := by
  unfold b_law_1323
  refine sN_aload_n X rfl dL_law_1323 ?_
  refine sN_aload_n X rfl dL_law_1324 ?_
  refine sN_iload_n X rfl dL_law_1325 ?_
  refine sN_iconst X ⟨by decide, by decide⟩ dL_law_1326 ?_
  refine sN_iadd X dL_law_1327 ?_
  refine sN_sld X hXs hbl hbA hg9 dL_law_1328 ?_
  exact hJ 1329
