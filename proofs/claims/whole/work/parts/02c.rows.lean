theorem dX3_digest_184 : decode cX3_digest 184 = .ok (.if_icmp .ne 7, 3) := by decide +kernel
theorem dX3_digest_187 : decode cX3_digest 187 = .ok (.iconst 1, 1) := by decide +kernel
theorem dX3_digest_188 : decode cX3_digest 188 = .ok (.goto 4, 3) := by decide +kernel
theorem dX3_digest_191 : decode cX3_digest 191 = .ok (.iconst 0, 1) := by decide +kernel
theorem dX3_digest_192 : decode cX3_digest 192 = .ok (.iastore, 1) := by decide +kernel
theorem dX3_digest_193 : decode cX3_digest 193 = .ok (.dup, 1) := by decide +kernel
theorem dX3_digest_194 : decode cX3_digest 194 = .ok (.iconst 3, 1) := by decide +kernel
theorem dX3_digest_195 : decode cX3_digest 195 = .ok (.aload_n 0, 1) := by decide +kernel
theorem dX3_digest_196 : decode cX3_digest 196 = .ok (.getfield 23, 3) := by decide +kernel
theorem dX3_digest_199 : decode cX3_digest 199 = .ok (.iload 4, 2) := by decide +kernel
theorem dX3_digest_201 : decode cX3_digest 201 = .ok (.iconst 1, 1) := by decide +kernel
theorem dX3_digest_202 : decode cX3_digest 202 = .ok (.invokestatic 46, 3) := by decide +kernel
theorem dX3_digest_205 : decode cX3_digest 205 = .ok (.iaload, 1) := by decide +kernel
theorem dX3_digest_206 : decode cX3_digest 206 = .ok (.iastore, 1) := by decide +kernel
theorem dX3_digest_207 : decode cX3_digest 207 = .ok (.dup, 1) := by decide +kernel
theorem dX3_digest_208 : decode cX3_digest 208 = .ok (.iconst 4, 1) := by decide +kernel
theorem dX3_digest_209 : decode cX3_digest 209 = .ok (.aload_n 0, 1) := by decide +kernel
theorem dX3_digest_210 : decode cX3_digest 210 = .ok (.getfield 23, 3) := by decide +kernel
theorem dX3_digest_213 : decode cX3_digest 213 = .ok (.iload 4, 2) := by decide +kernel
theorem dX3_digest_215 : decode cX3_digest 215 = .ok (.iconst 2, 1) := by decide +kernel
theorem dX3_digest_216 : decode cX3_digest 216 = .ok (.invokestatic 46, 3) := by decide +kernel
theorem dX3_digest_219 : decode cX3_digest 219 = .ok (.iaload, 1) := by decide +kernel
theorem dX3_digest_220 : decode cX3_digest 220 = .ok (.iastore, 1) := by decide +kernel
theorem dX3_digest_221 : decode cX3_digest 221 = .ok (.dup, 1) := by decide +kernel
theorem dX3_digest_222 : decode cX3_digest 222 = .ok (.iconst 5, 1) := by decide +kernel
theorem dX3_digest_223 : decode cX3_digest 223 = .ok (.aload_n 0, 1) := by decide +kernel
theorem dX3_digest_224 : decode cX3_digest 224 = .ok (.iload 4, 2) := by decide +kernel
theorem dX3_digest_226 : decode cX3_digest 226 = .ok (.invokevirtual 81, 3) := by decide +kernel
theorem dX3_digest_229 : decode cX3_digest 229 = .ok (.iastore, 1) := by decide +kernel
theorem dX3_digest_230 : decode cX3_digest 230 = .ok (.dup, 1) := by decide +kernel
theorem dX3_digest_231 : decode cX3_digest 231 = .ok (.bipush 6, 2) := by decide +kernel
theorem dX3_digest_233 : decode cX3_digest 233 = .ok (.aload_n 0, 1) := by decide +kernel
theorem dX3_digest_234 : decode cX3_digest 234 = .ok (.iload 4, 2) := by decide +kernel
theorem dX3_digest_236 : decode cX3_digest 236 = .ok (.iconst 0, 1) := by decide +kernel
theorem dX3_digest_237 : decode cX3_digest 237 = .ok (.invokevirtual 87, 3) := by decide +kernel
theorem dX3_digest_240 : decode cX3_digest 240 = .ok (.iastore, 1) := by decide +kernel
theorem dX3_digest_241 : decode cX3_digest 241 = .ok (.dup, 1) := by decide +kernel
theorem dX3_digest_242 : decode cX3_digest 242 = .ok (.bipush 7, 2) := by decide +kernel
theorem dX3_digest_244 : decode cX3_digest 244 = .ok (.aload_n 0, 1) := by decide +kernel
theorem dX3_digest_245 : decode cX3_digest 245 = .ok (.iload 4, 2) := by decide +kernel
theorem dX3_digest_247 : decode cX3_digest 247 = .ok (.iconst 1, 1) := by decide +kernel
theorem dX3_digest_248 : decode cX3_digest 248 = .ok (.invokevirtual 87, 3) := by decide +kernel
theorem dX3_digest_251 : decode cX3_digest 251 = .ok (.iastore, 1) := by decide +kernel
theorem dX3_digest_252 : decode cX3_digest 252 = .ok (.astore 6, 2) := by decide +kernel
theorem dX3_digest_254 : decode cX3_digest 254 = .ok (.aload 6, 2) := by decide +kernel
theorem dX3_digest_256 : decode cX3_digest 256 = .ok (.astore 7, 2) := by decide +kernel
theorem dX3_digest_258 : decode cX3_digest 258 = .ok (.aload 7, 2) := by decide +kernel
theorem dX3_digest_260 : decode cX3_digest 260 = .ok (.arraylength, 1) := by decide +kernel
theorem dX3_digest_261 : decode cX3_digest 261 = .ok (.istore 8, 2) := by decide +kernel
theorem dX3_digest_263 : decode cX3_digest 263 = .ok (.iconst 0, 1) := by decide +kernel
theorem dX3_digest_264 : decode cX3_digest 264 = .ok (.istore 9, 2) := by decide +kernel
theorem dX3_digest_266 : decode cX3_digest 266 = .ok (.iload 9, 2) := by decide +kernel
theorem dX3_digest_268 : decode cX3_digest 268 = .ok (.iload 8, 2) := by decide +kernel
theorem dX3_digest_270 : decode cX3_digest 270 = .ok (.if_icmp .ge 26, 3) := by decide +kernel
theorem dX3_digest_273 : decode cX3_digest 273 = .ok (.aload 7, 2) := by decide +kernel
theorem dX3_digest_275 : decode cX3_digest 275 = .ok (.iload 9, 2) := by decide +kernel
theorem dX3_digest_277 : decode cX3_digest 277 = .ok (.iaload, 1) := by decide +kernel
theorem dX3_digest_278 : decode cX3_digest 278 = .ok (.istore 10, 2) := by decide +kernel
theorem dX3_digest_280 : decode cX3_digest 280 = .ok (.lload_n 2, 1) := by decide +kernel
theorem dX3_digest_281 : decode cX3_digest 281 = .ok (.ldc2_w 150, 3) := by decide +kernel
theorem dX3_digest_284 : decode cX3_digest 284 = .ok (.lmul, 1) := by decide +kernel
theorem dX3_digest_285 : decode cX3_digest 285 = .ok (.iload 10, 2) := by decide +kernel
theorem dX3_digest_287 : decode cX3_digest 287 = .ok (.i2l, 1) := by decide +kernel
theorem dX3_digest_288 : decode cX3_digest 288 = .ok (.ladd, 1) := by decide +kernel
theorem dX3_digest_289 : decode cX3_digest 289 = .ok (.lstore_n 2, 1) := by decide +kernel
theorem dX3_digest_290 : decode cX3_digest 290 = .ok (.iinc 9 1, 3) := by decide +kernel
theorem dX3_digest_293 : decode cX3_digest 293 = .ok (.goto (-27), 3) := by decide +kernel
theorem dX3_digest_296 : decode cX3_digest 296 = .ok (.iinc 4 1, 3) := by decide +kernel
theorem dX3_digest_299 : decode cX3_digest 299 = .ok (.goto (-169), 3) := by decide +kernel
theorem dX3_digest_302 : decode cX3_digest 302 = .ok (.iconst 0, 1) := by decide +kernel
theorem dX3_digest_303 : decode cX3_digest 303 = .ok (.istore 4, 2) := by decide +kernel
theorem dX3_digest_305 : decode cX3_digest 305 = .ok (.iload 4, 2) := by decide +kernel
theorem dX3_digest_307 : decode cX3_digest 307 = .ok (.aload_n 0, 1) := by decide +kernel
theorem dX3_digest_308 : decode cX3_digest 308 = .ok (.getfield 40, 3) := by decide +kernel
theorem dX3_digest_311 : decode cX3_digest 311 = .ok (.if_icmp .ge 122, 3) := by decide +kernel
theorem dX3_digest_314 : decode cX3_digest 314 = .ok (.iconst 5, 1) := by decide +kernel
theorem dX3_digest_315 : decode cX3_digest 315 = .ok (.newarray .int, 2) := by decide +kernel
theorem dX3_digest_317 : decode cX3_digest 317 = .ok (.dup, 1) := by decide +kernel
theorem dX3_digest_318 : decode cX3_digest 318 = .ok (.iconst 0, 1) := by decide +kernel
theorem dX3_digest_319 : decode cX3_digest 319 = .ok (.aload_n 0, 1) := by decide +kernel
theorem dX3_digest_320 : decode cX3_digest 320 = .ok (.getfield 13, 3) := by decide +kernel
theorem dX3_digest_323 : decode cX3_digest 323 = .ok (.iload 4, 2) := by decide +kernel
theorem dX3_digest_325 : decode cX3_digest 325 = .ok (.iaload, 1) := by decide +kernel
theorem dX3_digest_326 : decode cX3_digest 326 = .ok (.iastore, 1) := by decide +kernel
theorem dX3_digest_327 : decode cX3_digest 327 = .ok (.dup, 1) := by decide +kernel
theorem dX3_digest_328 : decode cX3_digest 328 = .ok (.iconst 1, 1) := by decide +kernel
theorem dX3_digest_329 : decode cX3_digest 329 = .ok (.aload_n 0, 1) := by decide +kernel
theorem dX3_digest_330 : decode cX3_digest 330 = .ok (.getfield 16, 3) := by decide +kernel
theorem dX3_digest_333 : decode cX3_digest 333 = .ok (.iload 4, 2) := by decide +kernel
theorem dX3_digest_335 : decode cX3_digest 335 = .ok (.iaload, 1) := by decide +kernel
theorem dX3_digest_336 : decode cX3_digest 336 = .ok (.iastore, 1) := by decide +kernel
theorem dX3_digest_337 : decode cX3_digest 337 = .ok (.dup, 1) := by decide +kernel
theorem dX3_digest_338 : decode cX3_digest 338 = .ok (.iconst 2, 1) := by decide +kernel
theorem dX3_digest_339 : decode cX3_digest 339 = .ok (.aload_n 0, 1) := by decide +kernel
theorem dX3_digest_340 : decode cX3_digest 340 = .ok (.getfield 19, 3) := by decide +kernel
theorem dX3_digest_343 : decode cX3_digest 343 = .ok (.iload 4, 2) := by decide +kernel
theorem dX3_digest_345 : decode cX3_digest 345 = .ok (.baload, 1) := by decide +kernel
theorem dX3_digest_346 : decode cX3_digest 346 = .ok (.ifCond .eq 7, 3) := by decide +kernel
theorem dX3_digest_349 : decode cX3_digest 349 = .ok (.iconst 1, 1) := by decide +kernel
theorem dX3_digest_350 : decode cX3_digest 350 = .ok (.goto 4, 3) := by decide +kernel
theorem dX3_digest_353 : decode cX3_digest 353 = .ok (.iconst 0, 1) := by decide +kernel
theorem dX3_digest_354 : decode cX3_digest 354 = .ok (.iastore, 1) := by decide +kernel
theorem dX3_digest_355 : decode cX3_digest 355 = .ok (.dup, 1) := by decide +kernel
theorem dX3_digest_356 : decode cX3_digest 356 = .ok (.iconst 3, 1) := by decide +kernel
theorem dX3_digest_357 : decode cX3_digest 357 = .ok (.aload_n 0, 1) := by decide +kernel
theorem dX3_digest_358 : decode cX3_digest 358 = .ok (.getfield 23, 3) := by decide +kernel
theorem dX3_digest_361 : decode cX3_digest 361 = .ok (.iload 4, 2) := by decide +kernel
theorem dX3_digest_363 : decode cX3_digest 363 = .ok (.iconst 1, 1) := by decide +kernel
theorem dX3_digest_364 : decode cX3_digest 364 = .ok (.invokestatic 59, 3) := by decide +kernel
theorem dX3_digest_367 : decode cX3_digest 367 = .ok (.iaload, 1) := by decide +kernel
theorem dX3_digest_368 : decode cX3_digest 368 = .ok (.iastore, 1) := by decide +kernel
theorem dX3_digest_369 : decode cX3_digest 369 = .ok (.dup, 1) := by decide +kernel
theorem dX3_digest_370 : decode cX3_digest 370 = .ok (.iconst 4, 1) := by decide +kernel
theorem dX3_digest_371 : decode cX3_digest 371 = .ok (.aload_n 0, 1) := by decide +kernel
theorem dX3_digest_372 : decode cX3_digest 372 = .ok (.getfield 23, 3) := by decide +kernel
theorem dX3_digest_375 : decode cX3_digest 375 = .ok (.iload 4, 2) := by decide +kernel
theorem dX3_digest_377 : decode cX3_digest 377 = .ok (.iconst 0, 1) := by decide +kernel
theorem dX3_digest_378 : decode cX3_digest 378 = .ok (.invokestatic 59, 3) := by decide +kernel
theorem dX3_digest_381 : decode cX3_digest 381 = .ok (.iaload, 1) := by decide +kernel
theorem dX3_digest_382 : decode cX3_digest 382 = .ok (.iastore, 1) := by decide +kernel
theorem dX3_digest_383 : decode cX3_digest 383 = .ok (.astore 5, 2) := by decide +kernel
theorem dX3_digest_385 : decode cX3_digest 385 = .ok (.aload 5, 2) := by decide +kernel
theorem dX3_digest_387 : decode cX3_digest 387 = .ok (.astore 6, 2) := by decide +kernel
theorem dX3_digest_389 : decode cX3_digest 389 = .ok (.aload 6, 2) := by decide +kernel
theorem dX3_digest_391 : decode cX3_digest 391 = .ok (.arraylength, 1) := by decide +kernel
theorem dX3_digest_392 : decode cX3_digest 392 = .ok (.istore 7, 2) := by decide +kernel
theorem dX3_digest_394 : decode cX3_digest 394 = .ok (.iconst 0, 1) := by decide +kernel
theorem dX3_digest_395 : decode cX3_digest 395 = .ok (.istore 8, 2) := by decide +kernel
theorem dX3_digest_397 : decode cX3_digest 397 = .ok (.iload 8, 2) := by decide +kernel
theorem dX3_digest_399 : decode cX3_digest 399 = .ok (.iload 7, 2) := by decide +kernel
theorem dX3_digest_401 : decode cX3_digest 401 = .ok (.if_icmp .ge 26, 3) := by decide +kernel
theorem dX3_digest_404 : decode cX3_digest 404 = .ok (.aload 6, 2) := by decide +kernel
theorem dX3_digest_406 : decode cX3_digest 406 = .ok (.iload 8, 2) := by decide +kernel
theorem dX3_digest_408 : decode cX3_digest 408 = .ok (.iaload, 1) := by decide +kernel
theorem dX3_digest_409 : decode cX3_digest 409 = .ok (.istore 9, 2) := by decide +kernel
theorem dX3_digest_411 : decode cX3_digest 411 = .ok (.lload_n 2, 1) := by decide +kernel
theorem dX3_digest_412 : decode cX3_digest 412 = .ok (.ldc2_w 150, 3) := by decide +kernel
theorem dX3_digest_415 : decode cX3_digest 415 = .ok (.lmul, 1) := by decide +kernel
theorem dX3_digest_416 : decode cX3_digest 416 = .ok (.iload 9, 2) := by decide +kernel
theorem dX3_digest_418 : decode cX3_digest 418 = .ok (.i2l, 1) := by decide +kernel
theorem dX3_digest_419 : decode cX3_digest 419 = .ok (.ladd, 1) := by decide +kernel
theorem dX3_digest_420 : decode cX3_digest 420 = .ok (.lstore_n 2, 1) := by decide +kernel
theorem dX3_digest_421 : decode cX3_digest 421 = .ok (.iinc 8 1, 3) := by decide +kernel
theorem dX3_digest_424 : decode cX3_digest 424 = .ok (.goto (-27), 3) := by decide +kernel
theorem dX3_digest_427 : decode cX3_digest 427 = .ok (.iinc 4 1, 3) := by decide +kernel
theorem dX3_digest_430 : decode cX3_digest 430 = .ok (.goto (-125), 3) := by decide +kernel
theorem dX3_digest_433 : decode cX3_digest 433 = .ok (.iconst 0, 1) := by decide +kernel
theorem dX3_digest_434 : decode cX3_digest 434 = .ok (.istore 4, 2) := by decide +kernel
theorem dX3_digest_436 : decode cX3_digest 436 = .ok (.iload 4, 2) := by decide +kernel
theorem dX3_digest_438 : decode cX3_digest 438 = .ok (.aload_n 0, 1) := by decide +kernel
theorem dX3_digest_439 : decode cX3_digest 439 = .ok (.getfield 43, 3) := by decide +kernel
theorem dX3_digest_442 : decode cX3_digest 442 = .ok (.if_icmp .ge 27, 3) := by decide +kernel
theorem dX3_digest_445 : decode cX3_digest 445 = .ok (.lload_n 2, 1) := by decide +kernel
theorem dX3_digest_446 : decode cX3_digest 446 = .ok (.ldc2_w 150, 3) := by decide +kernel
theorem dX3_digest_449 : decode cX3_digest 449 = .ok (.lmul, 1) := by decide +kernel
theorem dX3_digest_450 : decode cX3_digest 450 = .ok (.aload_n 0, 1) := by decide +kernel
theorem dX3_digest_451 : decode cX3_digest 451 = .ok (.getfield 23, 3) := by decide +kernel
theorem dX3_digest_454 : decode cX3_digest 454 = .ok (.bipush 50, 2) := by decide +kernel
theorem dX3_digest_456 : decode cX3_digest 456 = .ok (.iload 4, 2) := by decide +kernel
theorem dX3_digest_458 : decode cX3_digest 458 = .ok (.iadd, 1) := by decide +kernel
theorem dX3_digest_459 : decode cX3_digest 459 = .ok (.iaload, 1) := by decide +kernel
theorem dX3_digest_460 : decode cX3_digest 460 = .ok (.i2l, 1) := by decide +kernel
theorem dX3_digest_461 : decode cX3_digest 461 = .ok (.ladd, 1) := by decide +kernel
theorem dX3_digest_462 : decode cX3_digest 462 = .ok (.lstore_n 2, 1) := by decide +kernel
theorem dX3_digest_463 : decode cX3_digest 463 = .ok (.iinc 4 1, 3) := by decide +kernel
theorem dX3_digest_466 : decode cX3_digest 466 = .ok (.goto (-30), 3) := by decide +kernel
theorem dX3_digest_469 : decode cX3_digest 469 = .ok (.lload_n 2, 1) := by decide +kernel
theorem dX3_digest_470 : decode cX3_digest 470 = .ok (.lreturn, 1) := by decide +kernel
theorem dJ9_max_7cf53_0 : decode cJ9_max_7cf53 0 = .ok (.iload_n 0, 1) := by decide +kernel
theorem dJ9_max_7cf53_1 : decode cJ9_max_7cf53 1 = .ok (.iload_n 1, 1) := by decide +kernel
theorem dJ9_max_7cf53_2 : decode cJ9_max_7cf53 2 = .ok (.if_icmp .lt 7, 3) := by decide +kernel
theorem dJ9_max_7cf53_5 : decode cJ9_max_7cf53 5 = .ok (.iload_n 0, 1) := by decide +kernel
theorem dJ9_max_7cf53_6 : decode cJ9_max_7cf53 6 = .ok (.goto 4, 3) := by decide +kernel
theorem dJ9_max_7cf53_9 : decode cJ9_max_7cf53 9 = .ok (.iload_n 1, 1) := by decide +kernel
theorem dJ9_max_7cf53_10 : decode cJ9_max_7cf53 10 = .ok (.ireturn, 1) := by decide +kernel
theorem dJ9_min_7cf53_0 : decode cJ9_min_7cf53 0 = .ok (.iload_n 0, 1) := by decide +kernel
theorem dJ9_min_7cf53_1 : decode cJ9_min_7cf53 1 = .ok (.iload_n 1, 1) := by decide +kernel
theorem dJ9_min_7cf53_2 : decode cJ9_min_7cf53 2 = .ok (.if_icmp .gt 7, 3) := by decide +kernel
theorem dJ9_min_7cf53_5 : decode cJ9_min_7cf53 5 = .ok (.iload_n 0, 1) := by decide +kernel
theorem dJ9_min_7cf53_6 : decode cJ9_min_7cf53 6 = .ok (.goto 4, 3) := by decide +kernel
theorem dJ9_min_7cf53_9 : decode cJ9_min_7cf53 9 = .ok (.iload_n 1, 1) := by decide +kernel
theorem dJ9_min_7cf53_10 : decode cJ9_min_7cf53 10 = .ok (.ireturn, 1) := by decide +kernel
set_option maxRecDepth 20000 in
theorem ggL_addShip_X2_addShip : GoodIn wsL_addShip wsX2_addShip := goodIn_ca (goodIn_ca (goodIn_r _ [7, 8, 9, 10, 11, 12, 13, 14, 15, 16, 17, 18, 19, 20, 6, 21, 22, 23, 24, 25, 26, 27, 28, 29, 30, 31, 32] (by decide +kernel) (by decide +kernel)) (goodIn_sub (fun _ h => List.mem_cons_of_mem _ (List.mem_append_left _ (List.mem_append_right _ h))) (by decide +kernel))) (goodIn_sub (fun _ h => List.mem_cons_of_mem _ (List.mem_append_right _ h)) (by decide +kernel))
set_option maxRecDepth 20000 in
theorem gL_addShip_X2_addShip : GoodIn wsL_addShip (wsV RL 7 RX2 yX2_addShip wsX2_addShip) := goodIn_app (goodIn_of _ (by decide +kernel)) ggL_addShip_X2_addShip
theorem dL_addShip_0 : decode cL_addShip 0 = .ok (.aload_n 2, 1) := by decide +kernel
theorem dL_addShip_1 : decode cL_addShip 1 = .ok (.iconst 0, 1) := by decide +kernel
theorem dL_addShip_2 : decode cL_addShip 2 = .ok (.aload_n 0, 1) := by decide +kernel
theorem dL_addShip_3 : decode cL_addShip 3 = .ok (.iload_n 1, 1) := by decide +kernel
theorem dL_addShip_4 : decode cL_addShip 4 = .ok (.invokevirtual 7, 3) := by decide +kernel
theorem dL_addShip_7 : decode cL_addShip 7 = .ok (.i2l, 1) := by decide +kernel
theorem dL_addShip_8 : decode cL_addShip 8 = .ok (.lastore, 1) := by decide +kernel
theorem dL_addShip_9 : decode cL_addShip 9 = .ok (.goto 9, 3) := by decide +kernel
theorem dL_addShip_12 : decode cL_addShip 12 = .ok (.astore_n 3, 1) := by decide +kernel
theorem dL_addShip_13 : decode cL_addShip 13 = .ok (.iconst 1, 1) := by decide +kernel
theorem dL_addShip_14 : decode cL_addShip 14 = .ok (.ireturn, 1) := by decide +kernel
theorem dL_addShip_15 : decode cL_addShip 15 = .ok (.astore_n 3, 1) := by decide +kernel
theorem dL_addShip_16 : decode cL_addShip 16 = .ok (.iconst 2, 1) := by decide +kernel
theorem dL_addShip_17 : decode cL_addShip 17 = .ok (.ireturn, 1) := by decide +kernel
theorem dL_addShip_18 : decode cL_addShip 18 = .ok (.iconst 0, 1) := by decide +kernel
theorem dL_addShip_19 : decode cL_addShip 19 = .ok (.ireturn, 1) := by decide +kernel
set_option maxRecDepth 20000 in
theorem ggL_addSailor_X2_addSailor : GoodIn wsL_addSailor wsX2_addSailor := goodIn_ca (goodIn_ca (goodIn_r _ [7, 8, 9, 10, 11, 12, 13, 14, 15, 16, 6, 17, 18, 19, 20, 21, 22, 23, 24, 25, 26, 27, 28, 29, 30, 31, 32, 33, 34, 35, 36, 37, 38, 39, 40, 41, 42, 43, 44, 45, 46, 47, 48, 49, 50, 51, 52, 53, 54, 55, 56, 57, 58, 59, 60] (by decide +kernel) (by decide +kernel)) (goodIn_sub (fun _ h => List.mem_cons_of_mem _ (List.mem_append_left _ (List.mem_append_right _ h))) (by decide +kernel))) (goodIn_sub (fun _ h => List.mem_cons_of_mem _ (List.mem_append_right _ h)) (by decide +kernel))
set_option maxRecDepth 20000 in
theorem gL_addSailor_X2_addSailor : GoodIn wsL_addSailor (wsV RL 17 RX2 yX2_addSailor wsX2_addSailor) := goodIn_app (goodIn_of _ (by decide +kernel)) ggL_addSailor_X2_addSailor
theorem dL_addSailor_0 : decode cL_addSailor 0 = .ok (.aload 4, 2) := by decide +kernel
theorem dL_addSailor_2 : decode cL_addSailor 2 = .ok (.iconst 0, 1) := by decide +kernel
theorem dL_addSailor_3 : decode cL_addSailor 3 = .ok (.aload_n 0, 1) := by decide +kernel
theorem dL_addSailor_4 : decode cL_addSailor 4 = .ok (.iload_n 1, 1) := by decide +kernel
theorem dL_addSailor_5 : decode cL_addSailor 5 = .ok (.iload_n 2, 1) := by decide +kernel
theorem dL_addSailor_6 : decode cL_addSailor 6 = .ok (.iload_n 3, 1) := by decide +kernel
theorem dL_addSailor_7 : decode cL_addSailor 7 = .ok (.invokevirtual 17, 3) := by decide +kernel
theorem dL_addSailor_10 : decode cL_addSailor 10 = .ok (.i2l, 1) := by decide +kernel
theorem dL_addSailor_11 : decode cL_addSailor 11 = .ok (.lastore, 1) := by decide +kernel
theorem dL_addSailor_12 : decode cL_addSailor 12 = .ok (.goto 11, 3) := by decide +kernel
theorem dL_addSailor_15 : decode cL_addSailor 15 = .ok (.astore 5, 2) := by decide +kernel
theorem dL_addSailor_17 : decode cL_addSailor 17 = .ok (.iconst 1, 1) := by decide +kernel
theorem dL_addSailor_18 : decode cL_addSailor 18 = .ok (.ireturn, 1) := by decide +kernel
theorem dL_addSailor_19 : decode cL_addSailor 19 = .ok (.astore 5, 2) := by decide +kernel
theorem dL_addSailor_21 : decode cL_addSailor 21 = .ok (.iconst 2, 1) := by decide +kernel
theorem dL_addSailor_22 : decode cL_addSailor 22 = .ok (.ireturn, 1) := by decide +kernel
theorem dL_addSailor_23 : decode cL_addSailor 23 = .ok (.iconst 0, 1) := by decide +kernel
theorem dL_addSailor_24 : decode cL_addSailor 24 = .ok (.ireturn, 1) := by decide +kernel
set_option maxRecDepth 20000 in
theorem ggL_addWatcher_X2_addWatcher : GoodIn wsL_addWatcher wsX2_addWatcher := goodIn_ca (goodIn_r _ [6, 7, 8, 9, 10, 11, 12, 13, 14, 15, 16, 17, 18, 5, 19, 20, 21, 22, 23, 24, 25, 26, 27, 28, 29, 30, 31, 32, 33, 34, 35, 36, 37, 38, 39, 40] (by decide +kernel) (by decide +kernel)) (goodIn_sub (fun _ h => List.mem_cons_of_mem _ (List.mem_append_right _ h)) (by decide +kernel))
set_option maxRecDepth 20000 in
theorem gL_addWatcher_X2_addWatcher : GoodIn wsL_addWatcher (wsV RL 23 RX2 yX2_addWatcher wsX2_addWatcher) := goodIn_app (goodIn_of _ (by decide +kernel)) ggL_addWatcher_X2_addWatcher
theorem dL_addWatcher_0 : decode cL_addWatcher 0 = .ok (.aload_n 1, 1) := by decide +kernel
theorem dL_addWatcher_1 : decode cL_addWatcher 1 = .ok (.iconst 0, 1) := by decide +kernel
theorem dL_addWatcher_2 : decode cL_addWatcher 2 = .ok (.aload_n 0, 1) := by decide +kernel
theorem dL_addWatcher_3 : decode cL_addWatcher 3 = .ok (.invokevirtual 23, 3) := by decide +kernel
theorem dL_addWatcher_6 : decode cL_addWatcher 6 = .ok (.i2l, 1) := by decide +kernel
theorem dL_addWatcher_7 : decode cL_addWatcher 7 = .ok (.lastore, 1) := by decide +kernel
theorem dL_addWatcher_8 : decode cL_addWatcher 8 = .ok (.goto 6, 3) := by decide +kernel
theorem dL_addWatcher_11 : decode cL_addWatcher 11 = .ok (.astore_n 2, 1) := by decide +kernel
theorem dL_addWatcher_12 : decode cL_addWatcher 12 = .ok (.iconst 1, 1) := by decide +kernel
theorem dL_addWatcher_13 : decode cL_addWatcher 13 = .ok (.ireturn, 1) := by decide +kernel
theorem dL_addWatcher_14 : decode cL_addWatcher 14 = .ok (.iconst 0, 1) := by decide +kernel
theorem dL_addWatcher_15 : decode cL_addWatcher 15 = .ok (.ireturn, 1) := by decide +kernel
set_option maxRecDepth 20000 in
theorem ggL_buyWax_X2_buyWax : GoodIn wsL_buyWax wsX2_buyWax := goodIn_ca (goodIn_r _ [6, 7, 8, 9, 10, 11, 12, 13, 14, 15, 16, 17, 18, 19, 20, 21, 22] (by decide +kernel) (by decide +kernel)) (goodIn_sub (fun _ h => List.mem_cons_of_mem _ (List.mem_append_right _ h)) (by decide +kernel))
set_option maxRecDepth 20000 in
theorem gL_buyWax_X2_buyWax : GoodIn wsL_buyWax (wsV RL 27 RX2 yX2_buyWax wsX2_buyWax) := goodIn_app (goodIn_of _ (by decide +kernel)) ggL_buyWax_X2_buyWax
theorem dL_buyWax_0 : decode cL_buyWax 0 = .ok (.aload_n 2, 1) := by decide +kernel
theorem dL_buyWax_1 : decode cL_buyWax 1 = .ok (.iconst 0, 1) := by decide +kernel
theorem dL_buyWax_2 : decode cL_buyWax 2 = .ok (.aload_n 0, 1) := by decide +kernel
theorem dL_buyWax_3 : decode cL_buyWax 3 = .ok (.iload_n 1, 1) := by decide +kernel
theorem dL_buyWax_4 : decode cL_buyWax 4 = .ok (.invokevirtual 27, 3) := by decide +kernel
theorem dL_buyWax_7 : decode cL_buyWax 7 = .ok (.i2l, 1) := by decide +kernel
theorem dL_buyWax_8 : decode cL_buyWax 8 = .ok (.lastore, 1) := by decide +kernel
theorem dL_buyWax_9 : decode cL_buyWax 9 = .ok (.goto 6, 3) := by decide +kernel
theorem dL_buyWax_12 : decode cL_buyWax 12 = .ok (.astore_n 3, 1) := by decide +kernel
theorem dL_buyWax_13 : decode cL_buyWax 13 = .ok (.iconst 1, 1) := by decide +kernel
theorem dL_buyWax_14 : decode cL_buyWax 14 = .ok (.ireturn, 1) := by decide +kernel
theorem dL_buyWax_15 : decode cL_buyWax 15 = .ok (.iconst 0, 1) := by decide +kernel
theorem dL_buyWax_16 : decode cL_buyWax 16 = .ok (.ireturn, 1) := by decide +kernel
set_option maxRecDepth 20000 in
theorem ggL_sail_X2_sail : GoodIn wsL_sail wsX2_sail := goodIn_ca (goodIn_ca (goodIn_r _ [7, 8, 9, 10, 11, 12, 13, 14, 6, 15, 16, 17, 18, 19, 20, 21, 22, 23, 24, 25, 26, 27, 28, 29, 30, 31, 32, 33, 34, 35, 36, 37, 38, 39, 40, 41, 42, 43, 44, 45, 46, 47, 48, 49, 50, 51, 52, 53, 54, 55, 56, 57, 58, 59, 60, 61, 62, 63, 64, 65, 66, 67, 68, 69, 70, 71] (by decide +kernel) (by decide +kernel)) (goodIn_sub (fun _ h => List.mem_cons_of_mem _ (List.mem_append_left _ (List.mem_append_right _ h))) (by decide +kernel))) (goodIn_sub (fun _ h => List.mem_cons_of_mem _ (List.mem_append_right _ h)) (by decide +kernel))
set_option maxRecDepth 20000 in
theorem gL_sail_X2_sail : GoodIn wsL_sail (wsV RL 30 RX2 yX2_sail wsX2_sail) := goodIn_app (goodIn_of _ (by decide +kernel)) ggL_sail_X2_sail
theorem dL_sail_0 : decode cL_sail 0 = .ok (.aload_n 2, 1) := by decide +kernel
theorem dL_sail_1 : decode cL_sail 1 = .ok (.iconst 0, 1) := by decide +kernel
theorem dL_sail_2 : decode cL_sail 2 = .ok (.aload_n 0, 1) := by decide +kernel
theorem dL_sail_3 : decode cL_sail 3 = .ok (.iload_n 1, 1) := by decide +kernel
theorem dL_sail_4 : decode cL_sail 4 = .ok (.invokevirtual 30, 3) := by decide +kernel
theorem dL_sail_7 : decode cL_sail 7 = .ok (.i2l, 1) := by decide +kernel
theorem dL_sail_8 : decode cL_sail 8 = .ok (.lastore, 1) := by decide +kernel
theorem dL_sail_9 : decode cL_sail 9 = .ok (.goto 9, 3) := by decide +kernel
theorem dL_sail_12 : decode cL_sail 12 = .ok (.astore_n 3, 1) := by decide +kernel
theorem dL_sail_13 : decode cL_sail 13 = .ok (.iconst 1, 1) := by decide +kernel
theorem dL_sail_14 : decode cL_sail 14 = .ok (.ireturn, 1) := by decide +kernel
theorem dL_sail_15 : decode cL_sail 15 = .ok (.astore_n 3, 1) := by decide +kernel
theorem dL_sail_16 : decode cL_sail 16 = .ok (.iconst 2, 1) := by decide +kernel
theorem dL_sail_17 : decode cL_sail 17 = .ok (.ireturn, 1) := by decide +kernel
theorem dL_sail_18 : decode cL_sail 18 = .ok (.iconst 0, 1) := by decide +kernel
theorem dL_sail_19 : decode cL_sail 19 = .ok (.ireturn, 1) := by decide +kernel
set_option maxRecDepth 20000 in
theorem ggL_comeHome_X2_comeHome : GoodIn wsL_comeHome wsX2_comeHome := goodIn_ca (goodIn_ca (goodIn_r _ [7, 8, 9, 10, 11, 12, 13, 6, 14, 15, 16, 17, 18, 19, 20, 21, 22, 23, 24, 25, 26, 27, 28, 29, 30, 31, 32, 33, 34, 35, 36, 37, 38, 39, 40, 41, 42, 43, 44, 45, 46, 47, 48, 49, 50, 51, 52, 53, 54, 55, 56, 57, 58, 59, 60, 61, 62, 63, 64, 65, 66, 67, 68, 69, 70, 71, 72, 73, 74, 75, 76, 77, 78, 79, 80, 81, 82] (by decide +kernel) (by decide +kernel)) (goodIn_sub (fun _ h => List.mem_cons_of_mem _ (List.mem_append_left _ (List.mem_append_right _ h))) (by decide +kernel))) (goodIn_sub (fun _ h => List.mem_cons_of_mem _ (List.mem_append_right _ h)) (by decide +kernel))
set_option maxRecDepth 20000 in
theorem gL_comeHome_X2_comeHome : GoodIn wsL_comeHome (wsV RL 33 RX2 yX2_comeHome wsX2_comeHome) := goodIn_app (goodIn_of _ (by decide +kernel)) ggL_comeHome_X2_comeHome
theorem dL_comeHome_0 : decode cL_comeHome 0 = .ok (.aload_n 2, 1) := by decide +kernel
theorem dL_comeHome_1 : decode cL_comeHome 1 = .ok (.iconst 0, 1) := by decide +kernel
theorem dL_comeHome_2 : decode cL_comeHome 2 = .ok (.aload_n 0, 1) := by decide +kernel
theorem dL_comeHome_3 : decode cL_comeHome 3 = .ok (.iload_n 1, 1) := by decide +kernel
theorem dL_comeHome_4 : decode cL_comeHome 4 = .ok (.invokevirtual 33, 3) := by decide +kernel
theorem dL_comeHome_7 : decode cL_comeHome 7 = .ok (.i2l, 1) := by decide +kernel
theorem dL_comeHome_8 : decode cL_comeHome 8 = .ok (.lastore, 1) := by decide +kernel
theorem dL_comeHome_9 : decode cL_comeHome 9 = .ok (.goto 9, 3) := by decide +kernel
theorem dL_comeHome_12 : decode cL_comeHome 12 = .ok (.astore_n 3, 1) := by decide +kernel
theorem dL_comeHome_13 : decode cL_comeHome 13 = .ok (.iconst 1, 1) := by decide +kernel
theorem dL_comeHome_14 : decode cL_comeHome 14 = .ok (.ireturn, 1) := by decide +kernel
theorem dL_comeHome_15 : decode cL_comeHome 15 = .ok (.astore_n 3, 1) := by decide +kernel
theorem dL_comeHome_16 : decode cL_comeHome 16 = .ok (.iconst 2, 1) := by decide +kernel
theorem dL_comeHome_17 : decode cL_comeHome 17 = .ok (.ireturn, 1) := by decide +kernel
theorem dL_comeHome_18 : decode cL_comeHome 18 = .ok (.iconst 0, 1) := by decide +kernel
theorem dL_comeHome_19 : decode cL_comeHome 19 = .ok (.ireturn, 1) := by decide +kernel
set_option maxRecDepth 20000 in
theorem ggL_sight_X2_sight : GoodIn wsL_sight wsX2_sight := goodIn_ca (goodIn_ca (goodIn_r _ [7, 8, 9, 10, 11, 6, 12, 13, 14, 15, 16, 17, 18, 19, 20, 21, 22, 23, 24, 25, 26, 27, 28, 29, 30, 31, 32, 33, 34, 35, 36, 37, 38, 39, 40, 41, 42, 43, 44, 45, 46, 47, 48, 49, 50, 51, 52, 53, 54, 55, 56, 57, 58, 59, 60, 61, 62, 63, 64, 65, 66, 67, 68, 69, 70, 71, 72, 73, 74, 75, 76, 77, 78, 79, 80] (by decide +kernel) (by decide +kernel)) (goodIn_sub (fun _ h => List.mem_cons_of_mem _ (List.mem_append_left _ (List.mem_append_right _ h))) (by decide +kernel))) (goodIn_sub (fun _ h => List.mem_cons_of_mem _ (List.mem_append_right _ h)) (by decide +kernel))
set_option maxRecDepth 20000 in
theorem gL_sight_X2_sight : GoodIn wsL_sight (wsV RL 36 RX2 yX2_sight wsX2_sight) := goodIn_app (goodIn_of _ (by decide +kernel)) ggL_sight_X2_sight
theorem dL_sight_0 : decode cL_sight 0 = .ok (.aload_n 3, 1) := by decide +kernel
theorem dL_sight_1 : decode cL_sight 1 = .ok (.iconst 0, 1) := by decide +kernel
theorem dL_sight_2 : decode cL_sight 2 = .ok (.aload_n 0, 1) := by decide +kernel
theorem dL_sight_3 : decode cL_sight 3 = .ok (.iload_n 1, 1) := by decide +kernel
theorem dL_sight_4 : decode cL_sight 4 = .ok (.iload_n 2, 1) := by decide +kernel
theorem dL_sight_5 : decode cL_sight 5 = .ok (.invokevirtual 36, 3) := by decide +kernel
theorem dL_sight_8 : decode cL_sight 8 = .ok (.ifCond .eq 7, 3) := by decide +kernel
theorem dL_sight_11 : decode cL_sight 11 = .ok (.lconst 1, 1) := by decide +kernel
theorem dL_sight_12 : decode cL_sight 12 = .ok (.goto 4, 3) := by decide +kernel
theorem dL_sight_15 : decode cL_sight 15 = .ok (.lconst 0, 1) := by decide +kernel
theorem dL_sight_16 : decode cL_sight 16 = .ok (.lastore, 1) := by decide +kernel
theorem dL_sight_17 : decode cL_sight 17 = .ok (.goto 11, 3) := by decide +kernel
theorem dL_sight_20 : decode cL_sight 20 = .ok (.astore 4, 2) := by decide +kernel
theorem dL_sight_22 : decode cL_sight 22 = .ok (.iconst 1, 1) := by decide +kernel
theorem dL_sight_23 : decode cL_sight 23 = .ok (.ireturn, 1) := by decide +kernel
theorem dL_sight_24 : decode cL_sight 24 = .ok (.astore 4, 2) := by decide +kernel
theorem dL_sight_26 : decode cL_sight 26 = .ok (.iconst 2, 1) := by decide +kernel
theorem dL_sight_27 : decode cL_sight 27 = .ok (.ireturn, 1) := by decide +kernel
theorem dL_sight_28 : decode cL_sight 28 = .ok (.iconst 0, 1) := by decide +kernel
theorem dL_sight_29 : decode cL_sight 29 = .ok (.ireturn, 1) := by decide +kernel
set_option maxRecDepth 20000 in
theorem ggL_vote_X2_vote : GoodIn wsL_vote wsX2_vote := goodIn_ca (goodIn_ca (goodIn_r _ [7, 8, 9, 10, 11, 12, 13, 14, 6, 15, 16, 17, 18, 19, 20, 21, 22, 23, 24, 25, 26, 27, 28, 29, 30, 31, 32, 33, 34, 35, 36, 37, 38, 39, 40, 41, 42, 43, 44, 45, 46, 47, 48, 49, 50, 51, 52, 53, 54, 55, 56, 57, 58, 59, 60, 61, 62, 63, 64, 65, 66, 67] (by decide +kernel) (by decide +kernel)) (goodIn_sub (fun _ h => List.mem_cons_of_mem _ (List.mem_append_left _ (List.mem_append_right _ h))) (by decide +kernel))) (goodIn_sub (fun _ h => List.mem_cons_of_mem _ (List.mem_append_right _ h)) (by decide +kernel))
set_option maxRecDepth 20000 in
theorem gL_vote_X2_vote : GoodIn wsL_vote (wsV RL 40 RX2 yX2_vote wsX2_vote) := goodIn_app (goodIn_of _ (by decide +kernel)) ggL_vote_X2_vote
theorem dL_vote_0 : decode cL_vote 0 = .ok (.aload_n 3, 1) := by decide +kernel
theorem dL_vote_1 : decode cL_vote 1 = .ok (.iconst 0, 1) := by decide +kernel
theorem dL_vote_2 : decode cL_vote 2 = .ok (.aload_n 0, 1) := by decide +kernel
theorem dL_vote_3 : decode cL_vote 3 = .ok (.iload_n 1, 1) := by decide +kernel
theorem dL_vote_4 : decode cL_vote 4 = .ok (.iload_n 2, 1) := by decide +kernel
theorem dL_vote_5 : decode cL_vote 5 = .ok (.invokevirtual 40, 3) := by decide +kernel
theorem dL_vote_8 : decode cL_vote 8 = .ok (.i2l, 1) := by decide +kernel
theorem dL_vote_9 : decode cL_vote 9 = .ok (.lastore, 1) := by decide +kernel
theorem dL_vote_10 : decode cL_vote 10 = .ok (.goto 11, 3) := by decide +kernel
theorem dL_vote_13 : decode cL_vote 13 = .ok (.astore 4, 2) := by decide +kernel
theorem dL_vote_15 : decode cL_vote 15 = .ok (.iconst 1, 1) := by decide +kernel
theorem dL_vote_16 : decode cL_vote 16 = .ok (.ireturn, 1) := by decide +kernel
theorem dL_vote_17 : decode cL_vote 17 = .ok (.astore 4, 2) := by decide +kernel
theorem dL_vote_19 : decode cL_vote 19 = .ok (.iconst 2, 1) := by decide +kernel
theorem dL_vote_20 : decode cL_vote 20 = .ok (.ireturn, 1) := by decide +kernel
theorem dL_vote_21 : decode cL_vote 21 = .ok (.iconst 0, 1) := by decide +kernel
theorem dL_vote_22 : decode cL_vote 22 = .ok (.ireturn, 1) := by decide +kernel
set_option maxRecDepth 20000 in
theorem ggL_burnNights_X2_burnNights : GoodIn wsL_burnNights wsX2_burnNights := goodIn_ca (goodIn_r _ [6, 7, 8, 9, 5, 10, 11, 12, 13, 14, 15, 16, 17, 18, 19, 20, 21, 22, 23, 24, 25, 26, 27, 28, 29, 30, 31, 32, 33, 34, 35, 36, 37, 38, 39, 40, 41, 42, 43, 44, 45, 46, 47, 48, 49, 50, 51, 52, 53, 54, 55, 56, 57, 58, 59, 60, 61, 62, 63, 64, 65, 66, 67, 68, 69, 70, 71, 72, 73, 74, 75, 76, 77, 78, 79, 80, 81, 82, 83, 84, 85, 86, 87, 88, 89, 90, 91, 92, 93, 94, 95, 96, 97, 98, 99, 100, 101, 102, 103, 104, 105, 106, 107, 108, 109, 110, 111, 112, 113, 114, 115, 116, 117, 118, 119, 120, 121, 122, 123, 124, 125, 126, 127, 128, 129, 130, 131, 132, 133, 134, 135, 136, 137, 138, 139] (by decide +kernel) (by decide +kernel)) (goodIn_sub (fun _ h => List.mem_cons_of_mem _ (List.mem_append_right _ h)) (by decide +kernel))
set_option maxRecDepth 20000 in
theorem gL_burnNights_X2_burnNights : GoodIn wsL_burnNights (wsV RL 44 RX2 yX2_burnNights wsX2_burnNights) := goodIn_app (goodIn_of _ (by decide +kernel)) ggL_burnNights_X2_burnNights
theorem dL_burnNights_0 : decode cL_burnNights 0 = .ok (.aload_n 2, 1) := by decide +kernel
theorem dL_burnNights_1 : decode cL_burnNights 1 = .ok (.iconst 0, 1) := by decide +kernel
theorem dL_burnNights_2 : decode cL_burnNights 2 = .ok (.aload_n 0, 1) := by decide +kernel
theorem dL_burnNights_3 : decode cL_burnNights 3 = .ok (.iload_n 1, 1) := by decide +kernel
theorem dL_burnNights_4 : decode cL_burnNights 4 = .ok (.invokevirtual 44, 3) := by decide +kernel
theorem dL_burnNights_7 : decode cL_burnNights 7 = .ok (.i2l, 1) := by decide +kernel
theorem dL_burnNights_8 : decode cL_burnNights 8 = .ok (.lastore, 1) := by decide +kernel
theorem dL_burnNights_9 : decode cL_burnNights 9 = .ok (.goto 6, 3) := by decide +kernel
theorem dL_burnNights_12 : decode cL_burnNights 12 = .ok (.astore_n 3, 1) := by decide +kernel
theorem dL_burnNights_13 : decode cL_burnNights 13 = .ok (.iconst 1, 1) := by decide +kernel
theorem dL_burnNights_14 : decode cL_burnNights 14 = .ok (.ireturn, 1) := by decide +kernel
theorem dL_burnNights_15 : decode cL_burnNights 15 = .ok (.iconst 0, 1) := by decide +kernel
theorem dL_burnNights_16 : decode cL_burnNights 16 = .ok (.ireturn, 1) := by decide +kernel
set_option maxRecDepth 20000 in
theorem ggL_mastsOf_X2_mastsOf : GoodIn wsL_mastsOf wsX2_mastsOf := goodIn_ca (goodIn_r _ [6, 7, 8, 9, 10, 5, 11, 12, 13, 14, 15, 16, 17, 18, 19, 20, 21, 22, 23, 24, 25, 26, 27] (by decide +kernel) (by decide +kernel)) (goodIn_sub (fun _ h => List.mem_cons_of_mem _ (List.mem_append_right _ h)) (by decide +kernel))
set_option maxRecDepth 20000 in
theorem gL_mastsOf_X2_mastsOf : GoodIn wsL_mastsOf (wsV RL 47 RX2 yX2_mastsOf wsX2_mastsOf) := goodIn_app (goodIn_of _ (by decide +kernel)) ggL_mastsOf_X2_mastsOf
theorem dL_mastsOf_0 : decode cL_mastsOf 0 = .ok (.aload_n 2, 1) := by decide +kernel
theorem dL_mastsOf_1 : decode cL_mastsOf 1 = .ok (.iconst 0, 1) := by decide +kernel
theorem dL_mastsOf_2 : decode cL_mastsOf 2 = .ok (.aload_n 0, 1) := by decide +kernel
theorem dL_mastsOf_3 : decode cL_mastsOf 3 = .ok (.iload_n 1, 1) := by decide +kernel
theorem dL_mastsOf_4 : decode cL_mastsOf 4 = .ok (.invokevirtual 47, 3) := by decide +kernel
theorem dL_mastsOf_7 : decode cL_mastsOf 7 = .ok (.i2l, 1) := by decide +kernel
theorem dL_mastsOf_8 : decode cL_mastsOf 8 = .ok (.lastore, 1) := by decide +kernel
theorem dL_mastsOf_9 : decode cL_mastsOf 9 = .ok (.goto 6, 3) := by decide +kernel
theorem dL_mastsOf_12 : decode cL_mastsOf 12 = .ok (.astore_n 3, 1) := by decide +kernel
theorem dL_mastsOf_13 : decode cL_mastsOf 13 = .ok (.iconst 1, 1) := by decide +kernel
theorem dL_mastsOf_14 : decode cL_mastsOf 14 = .ok (.ireturn, 1) := by decide +kernel
theorem dL_mastsOf_15 : decode cL_mastsOf 15 = .ok (.iconst 0, 1) := by decide +kernel
theorem dL_mastsOf_16 : decode cL_mastsOf 16 = .ok (.ireturn, 1) := by decide +kernel
set_option maxRecDepth 20000 in
theorem ggL_isAway_X2_isAway : GoodIn wsL_isAway wsX2_isAway := goodIn_ca (goodIn_r _ [6, 7, 8, 9, 10, 5, 11, 12, 13, 14, 15, 16, 17, 18, 19, 20, 21, 22, 23, 24, 25, 26, 27, 28, 29, 30, 31, 32, 33, 34, 35, 36, 37, 38, 39, 40, 41, 42, 43] (by decide +kernel) (by decide +kernel)) (goodIn_sub (fun _ h => List.mem_cons_of_mem _ (List.mem_append_right _ h)) (by decide +kernel))
set_option maxRecDepth 20000 in
theorem gL_isAway_X2_isAway : GoodIn wsL_isAway (wsV RL 50 RX2 yX2_isAway wsX2_isAway) := goodIn_app (goodIn_of _ (by decide +kernel)) ggL_isAway_X2_isAway
theorem dL_isAway_0 : decode cL_isAway 0 = .ok (.aload_n 2, 1) := by decide +kernel
theorem dL_isAway_1 : decode cL_isAway 1 = .ok (.iconst 0, 1) := by decide +kernel
theorem dL_isAway_2 : decode cL_isAway 2 = .ok (.aload_n 0, 1) := by decide +kernel
theorem dL_isAway_3 : decode cL_isAway 3 = .ok (.iload_n 1, 1) := by decide +kernel
theorem dL_isAway_4 : decode cL_isAway 4 = .ok (.invokevirtual 50, 3) := by decide +kernel
theorem dL_isAway_7 : decode cL_isAway 7 = .ok (.ifCond .eq 7, 3) := by decide +kernel
theorem dL_isAway_10 : decode cL_isAway 10 = .ok (.lconst 1, 1) := by decide +kernel
theorem dL_isAway_11 : decode cL_isAway 11 = .ok (.goto 4, 3) := by decide +kernel
theorem dL_isAway_14 : decode cL_isAway 14 = .ok (.lconst 0, 1) := by decide +kernel
theorem dL_isAway_15 : decode cL_isAway 15 = .ok (.lastore, 1) := by decide +kernel
theorem dL_isAway_16 : decode cL_isAway 16 = .ok (.goto 6, 3) := by decide +kernel
theorem dL_isAway_19 : decode cL_isAway 19 = .ok (.astore_n 3, 1) := by decide +kernel
theorem dL_isAway_20 : decode cL_isAway 20 = .ok (.iconst 1, 1) := by decide +kernel
theorem dL_isAway_21 : decode cL_isAway 21 = .ok (.ireturn, 1) := by decide +kernel
theorem dL_isAway_22 : decode cL_isAway 22 = .ok (.iconst 0, 1) := by decide +kernel
theorem dL_isAway_23 : decode cL_isAway 23 = .ok (.ireturn, 1) := by decide +kernel
set_option maxRecDepth 20000 in
theorem ggL_isLost_X2_isLost : GoodIn wsL_isLost wsX2_isLost := goodIn_ca (goodIn_r _ [6, 7, 8, 9, 10, 5, 11, 12, 13, 14, 15, 16, 17, 18, 19, 20, 21, 22, 23, 24, 25, 26, 27, 28, 29, 30, 31, 32, 33, 34, 35, 36, 37, 38, 39, 40, 41, 42, 43] (by decide +kernel) (by decide +kernel)) (goodIn_sub (fun _ h => List.mem_cons_of_mem _ (List.mem_append_right _ h)) (by decide +kernel))
set_option maxRecDepth 20000 in
theorem gL_isLost_X2_isLost : GoodIn wsL_isLost (wsV RL 54 RX2 yX2_isLost wsX2_isLost) := goodIn_app (goodIn_of _ (by decide +kernel)) ggL_isLost_X2_isLost
theorem dL_isLost_0 : decode cL_isLost 0 = .ok (.aload_n 2, 1) := by decide +kernel
theorem dL_isLost_1 : decode cL_isLost 1 = .ok (.iconst 0, 1) := by decide +kernel
theorem dL_isLost_2 : decode cL_isLost 2 = .ok (.aload_n 0, 1) := by decide +kernel
theorem dL_isLost_3 : decode cL_isLost 3 = .ok (.iload_n 1, 1) := by decide +kernel
theorem dL_isLost_4 : decode cL_isLost 4 = .ok (.invokevirtual 54, 3) := by decide +kernel
theorem dL_isLost_7 : decode cL_isLost 7 = .ok (.ifCond .eq 7, 3) := by decide +kernel
theorem dL_isLost_10 : decode cL_isLost 10 = .ok (.lconst 1, 1) := by decide +kernel
theorem dL_isLost_11 : decode cL_isLost 11 = .ok (.goto 4, 3) := by decide +kernel
theorem dL_isLost_14 : decode cL_isLost 14 = .ok (.lconst 0, 1) := by decide +kernel
theorem dL_isLost_15 : decode cL_isLost 15 = .ok (.lastore, 1) := by decide +kernel
theorem dL_isLost_16 : decode cL_isLost 16 = .ok (.goto 6, 3) := by decide +kernel
theorem dL_isLost_19 : decode cL_isLost 19 = .ok (.astore_n 3, 1) := by decide +kernel
theorem dL_isLost_20 : decode cL_isLost 20 = .ok (.iconst 1, 1) := by decide +kernel
theorem dL_isLost_21 : decode cL_isLost 21 = .ok (.ireturn, 1) := by decide +kernel
theorem dL_isLost_22 : decode cL_isLost 22 = .ok (.iconst 0, 1) := by decide +kernel
theorem dL_isLost_23 : decode cL_isLost 23 = .ok (.ireturn, 1) := by decide +kernel
set_option maxRecDepth 20000 in
theorem ggL_nightsOut_X2_nightsOut : GoodIn wsL_nightsOut wsX2_nightsOut := goodIn_ca (goodIn_r _ [6, 7, 8, 9, 10, 5, 11, 12, 13, 14, 15, 16, 17, 18, 19, 20, 21, 22, 23, 24, 25, 26, 27, 28, 29, 30, 31, 32, 33, 34, 35, 36, 37, 38] (by decide +kernel) (by decide +kernel)) (goodIn_sub (fun _ h => List.mem_cons_of_mem _ (List.mem_append_right _ h)) (by decide +kernel))
set_option maxRecDepth 20000 in
theorem gL_nightsOut_X2_nightsOut : GoodIn wsL_nightsOut (wsV RL 57 RX2 yX2_nightsOut wsX2_nightsOut) := goodIn_app (goodIn_of _ (by decide +kernel)) ggL_nightsOut_X2_nightsOut
theorem dL_nightsOut_0 : decode cL_nightsOut 0 = .ok (.aload_n 2, 1) := by decide +kernel
theorem dL_nightsOut_1 : decode cL_nightsOut 1 = .ok (.iconst 0, 1) := by decide +kernel
theorem dL_nightsOut_2 : decode cL_nightsOut 2 = .ok (.aload_n 0, 1) := by decide +kernel
theorem dL_nightsOut_3 : decode cL_nightsOut 3 = .ok (.iload_n 1, 1) := by decide +kernel
theorem dL_nightsOut_4 : decode cL_nightsOut 4 = .ok (.invokevirtual 57, 3) := by decide +kernel
theorem dL_nightsOut_7 : decode cL_nightsOut 7 = .ok (.i2l, 1) := by decide +kernel
theorem dL_nightsOut_8 : decode cL_nightsOut 8 = .ok (.lastore, 1) := by decide +kernel
theorem dL_nightsOut_9 : decode cL_nightsOut 9 = .ok (.goto 6, 3) := by decide +kernel
theorem dL_nightsOut_12 : decode cL_nightsOut 12 = .ok (.astore_n 3, 1) := by decide +kernel
theorem dL_nightsOut_13 : decode cL_nightsOut 13 = .ok (.iconst 1, 1) := by decide +kernel
theorem dL_nightsOut_14 : decode cL_nightsOut 14 = .ok (.ireturn, 1) := by decide +kernel
theorem dL_nightsOut_15 : decode cL_nightsOut 15 = .ok (.iconst 0, 1) := by decide +kernel
theorem dL_nightsOut_16 : decode cL_nightsOut 16 = .ok (.ireturn, 1) := by decide +kernel
set_option maxRecDepth 20000 in
theorem ggL_isRung_X2_isRung : GoodIn wsL_isRung wsX2_isRung := goodIn_ca (goodIn_r _ [6, 7, 8, 9, 10, 5, 11, 12, 13, 14, 15, 16, 17, 18, 19, 20, 21, 22, 23, 24, 25, 26, 27, 28, 29, 30, 31, 32, 33, 34, 35, 36, 37, 38] (by decide +kernel) (by decide +kernel)) (goodIn_sub (fun _ h => List.mem_cons_of_mem _ (List.mem_append_right _ h)) (by decide +kernel))
set_option maxRecDepth 20000 in
theorem gL_isRung_X2_isRung : GoodIn wsL_isRung (wsV RL 60 RX2 yX2_isRung wsX2_isRung) := goodIn_app (goodIn_of _ (by decide +kernel)) ggL_isRung_X2_isRung
theorem dL_isRung_0 : decode cL_isRung 0 = .ok (.aload_n 2, 1) := by decide +kernel
theorem dL_isRung_1 : decode cL_isRung 1 = .ok (.iconst 0, 1) := by decide +kernel
theorem dL_isRung_2 : decode cL_isRung 2 = .ok (.aload_n 0, 1) := by decide +kernel
theorem dL_isRung_3 : decode cL_isRung 3 = .ok (.iload_n 1, 1) := by decide +kernel
theorem dL_isRung_4 : decode cL_isRung 4 = .ok (.invokevirtual 60, 3) := by decide +kernel
theorem dL_isRung_7 : decode cL_isRung 7 = .ok (.ifCond .eq 7, 3) := by decide +kernel
theorem dL_isRung_10 : decode cL_isRung 10 = .ok (.lconst 1, 1) := by decide +kernel
theorem dL_isRung_11 : decode cL_isRung 11 = .ok (.goto 4, 3) := by decide +kernel
theorem dL_isRung_14 : decode cL_isRung 14 = .ok (.lconst 0, 1) := by decide +kernel
theorem dL_isRung_15 : decode cL_isRung 15 = .ok (.lastore, 1) := by decide +kernel
theorem dL_isRung_16 : decode cL_isRung 16 = .ok (.goto 6, 3) := by decide +kernel
theorem dL_isRung_19 : decode cL_isRung 19 = .ok (.astore_n 3, 1) := by decide +kernel
theorem dL_isRung_20 : decode cL_isRung 20 = .ok (.iconst 1, 1) := by decide +kernel
theorem dL_isRung_21 : decode cL_isRung 21 = .ok (.ireturn, 1) := by decide +kernel
theorem dL_isRung_22 : decode cL_isRung 22 = .ok (.iconst 0, 1) := by decide +kernel
theorem dL_isRung_23 : decode cL_isRung 23 = .ok (.ireturn, 1) := by decide +kernel
set_option maxRecDepth 20000 in
theorem ggL_trustIn_X2_trustIn : GoodIn wsL_trustIn wsX2_trustIn := goodIn_ca (goodIn_r _ [6, 7, 8, 9, 10, 5, 11, 12, 13, 14, 15, 16, 17, 18, 19, 20, 21, 22, 23, 24, 25, 26, 27, 28, 29, 30, 31, 32, 33, 34, 35, 36, 37, 38, 39, 40, 41, 42, 43, 44, 45, 46, 47, 48, 49, 50, 51] (by decide +kernel) (by decide +kernel)) (goodIn_sub (fun _ h => List.mem_cons_of_mem _ (List.mem_append_right _ h)) (by decide +kernel))
set_option maxRecDepth 20000 in
theorem gL_trustIn_X2_trustIn : GoodIn wsL_trustIn (wsV RL 63 RX2 yX2_trustIn wsX2_trustIn) := goodIn_app (goodIn_of _ (by decide +kernel)) ggL_trustIn_X2_trustIn
theorem dL_trustIn_0 : decode cL_trustIn 0 = .ok (.aload_n 2, 1) := by decide +kernel
theorem dL_trustIn_1 : decode cL_trustIn 1 = .ok (.iconst 0, 1) := by decide +kernel
theorem dL_trustIn_2 : decode cL_trustIn 2 = .ok (.aload_n 0, 1) := by decide +kernel
theorem dL_trustIn_3 : decode cL_trustIn 3 = .ok (.iload_n 1, 1) := by decide +kernel
theorem dL_trustIn_4 : decode cL_trustIn 4 = .ok (.invokevirtual 63, 3) := by decide +kernel
theorem dL_trustIn_7 : decode cL_trustIn 7 = .ok (.i2l, 1) := by decide +kernel
theorem dL_trustIn_8 : decode cL_trustIn 8 = .ok (.lastore, 1) := by decide +kernel
theorem dL_trustIn_9 : decode cL_trustIn 9 = .ok (.goto 6, 3) := by decide +kernel
theorem dL_trustIn_12 : decode cL_trustIn 12 = .ok (.astore_n 3, 1) := by decide +kernel
theorem dL_trustIn_13 : decode cL_trustIn 13 = .ok (.iconst 1, 1) := by decide +kernel
theorem dL_trustIn_14 : decode cL_trustIn 14 = .ok (.ireturn, 1) := by decide +kernel
theorem dL_trustIn_15 : decode cL_trustIn 15 = .ok (.iconst 0, 1) := by decide +kernel
theorem dL_trustIn_16 : decode cL_trustIn 16 = .ok (.ireturn, 1) := by decide +kernel
set_option maxRecDepth 20000 in
theorem ggL_voters_X2_voters : GoodIn wsL_voters wsX2_voters := goodIn_ca (goodIn_r _ [6, 7, 8, 9, 10, 5, 11, 12, 13, 14, 15, 16, 17, 18, 19, 20, 21, 22, 23, 24, 25, 26, 27, 28, 29, 30, 31, 32, 33, 34, 35] (by decide +kernel) (by decide +kernel)) (goodIn_sub (fun _ h => List.mem_cons_of_mem _ (List.mem_append_right _ h)) (by decide +kernel))
set_option maxRecDepth 20000 in
theorem gL_voters_X2_voters : GoodIn wsL_voters (wsV RL 66 RX2 yX2_voters wsX2_voters) := goodIn_app (goodIn_of _ (by decide +kernel)) ggL_voters_X2_voters
theorem dL_voters_0 : decode cL_voters 0 = .ok (.aload_n 2, 1) := by decide +kernel
theorem dL_voters_1 : decode cL_voters 1 = .ok (.iconst 0, 1) := by decide +kernel
theorem dL_voters_2 : decode cL_voters 2 = .ok (.aload_n 0, 1) := by decide +kernel
theorem dL_voters_3 : decode cL_voters 3 = .ok (.iload_n 1, 1) := by decide +kernel
theorem dL_voters_4 : decode cL_voters 4 = .ok (.invokevirtual 66, 3) := by decide +kernel
theorem dL_voters_7 : decode cL_voters 7 = .ok (.i2l, 1) := by decide +kernel
theorem dL_voters_8 : decode cL_voters 8 = .ok (.lastore, 1) := by decide +kernel
theorem dL_voters_9 : decode cL_voters 9 = .ok (.goto 6, 3) := by decide +kernel
theorem dL_voters_12 : decode cL_voters 12 = .ok (.astore_n 3, 1) := by decide +kernel
theorem dL_voters_13 : decode cL_voters 13 = .ok (.iconst 1, 1) := by decide +kernel
theorem dL_voters_14 : decode cL_voters 14 = .ok (.ireturn, 1) := by decide +kernel
theorem dL_voters_15 : decode cL_voters 15 = .ok (.iconst 0, 1) := by decide +kernel
theorem dL_voters_16 : decode cL_voters 16 = .ok (.ireturn, 1) := by decide +kernel
set_option maxRecDepth 20000 in
theorem ggL_votesForLost_X2_votesForLost : GoodIn wsL_votesForLost wsX2_votesForLost := goodIn_ca (goodIn_r _ [6, 7, 8, 9, 10, 5, 11, 12, 13, 14, 15, 16, 17, 18, 19, 20, 21, 22, 23, 24, 25, 26, 27, 28, 29, 30, 31, 32, 33, 34, 35] (by decide +kernel) (by decide +kernel)) (goodIn_sub (fun _ h => List.mem_cons_of_mem _ (List.mem_append_right _ h)) (by decide +kernel))
set_option maxRecDepth 20000 in
theorem gL_votesForLost_X2_votesForLost : GoodIn wsL_votesForLost (wsV RL 69 RX2 yX2_votesForLost wsX2_votesForLost) := goodIn_app (goodIn_of _ (by decide +kernel)) ggL_votesForLost_X2_votesForLost
theorem dL_votesForLost_0 : decode cL_votesForLost 0 = .ok (.aload_n 2, 1) := by decide +kernel
theorem dL_votesForLost_1 : decode cL_votesForLost 1 = .ok (.iconst 0, 1) := by decide +kernel
theorem dL_votesForLost_2 : decode cL_votesForLost 2 = .ok (.aload_n 0, 1) := by decide +kernel
theorem dL_votesForLost_3 : decode cL_votesForLost 3 = .ok (.iload_n 1, 1) := by decide +kernel
theorem dL_votesForLost_4 : decode cL_votesForLost 4 = .ok (.invokevirtual 69, 3) := by decide +kernel
theorem dL_votesForLost_7 : decode cL_votesForLost 7 = .ok (.i2l, 1) := by decide +kernel
theorem dL_votesForLost_8 : decode cL_votesForLost 8 = .ok (.lastore, 1) := by decide +kernel
theorem dL_votesForLost_9 : decode cL_votesForLost 9 = .ok (.goto 6, 3) := by decide +kernel
theorem dL_votesForLost_12 : decode cL_votesForLost 12 = .ok (.astore_n 3, 1) := by decide +kernel
theorem dL_votesForLost_13 : decode cL_votesForLost 13 = .ok (.iconst 1, 1) := by decide +kernel
theorem dL_votesForLost_14 : decode cL_votesForLost 14 = .ok (.ireturn, 1) := by decide +kernel
theorem dL_votesForLost_15 : decode cL_votesForLost 15 = .ok (.iconst 0, 1) := by decide +kernel
theorem dL_votesForLost_16 : decode cL_votesForLost 16 = .ok (.ireturn, 1) := by decide +kernel
set_option maxRecDepth 20000 in
theorem ggL_votesMissing_X2_votesMissing : GoodIn wsL_votesMissing wsX2_votesMissing := goodIn_ca (goodIn_r _ [6, 7, 8, 9, 10, 5, 11, 12, 13, 14, 15, 16, 17, 18, 19, 20, 21, 22, 23, 24, 25, 26, 27, 28, 29, 30, 31, 32, 33, 34, 35, 36, 37, 38, 39, 40, 41, 42, 43, 44, 45, 46, 47, 48] (by decide +kernel) (by decide +kernel)) (goodIn_sub (fun _ h => List.mem_cons_of_mem _ (List.mem_append_right _ h)) (by decide +kernel))
set_option maxRecDepth 20000 in
theorem gL_votesMissing_X2_votesMissing : GoodIn wsL_votesMissing (wsV RL 72 RX2 yX2_votesMissing wsX2_votesMissing) := goodIn_app (goodIn_of _ (by decide +kernel)) ggL_votesMissing_X2_votesMissing
theorem dL_votesMissing_0 : decode cL_votesMissing 0 = .ok (.aload_n 2, 1) := by decide +kernel
theorem dL_votesMissing_1 : decode cL_votesMissing 1 = .ok (.iconst 0, 1) := by decide +kernel
theorem dL_votesMissing_2 : decode cL_votesMissing 2 = .ok (.aload_n 0, 1) := by decide +kernel
theorem dL_votesMissing_3 : decode cL_votesMissing 3 = .ok (.iload_n 1, 1) := by decide +kernel
theorem dL_votesMissing_4 : decode cL_votesMissing 4 = .ok (.invokevirtual 72, 3) := by decide +kernel
theorem dL_votesMissing_7 : decode cL_votesMissing 7 = .ok (.i2l, 1) := by decide +kernel
theorem dL_votesMissing_8 : decode cL_votesMissing 8 = .ok (.lastore, 1) := by decide +kernel
theorem dL_votesMissing_9 : decode cL_votesMissing 9 = .ok (.goto 6, 3) := by decide +kernel
theorem dL_votesMissing_12 : decode cL_votesMissing 12 = .ok (.astore_n 3, 1) := by decide +kernel
theorem dL_votesMissing_13 : decode cL_votesMissing 13 = .ok (.iconst 1, 1) := by decide +kernel
theorem dL_votesMissing_14 : decode cL_votesMissing 14 = .ok (.ireturn, 1) := by decide +kernel
theorem dL_votesMissing_15 : decode cL_votesMissing 15 = .ok (.iconst 0, 1) := by decide +kernel
theorem dL_votesMissing_16 : decode cL_votesMissing 16 = .ok (.ireturn, 1) := by decide +kernel
set_option maxRecDepth 20000 in
theorem ggL_shipOf_X2_shipOf : GoodIn wsL_shipOf wsX2_shipOf := goodIn_ca (goodIn_r _ [6, 7, 8, 9, 10, 5, 11, 12, 13, 14, 15, 16, 17, 18, 19, 20, 21, 22, 23, 24, 25, 26, 27, 28, 29, 30] (by decide +kernel) (by decide +kernel)) (goodIn_sub (fun _ h => List.mem_cons_of_mem _ (List.mem_append_right _ h)) (by decide +kernel))
set_option maxRecDepth 20000 in
theorem gL_shipOf_X2_shipOf : GoodIn wsL_shipOf (wsV RL 75 RX2 yX2_shipOf wsX2_shipOf) := goodIn_app (goodIn_of _ (by decide +kernel)) ggL_shipOf_X2_shipOf
theorem dL_shipOf_0 : decode cL_shipOf 0 = .ok (.aload_n 2, 1) := by decide +kernel
theorem dL_shipOf_1 : decode cL_shipOf 1 = .ok (.iconst 0, 1) := by decide +kernel
theorem dL_shipOf_2 : decode cL_shipOf 2 = .ok (.aload_n 0, 1) := by decide +kernel
theorem dL_shipOf_3 : decode cL_shipOf 3 = .ok (.iload_n 1, 1) := by decide +kernel
theorem dL_shipOf_4 : decode cL_shipOf 4 = .ok (.invokevirtual 75, 3) := by decide +kernel
theorem dL_shipOf_7 : decode cL_shipOf 7 = .ok (.i2l, 1) := by decide +kernel
theorem dL_shipOf_8 : decode cL_shipOf 8 = .ok (.lastore, 1) := by decide +kernel
theorem dL_shipOf_9 : decode cL_shipOf 9 = .ok (.goto 6, 3) := by decide +kernel
theorem dL_shipOf_12 : decode cL_shipOf 12 = .ok (.astore_n 3, 1) := by decide +kernel
theorem dL_shipOf_13 : decode cL_shipOf 13 = .ok (.iconst 1, 1) := by decide +kernel
theorem dL_shipOf_14 : decode cL_shipOf 14 = .ok (.ireturn, 1) := by decide +kernel
theorem dL_shipOf_15 : decode cL_shipOf 15 = .ok (.iconst 0, 1) := by decide +kernel
theorem dL_shipOf_16 : decode cL_shipOf 16 = .ok (.ireturn, 1) := by decide +kernel
set_option maxRecDepth 20000 in
theorem ggL_mastOf_X2_mastOf : GoodIn wsL_mastOf wsX2_mastOf := goodIn_ca (goodIn_r _ [6, 7, 8, 9, 10, 5, 11, 12, 13, 14, 15, 16, 17, 18, 19, 20, 21, 22, 23, 24, 25, 26, 27] (by decide +kernel) (by decide +kernel)) (goodIn_sub (fun _ h => List.mem_cons_of_mem _ (List.mem_append_right _ h)) (by decide +kernel))
set_option maxRecDepth 20000 in
theorem gL_mastOf_X2_mastOf : GoodIn wsL_mastOf (wsV RL 78 RX2 yX2_mastOf wsX2_mastOf) := goodIn_app (goodIn_of _ (by decide +kernel)) ggL_mastOf_X2_mastOf
theorem dL_mastOf_0 : decode cL_mastOf 0 = .ok (.aload_n 2, 1) := by decide +kernel
theorem dL_mastOf_1 : decode cL_mastOf 1 = .ok (.iconst 0, 1) := by decide +kernel
theorem dL_mastOf_2 : decode cL_mastOf 2 = .ok (.aload_n 0, 1) := by decide +kernel
theorem dL_mastOf_3 : decode cL_mastOf 3 = .ok (.iload_n 1, 1) := by decide +kernel
theorem dL_mastOf_4 : decode cL_mastOf 4 = .ok (.invokevirtual 78, 3) := by decide +kernel
theorem dL_mastOf_7 : decode cL_mastOf 7 = .ok (.i2l, 1) := by decide +kernel
theorem dL_mastOf_8 : decode cL_mastOf 8 = .ok (.lastore, 1) := by decide +kernel
theorem dL_mastOf_9 : decode cL_mastOf 9 = .ok (.goto 6, 3) := by decide +kernel
theorem dL_mastOf_12 : decode cL_mastOf 12 = .ok (.astore_n 3, 1) := by decide +kernel
theorem dL_mastOf_13 : decode cL_mastOf 13 = .ok (.iconst 1, 1) := by decide +kernel
theorem dL_mastOf_14 : decode cL_mastOf 14 = .ok (.ireturn, 1) := by decide +kernel
theorem dL_mastOf_15 : decode cL_mastOf 15 = .ok (.iconst 0, 1) := by decide +kernel
theorem dL_mastOf_16 : decode cL_mastOf 16 = .ok (.ireturn, 1) := by decide +kernel
set_option maxRecDepth 20000 in
theorem ggL_hasVoter_X2_hasVoter : GoodIn wsL_hasVoter wsX2_hasVoter := goodIn_ca (goodIn_r _ [6, 7, 8, 9, 10, 5, 11, 12, 13, 14, 15, 16, 17, 18, 19, 20, 21, 22, 23, 24, 25, 26, 27] (by decide +kernel) (by decide +kernel)) (goodIn_sub (fun _ h => List.mem_cons_of_mem _ (List.mem_append_right _ h)) (by decide +kernel))
set_option maxRecDepth 20000 in
theorem gL_hasVoter_X2_hasVoter : GoodIn wsL_hasVoter (wsV RL 81 RX2 yX2_hasVoter wsX2_hasVoter) := goodIn_app (goodIn_of _ (by decide +kernel)) ggL_hasVoter_X2_hasVoter
theorem dL_hasVoter_0 : decode cL_hasVoter 0 = .ok (.aload_n 2, 1) := by decide +kernel
theorem dL_hasVoter_1 : decode cL_hasVoter 1 = .ok (.iconst 0, 1) := by decide +kernel
theorem dL_hasVoter_2 : decode cL_hasVoter 2 = .ok (.aload_n 0, 1) := by decide +kernel
theorem dL_hasVoter_3 : decode cL_hasVoter 3 = .ok (.iload_n 1, 1) := by decide +kernel
theorem dL_hasVoter_4 : decode cL_hasVoter 4 = .ok (.invokevirtual 81, 3) := by decide +kernel
theorem dL_hasVoter_7 : decode cL_hasVoter 7 = .ok (.ifCond .eq 7, 3) := by decide +kernel
theorem dL_hasVoter_10 : decode cL_hasVoter 10 = .ok (.lconst 1, 1) := by decide +kernel
theorem dL_hasVoter_11 : decode cL_hasVoter 11 = .ok (.goto 4, 3) := by decide +kernel
theorem dL_hasVoter_14 : decode cL_hasVoter 14 = .ok (.lconst 0, 1) := by decide +kernel
theorem dL_hasVoter_15 : decode cL_hasVoter 15 = .ok (.lastore, 1) := by decide +kernel
theorem dL_hasVoter_16 : decode cL_hasVoter 16 = .ok (.goto 6, 3) := by decide +kernel
theorem dL_hasVoter_19 : decode cL_hasVoter 19 = .ok (.astore_n 3, 1) := by decide +kernel
theorem dL_hasVoter_20 : decode cL_hasVoter 20 = .ok (.iconst 1, 1) := by decide +kernel
theorem dL_hasVoter_21 : decode cL_hasVoter 21 = .ok (.ireturn, 1) := by decide +kernel
theorem dL_hasVoter_22 : decode cL_hasVoter 22 = .ok (.iconst 0, 1) := by decide +kernel
theorem dL_hasVoter_23 : decode cL_hasVoter 23 = .ok (.ireturn, 1) := by decide +kernel
set_option maxRecDepth 20000 in
theorem ggL_isGivenUp_X2_isGivenUp : GoodIn wsL_isGivenUp wsX2_isGivenUp := goodIn_ca (goodIn_r _ [6, 7, 8, 9, 10, 5, 11, 12, 13, 14, 15, 16, 17, 18, 19, 20, 21, 22, 23, 24, 25, 26, 27] (by decide +kernel) (by decide +kernel)) (goodIn_sub (fun _ h => List.mem_cons_of_mem _ (List.mem_append_right _ h)) (by decide +kernel))
set_option maxRecDepth 20000 in
theorem gL_isGivenUp_X2_isGivenUp : GoodIn wsL_isGivenUp (wsV RL 84 RX2 yX2_isGivenUp wsX2_isGivenUp) := goodIn_app (goodIn_of _ (by decide +kernel)) ggL_isGivenUp_X2_isGivenUp
theorem dL_isGivenUp_0 : decode cL_isGivenUp 0 = .ok (.aload_n 2, 1) := by decide +kernel
theorem dL_isGivenUp_1 : decode cL_isGivenUp 1 = .ok (.iconst 0, 1) := by decide +kernel
theorem dL_isGivenUp_2 : decode cL_isGivenUp 2 = .ok (.aload_n 0, 1) := by decide +kernel
theorem dL_isGivenUp_3 : decode cL_isGivenUp 3 = .ok (.iload_n 1, 1) := by decide +kernel
theorem dL_isGivenUp_4 : decode cL_isGivenUp 4 = .ok (.invokevirtual 84, 3) := by decide +kernel
theorem dL_isGivenUp_7 : decode cL_isGivenUp 7 = .ok (.ifCond .eq 7, 3) := by decide +kernel
theorem dL_isGivenUp_10 : decode cL_isGivenUp 10 = .ok (.lconst 1, 1) := by decide +kernel
theorem dL_isGivenUp_11 : decode cL_isGivenUp 11 = .ok (.goto 4, 3) := by decide +kernel
theorem dL_isGivenUp_14 : decode cL_isGivenUp 14 = .ok (.lconst 0, 1) := by decide +kernel
theorem dL_isGivenUp_15 : decode cL_isGivenUp 15 = .ok (.lastore, 1) := by decide +kernel
theorem dL_isGivenUp_16 : decode cL_isGivenUp 16 = .ok (.goto 6, 3) := by decide +kernel
theorem dL_isGivenUp_19 : decode cL_isGivenUp 19 = .ok (.astore_n 3, 1) := by decide +kernel
theorem dL_isGivenUp_20 : decode cL_isGivenUp 20 = .ok (.iconst 1, 1) := by decide +kernel
theorem dL_isGivenUp_21 : decode cL_isGivenUp 21 = .ok (.ireturn, 1) := by decide +kernel
theorem dL_isGivenUp_22 : decode cL_isGivenUp 22 = .ok (.iconst 0, 1) := by decide +kernel
theorem dL_isGivenUp_23 : decode cL_isGivenUp 23 = .ok (.ireturn, 1) := by decide +kernel
set_option maxRecDepth 20000 in
theorem ggL_candleOf_X2_candleOf : GoodIn wsL_candleOf wsX2_candleOf := goodIn_ca (goodIn_r _ [6, 7, 8, 9, 10, 5, 11, 12, 13, 14, 15, 16, 17, 18, 19, 20, 21, 22, 23, 24, 25, 26, 27, 28, 29, 30, 31, 32, 33, 34, 35, 36, 37, 38] (by decide +kernel) (by decide +kernel)) (goodIn_sub (fun _ h => List.mem_cons_of_mem _ (List.mem_append_right _ h)) (by decide +kernel))
set_option maxRecDepth 20000 in
theorem gL_candleOf_X2_candleOf : GoodIn wsL_candleOf (wsV RL 87 RX2 yX2_candleOf wsX2_candleOf) := goodIn_app (goodIn_of _ (by decide +kernel)) ggL_candleOf_X2_candleOf
theorem dL_candleOf_0 : decode cL_candleOf 0 = .ok (.aload_n 2, 1) := by decide +kernel
theorem dL_candleOf_1 : decode cL_candleOf 1 = .ok (.iconst 0, 1) := by decide +kernel
theorem dL_candleOf_2 : decode cL_candleOf 2 = .ok (.aload_n 0, 1) := by decide +kernel
theorem dL_candleOf_3 : decode cL_candleOf 3 = .ok (.iload_n 1, 1) := by decide +kernel
theorem dL_candleOf_4 : decode cL_candleOf 4 = .ok (.invokevirtual 87, 3) := by decide +kernel
theorem dL_candleOf_7 : decode cL_candleOf 7 = .ok (.i2l, 1) := by decide +kernel
theorem dL_candleOf_8 : decode cL_candleOf 8 = .ok (.lastore, 1) := by decide +kernel
theorem dL_candleOf_9 : decode cL_candleOf 9 = .ok (.goto 6, 3) := by decide +kernel
theorem dL_candleOf_12 : decode cL_candleOf 12 = .ok (.astore_n 3, 1) := by decide +kernel
theorem dL_candleOf_13 : decode cL_candleOf 13 = .ok (.iconst 1, 1) := by decide +kernel
theorem dL_candleOf_14 : decode cL_candleOf 14 = .ok (.ireturn, 1) := by decide +kernel
theorem dL_candleOf_15 : decode cL_candleOf 15 = .ok (.iconst 0, 1) := by decide +kernel
theorem dL_candleOf_16 : decode cL_candleOf 16 = .ok (.ireturn, 1) := by decide +kernel
set_option maxRecDepth 20000 in
theorem ggL_isDark_X2_isDark : GoodIn wsL_isDark wsX2_isDark := goodIn_ca (goodIn_r _ [6, 7, 8, 9, 10, 5, 11, 12, 13, 14, 15, 16, 17, 18, 19, 20, 21, 22, 23, 24, 25, 26, 27, 28, 29, 30, 31, 32, 33, 34, 35, 36, 37, 38, 39, 40, 41, 42, 43, 44, 45, 46, 47, 48, 49, 50, 51, 52, 53, 54, 55] (by decide +kernel) (by decide +kernel)) (goodIn_sub (fun _ h => List.mem_cons_of_mem _ (List.mem_append_right _ h)) (by decide +kernel))
set_option maxRecDepth 20000 in
theorem gL_isDark_X2_isDark : GoodIn wsL_isDark (wsV RL 90 RX2 yX2_isDark wsX2_isDark) := goodIn_app (goodIn_of _ (by decide +kernel)) ggL_isDark_X2_isDark
theorem dL_isDark_0 : decode cL_isDark 0 = .ok (.aload_n 2, 1) := by decide +kernel
theorem dL_isDark_1 : decode cL_isDark 1 = .ok (.iconst 0, 1) := by decide +kernel
theorem dL_isDark_2 : decode cL_isDark 2 = .ok (.aload_n 0, 1) := by decide +kernel
theorem dL_isDark_3 : decode cL_isDark 3 = .ok (.iload_n 1, 1) := by decide +kernel
theorem dL_isDark_4 : decode cL_isDark 4 = .ok (.invokevirtual 90, 3) := by decide +kernel
theorem dL_isDark_7 : decode cL_isDark 7 = .ok (.ifCond .eq 7, 3) := by decide +kernel
theorem dL_isDark_10 : decode cL_isDark 10 = .ok (.lconst 1, 1) := by decide +kernel
theorem dL_isDark_11 : decode cL_isDark 11 = .ok (.goto 4, 3) := by decide +kernel
theorem dL_isDark_14 : decode cL_isDark 14 = .ok (.lconst 0, 1) := by decide +kernel
theorem dL_isDark_15 : decode cL_isDark 15 = .ok (.lastore, 1) := by decide +kernel
theorem dL_isDark_16 : decode cL_isDark 16 = .ok (.goto 6, 3) := by decide +kernel
theorem dL_isDark_19 : decode cL_isDark 19 = .ok (.astore_n 3, 1) := by decide +kernel
theorem dL_isDark_20 : decode cL_isDark 20 = .ok (.iconst 1, 1) := by decide +kernel
theorem dL_isDark_21 : decode cL_isDark 21 = .ok (.ireturn, 1) := by decide +kernel
theorem dL_isDark_22 : decode cL_isDark 22 = .ok (.iconst 0, 1) := by decide +kernel
theorem dL_isDark_23 : decode cL_isDark 23 = .ok (.ireturn, 1) := by decide +kernel
set_option maxRecDepth 20000 in
theorem ggL_trustOf_X2_trustOf : GoodIn wsL_trustOf wsX2_trustOf := goodIn_ca (goodIn_r _ [6, 7, 8, 9, 10, 5, 11, 12, 13, 14, 15, 16, 17, 18, 19, 20, 21, 22, 23, 24, 25, 26, 27, 28, 29, 30, 31, 32, 33, 34, 35, 36, 37, 38] (by decide +kernel) (by decide +kernel)) (goodIn_sub (fun _ h => List.mem_cons_of_mem _ (List.mem_append_right _ h)) (by decide +kernel))
set_option maxRecDepth 20000 in
theorem gL_trustOf_X2_trustOf : GoodIn wsL_trustOf (wsV RL 93 RX2 yX2_trustOf wsX2_trustOf) := goodIn_app (goodIn_of _ (by decide +kernel)) ggL_trustOf_X2_trustOf
theorem dL_trustOf_0 : decode cL_trustOf 0 = .ok (.aload_n 2, 1) := by decide +kernel
theorem dL_trustOf_1 : decode cL_trustOf 1 = .ok (.iconst 0, 1) := by decide +kernel
theorem dL_trustOf_2 : decode cL_trustOf 2 = .ok (.aload_n 0, 1) := by decide +kernel
theorem dL_trustOf_3 : decode cL_trustOf 3 = .ok (.iload_n 1, 1) := by decide +kernel
theorem dL_trustOf_4 : decode cL_trustOf 4 = .ok (.invokevirtual 93, 3) := by decide +kernel
theorem dL_trustOf_7 : decode cL_trustOf 7 = .ok (.i2l, 1) := by decide +kernel
theorem dL_trustOf_8 : decode cL_trustOf 8 = .ok (.lastore, 1) := by decide +kernel
theorem dL_trustOf_9 : decode cL_trustOf 9 = .ok (.goto 6, 3) := by decide +kernel
theorem dL_trustOf_12 : decode cL_trustOf 12 = .ok (.astore_n 3, 1) := by decide +kernel
theorem dL_trustOf_13 : decode cL_trustOf 13 = .ok (.iconst 1, 1) := by decide +kernel
theorem dL_trustOf_14 : decode cL_trustOf 14 = .ok (.ireturn, 1) := by decide +kernel
theorem dL_trustOf_15 : decode cL_trustOf 15 = .ok (.iconst 0, 1) := by decide +kernel
theorem dL_trustOf_16 : decode cL_trustOf 16 = .ok (.ireturn, 1) := by decide +kernel
set_option maxRecDepth 20000 in
theorem ggL_wouldRing_X2_wouldRing : GoodIn wsL_wouldRing wsX2_wouldRing := goodIn_ca (goodIn_ca (goodIn_r _ [7, 8, 9, 10, 11, 6, 12, 13, 14, 15, 16, 17, 18, 19, 20, 21, 22, 23, 24, 25, 26, 27, 28, 29, 30, 31, 32, 33, 34, 35, 36, 37, 38, 39, 40, 41, 42, 43, 44, 45, 46, 47, 48, 49, 50, 51, 52, 53, 54, 55, 56, 57, 58, 59, 60, 61, 62, 63, 64, 65, 66, 67, 68, 69, 70, 71, 72] (by decide +kernel) (by decide +kernel)) (goodIn_sub (fun _ h => List.mem_cons_of_mem _ (List.mem_append_left _ (List.mem_append_right _ h))) (by decide +kernel))) (goodIn_sub (fun _ h => List.mem_cons_of_mem _ (List.mem_append_right _ h)) (by decide +kernel))
set_option maxRecDepth 20000 in
theorem gL_wouldRing_X2_wouldRing : GoodIn wsL_wouldRing (wsV RL 96 RX2 yX2_wouldRing wsX2_wouldRing) := goodIn_app (goodIn_of _ (by decide +kernel)) ggL_wouldRing_X2_wouldRing
theorem dL_wouldRing_0 : decode cL_wouldRing 0 = .ok (.aload_n 3, 1) := by decide +kernel
theorem dL_wouldRing_1 : decode cL_wouldRing 1 = .ok (.iconst 0, 1) := by decide +kernel
theorem dL_wouldRing_2 : decode cL_wouldRing 2 = .ok (.aload_n 0, 1) := by decide +kernel
theorem dL_wouldRing_3 : decode cL_wouldRing 3 = .ok (.iload_n 1, 1) := by decide +kernel
theorem dL_wouldRing_4 : decode cL_wouldRing 4 = .ok (.iload_n 2, 1) := by decide +kernel
theorem dL_wouldRing_5 : decode cL_wouldRing 5 = .ok (.invokevirtual 96, 3) := by decide +kernel
theorem dL_wouldRing_8 : decode cL_wouldRing 8 = .ok (.ifCond .eq 7, 3) := by decide +kernel
theorem dL_wouldRing_11 : decode cL_wouldRing 11 = .ok (.lconst 1, 1) := by decide +kernel
theorem dL_wouldRing_12 : decode cL_wouldRing 12 = .ok (.goto 4, 3) := by decide +kernel
theorem dL_wouldRing_15 : decode cL_wouldRing 15 = .ok (.lconst 0, 1) := by decide +kernel
theorem dL_wouldRing_16 : decode cL_wouldRing 16 = .ok (.lastore, 1) := by decide +kernel
theorem dL_wouldRing_17 : decode cL_wouldRing 17 = .ok (.goto 11, 3) := by decide +kernel
theorem dL_wouldRing_20 : decode cL_wouldRing 20 = .ok (.astore 4, 2) := by decide +kernel
theorem dL_wouldRing_22 : decode cL_wouldRing 22 = .ok (.iconst 1, 1) := by decide +kernel
theorem dL_wouldRing_23 : decode cL_wouldRing 23 = .ok (.ireturn, 1) := by decide +kernel
theorem dL_wouldRing_24 : decode cL_wouldRing 24 = .ok (.astore 4, 2) := by decide +kernel
theorem dL_wouldRing_26 : decode cL_wouldRing 26 = .ok (.iconst 2, 1) := by decide +kernel
theorem dL_wouldRing_27 : decode cL_wouldRing 27 = .ok (.ireturn, 1) := by decide +kernel
theorem dL_wouldRing_28 : decode cL_wouldRing 28 = .ok (.iconst 0, 1) := by decide +kernel
theorem dL_wouldRing_29 : decode cL_wouldRing 29 = .ok (.ireturn, 1) := by decide +kernel
set_option maxRecDepth 20000 in
theorem ggL_nightsUntilUnrung_X2_nightsUntilUnrung : GoodIn wsL_nightsUntilUnrung wsX2_nightsUntilUnrung := goodIn_ca (goodIn_ca (goodIn_r _ [7, 8, 9, 10, 11, 12, 13, 14, 6, 15, 16, 17, 18, 19, 20, 21, 22, 23, 24, 25, 26, 27, 28, 29, 30, 31, 32, 33, 34, 35, 36, 37, 38, 39, 40, 41, 42, 43, 44, 45, 46, 47, 48, 49, 50, 51, 52, 53, 54, 55, 56, 57, 58, 59, 60, 61, 62, 63, 64, 65, 66, 67, 68, 69, 70, 71, 72, 73, 74, 75, 76, 77, 78, 79, 80, 81, 82, 83, 84, 85, 86, 87, 88, 89, 90, 91, 92, 93, 94, 95, 96, 97, 98, 99, 100, 101, 102, 103, 104, 105, 106, 107, 108, 109, 110, 111, 112, 113, 114, 115, 116, 117, 118, 119, 120, 121, 122, 123, 124, 125, 126, 127, 128, 129, 130, 131, 132, 133, 134, 135, 136, 137, 138, 139, 140, 141, 142, 143, 144, 145, 146, 147, 148, 149, 150] (by decide +kernel) (by decide +kernel)) (goodIn_sub (fun _ h => List.mem_cons_of_mem _ (List.mem_append_left _ (List.mem_append_right _ h))) (by decide +kernel))) (goodIn_sub (fun _ h => List.mem_cons_of_mem _ (List.mem_append_right _ h)) (by decide +kernel))
set_option maxRecDepth 20000 in
theorem gL_nightsUntilUnrung_X2_nightsUntilUnrung : GoodIn wsL_nightsUntilUnrung (wsV RL 99 RX2 yX2_nightsUntilUnrung wsX2_nightsUntilUnrung) := goodIn_app (goodIn_of _ (by decide +kernel)) ggL_nightsUntilUnrung_X2_nightsUntilUnrung
theorem dL_nightsUntilUnrung_0 : decode cL_nightsUntilUnrung 0 = .ok (.aload_n 2, 1) := by decide +kernel
theorem dL_nightsUntilUnrung_1 : decode cL_nightsUntilUnrung 1 = .ok (.iconst 0, 1) := by decide +kernel
theorem dL_nightsUntilUnrung_2 : decode cL_nightsUntilUnrung 2 = .ok (.aload_n 0, 1) := by decide +kernel
theorem dL_nightsUntilUnrung_3 : decode cL_nightsUntilUnrung 3 = .ok (.iload_n 1, 1) := by decide +kernel
theorem dL_nightsUntilUnrung_4 : decode cL_nightsUntilUnrung 4 = .ok (.invokevirtual 99, 3) := by decide +kernel
theorem dL_nightsUntilUnrung_7 : decode cL_nightsUntilUnrung 7 = .ok (.i2l, 1) := by decide +kernel
theorem dL_nightsUntilUnrung_8 : decode cL_nightsUntilUnrung 8 = .ok (.lastore, 1) := by decide +kernel
theorem dL_nightsUntilUnrung_9 : decode cL_nightsUntilUnrung 9 = .ok (.goto 9, 3) := by decide +kernel
theorem dL_nightsUntilUnrung_12 : decode cL_nightsUntilUnrung 12 = .ok (.astore_n 3, 1) := by decide +kernel
theorem dL_nightsUntilUnrung_13 : decode cL_nightsUntilUnrung 13 = .ok (.iconst 1, 1) := by decide +kernel
theorem dL_nightsUntilUnrung_14 : decode cL_nightsUntilUnrung 14 = .ok (.ireturn, 1) := by decide +kernel
theorem dL_nightsUntilUnrung_15 : decode cL_nightsUntilUnrung 15 = .ok (.astore_n 3, 1) := by decide +kernel
theorem dL_nightsUntilUnrung_16 : decode cL_nightsUntilUnrung 16 = .ok (.iconst 2, 1) := by decide +kernel
theorem dL_nightsUntilUnrung_17 : decode cL_nightsUntilUnrung 17 = .ok (.ireturn, 1) := by decide +kernel
theorem dL_nightsUntilUnrung_18 : decode cL_nightsUntilUnrung 18 = .ok (.iconst 0, 1) := by decide +kernel
theorem dL_nightsUntilUnrung_19 : decode cL_nightsUntilUnrung 19 = .ok (.ireturn, 1) := by decide +kernel
set_option maxRecDepth 20000 in
theorem ggL_waxAfter_X2_waxAfter : GoodIn wsL_waxAfter wsX2_waxAfter := goodIn_ca (goodIn_r _ [6, 7, 8, 9, 10, 5, 11, 12, 13, 14, 15, 16, 17, 18, 19, 20, 21, 22, 23, 24, 25, 26, 27, 28, 29, 30, 31, 32, 33, 34, 35, 36, 37, 38, 39, 40, 41, 42, 43, 44, 45, 46, 47, 48, 49, 50, 51, 52, 53, 54, 55, 56, 57, 58, 59, 60, 61, 62, 63, 64, 65, 66, 67, 68, 69, 70, 71, 72, 73, 74, 75, 76, 77, 78, 79, 80, 81, 82, 83, 84, 85, 86, 87, 88, 89, 90, 91, 92, 93, 94, 95, 96, 97, 98, 99, 100, 101, 102, 103, 104, 105, 106, 107, 108, 109, 110, 111, 112, 113, 114, 115, 116, 117, 118, 119, 120, 121, 122, 123, 124, 125, 126, 127, 128, 129, 130, 131, 132, 133, 134, 135, 136, 137, 138, 139, 140, 141, 142, 143, 144, 145, 146, 147, 148] (by decide +kernel) (by decide +kernel)) (goodIn_sub (fun _ h => List.mem_cons_of_mem _ (List.mem_append_right _ h)) (by decide +kernel))
set_option maxRecDepth 20000 in
theorem gL_waxAfter_X2_waxAfter : GoodIn wsL_waxAfter (wsV RL 102 RX2 yX2_waxAfter wsX2_waxAfter) := goodIn_app (goodIn_of _ (by decide +kernel)) ggL_waxAfter_X2_waxAfter
theorem dL_waxAfter_0 : decode cL_waxAfter 0 = .ok (.aload_n 2, 1) := by decide +kernel
theorem dL_waxAfter_1 : decode cL_waxAfter 1 = .ok (.iconst 0, 1) := by decide +kernel
theorem dL_waxAfter_2 : decode cL_waxAfter 2 = .ok (.aload_n 0, 1) := by decide +kernel
theorem dL_waxAfter_3 : decode cL_waxAfter 3 = .ok (.iload_n 1, 1) := by decide +kernel
theorem dL_waxAfter_4 : decode cL_waxAfter 4 = .ok (.invokevirtual 102, 3) := by decide +kernel
theorem dL_waxAfter_7 : decode cL_waxAfter 7 = .ok (.i2l, 1) := by decide +kernel
theorem dL_waxAfter_8 : decode cL_waxAfter 8 = .ok (.lastore, 1) := by decide +kernel
theorem dL_waxAfter_9 : decode cL_waxAfter 9 = .ok (.goto 6, 3) := by decide +kernel
theorem dL_waxAfter_12 : decode cL_waxAfter 12 = .ok (.astore_n 3, 1) := by decide +kernel
theorem dL_waxAfter_13 : decode cL_waxAfter 13 = .ok (.iconst 1, 1) := by decide +kernel
theorem dL_waxAfter_14 : decode cL_waxAfter 14 = .ok (.ireturn, 1) := by decide +kernel
theorem dL_waxAfter_15 : decode cL_waxAfter 15 = .ok (.iconst 0, 1) := by decide +kernel
theorem dL_waxAfter_16 : decode cL_waxAfter 16 = .ok (.ireturn, 1) := by decide +kernel
set_option maxRecDepth 20000 in
theorem ggL_waxWanted_X2_waxWanted : GoodIn wsL_waxWanted wsX2_waxWanted := goodIn_ca (goodIn_r _ [6, 7, 8, 5, 9, 10, 11, 12, 13, 14, 15, 16, 17, 18, 19, 20, 21, 22, 23, 24, 25, 26, 27, 28, 29, 30, 31, 32, 33, 34, 35, 36, 37, 38, 39, 40, 41, 42, 43, 44, 45, 46, 47, 48, 49, 50, 51, 52, 53, 54, 55, 56, 57, 58, 59, 60, 61, 62, 63, 64, 65, 66, 67, 68, 69, 70, 71, 72, 73, 74, 75, 76, 77, 78, 79, 80, 81, 82, 83, 84, 85, 86, 87, 88, 89, 90, 91, 92, 93, 94, 95, 96, 97, 98, 99, 100, 101, 102, 103, 104, 105, 106, 107, 108, 109, 110, 111, 112, 113, 114, 115, 116, 117, 118, 119, 120, 121, 122, 123, 124, 125, 126, 127, 128, 129, 130, 131, 132, 133, 134, 135, 136, 137, 138, 139, 140, 141, 142, 143, 144, 145, 146, 147, 148, 149, 150, 151, 152, 153, 154, 155, 156] (by decide +kernel) (by decide +kernel)) (goodIn_sub (fun _ h => List.mem_cons_of_mem _ (List.mem_append_right _ h)) (by decide +kernel))
set_option maxRecDepth 20000 in
theorem gL_waxWanted_X2_waxWanted : GoodIn wsL_waxWanted (wsV RL 105 RX2 yX2_waxWanted wsX2_waxWanted) := goodIn_app (goodIn_of _ (by decide +kernel)) ggL_waxWanted_X2_waxWanted
theorem dL_waxWanted_0 : decode cL_waxWanted 0 = .ok (.aload_n 2, 1) := by decide +kernel
theorem dL_waxWanted_1 : decode cL_waxWanted 1 = .ok (.iconst 0, 1) := by decide +kernel
theorem dL_waxWanted_2 : decode cL_waxWanted 2 = .ok (.aload_n 0, 1) := by decide +kernel
theorem dL_waxWanted_3 : decode cL_waxWanted 3 = .ok (.iload_n 1, 1) := by decide +kernel
theorem dL_waxWanted_4 : decode cL_waxWanted 4 = .ok (.invokevirtual 105, 3) := by decide +kernel
theorem dL_waxWanted_7 : decode cL_waxWanted 7 = .ok (.i2l, 1) := by decide +kernel
theorem dL_waxWanted_8 : decode cL_waxWanted 8 = .ok (.lastore, 1) := by decide +kernel
theorem dL_waxWanted_9 : decode cL_waxWanted 9 = .ok (.goto 6, 3) := by decide +kernel
theorem dL_waxWanted_12 : decode cL_waxWanted 12 = .ok (.astore_n 3, 1) := by decide +kernel
theorem dL_waxWanted_13 : decode cL_waxWanted 13 = .ok (.iconst 1, 1) := by decide +kernel
theorem dL_waxWanted_14 : decode cL_waxWanted 14 = .ok (.ireturn, 1) := by decide +kernel
theorem dL_waxWanted_15 : decode cL_waxWanted 15 = .ok (.iconst 0, 1) := by decide +kernel
theorem dL_waxWanted_16 : decode cL_waxWanted 16 = .ok (.ireturn, 1) := by decide +kernel
set_option maxRecDepth 20000 in
theorem ggL_law_X2_init : GoodIn wsL_law wsX2_init := goodIn_r _ [9, 10, 11, 12, 13, 14, 15, 16, 17, 18, 19, 20, 21, 22, 23, 24, 25, 26, 27, 28, 29, 30, 31, 32, 33, 34, 35, 36, 37, 38, 39, 40, 41, 42, 43, 821, 822, 823, 824, 825, 826, 827, 828, 808, 809, 810, 829, 830, 831, 832, 833, 834, 835, 836, 837, 838] (by decide +kernel) (by decide +kernel)
set_option maxRecDepth 20000 in
theorem gL_law_X2_init : GoodIn wsL_law (wsX2_init) := ggL_law_X2_init
set_option maxRecDepth 20000 in
theorem ggL_law_X3_init : GoodIn wsL_law wsX3_init := goodIn_r _ [46, 47, 11, 12, 26, 48, 49, 50, 30, 51, 52, 53, 811, 812, 813, 814, 815, 816, 817, 818, 819, 820] (by decide +kernel) (by decide +kernel)
set_option maxRecDepth 20000 in
theorem gL_law_X3_init : GoodIn wsL_law (wsX3_init) := ggL_law_X3_init
set_option maxRecDepth 20000 in
theorem ggL_law_L_addShip : GoodIn wsL_law wsL_addShip := goodIn_ca (goodIn_ca (goodIn_r _ [57, 58, 59, 60, 61, 62, 2, 63, 64, 65, 66, 67, 16, 68, 69, 70, 15, 71, 72, 27, 73, 74, 808, 809, 810, 821, 822, 823, 824, 825, 826, 827, 828] (by decide +kernel) (by decide +kernel)) (goodIn_sub (fun _ h => List.mem_append_left _ (List.mem_append_left _ (List.mem_append_right _ h))) (by decide +kernel))) (goodIn_sub (fun _ h => List.mem_append_left _ (List.mem_append_right _ h)) (by decide +kernel))
set_option maxRecDepth 20000 in
theorem gL_law_L_addShip : GoodIn wsL_law (va_wsS RL 112 yL_addShip wsL_addShip) := goodIn_app (goodIn_of _ (by decide +kernel)) ggL_law_L_addShip
set_option maxRecDepth 20000 in
theorem ggL_law_X3_addShip : GoodIn wsL_law wsX3_addShip := goodIn_r _ [78, 79, 80, 48, 81, 82, 5, 83, 84, 85, 86, 87, 811, 812, 813, 814, 815, 816, 817, 818, 819, 820] (by decide +kernel) (by decide +kernel)
set_option maxRecDepth 20000 in
theorem gL_law_X3_addShip : GoodIn wsL_law (wsV RL 117 RX3 yX3_addShip wsX3_addShip) := goodIn_app (goodIn_of _ (by decide +kernel)) ggL_law_X3_addShip
set_option maxRecDepth 20000 in
theorem ggL_law_X3_thrown : GoodIn wsL_law wsX3_thrown := goodIn_r _ [91, 79, 811, 812, 813, 814, 815, 816, 817, 818, 819, 820] (by decide +kernel) (by decide +kernel)
set_option maxRecDepth 20000 in
theorem gL_law_X3_thrown : GoodIn wsL_law (wsV RL 118 RX3 yX3_thrown wsX3_thrown) := goodIn_app (goodIn_of _ (by decide +kernel)) ggL_law_X3_thrown
set_option maxRecDepth 20000 in
theorem ggL_law_L_addSailor : GoodIn wsL_law wsL_addSailor := goodIn_ca (goodIn_ca (goodIn_r _ [94, 95, 59, 96, 97, 98, 2, 99, 100, 101, 66, 67, 16, 20, 102, 103, 104, 105, 106, 107, 108, 109, 110, 111, 19, 112, 37, 113, 114, 115, 15, 116, 117, 28, 29, 31, 73, 74, 118, 119, 808, 809, 810, 821, 822, 823, 824, 825, 826, 827, 828, 829, 830, 831, 832, 833, 834, 835, 836, 837, 838] (by decide +kernel) (by decide +kernel)) (goodIn_sub (fun _ h => List.mem_append_right _ h) (by decide +kernel))) (goodIn_sub (fun _ h => List.mem_append_left _ (List.mem_append_right _ h)) (by decide +kernel))
set_option maxRecDepth 20000 in
theorem gL_law_L_addSailor : GoodIn wsL_law (va_wsS RL 121 yL_addSailor wsL_addSailor) := goodIn_app (goodIn_of _ (by decide +kernel)) ggL_law_L_addSailor
set_option maxRecDepth 20000 in
theorem ggL_law_X3_addSailor : GoodIn wsL_law wsX3_addSailor := goodIn_r _ [123, 79, 48, 52, 124, 49, 50, 51, 125, 126, 127, 5, 128, 80, 81, 82, 83, 84, 85, 86, 87, 129, 130, 131, 811, 812, 813, 814, 815, 816, 817, 818, 819, 820] (by decide +kernel) (by decide +kernel)
set_option maxRecDepth 20000 in
theorem gL_law_X3_addSailor : GoodIn wsL_law (wsV RL 124 RX3 yX3_addSailor wsX3_addSailor) := goodIn_app (goodIn_of _ (by decide +kernel)) ggL_law_X3_addSailor
set_option maxRecDepth 20000 in
theorem ggL_law_L_addWatcher : GoodIn wsL_law wsL_addWatcher := goodIn_ca (goodIn_r _ [134, 59, 135, 136, 137, 2, 138, 66, 67, 16, 20, 139, 140, 141, 15, 142, 143, 144, 73, 74, 808, 809, 810, 821, 822, 823, 824, 825, 826, 827, 828, 829, 830, 831, 832, 833, 834, 835, 836, 837, 838] (by decide +kernel) (by decide +kernel)) (goodIn_sub (fun _ h => List.mem_append_left _ (List.mem_append_right _ h)) (by decide +kernel))
set_option maxRecDepth 20000 in
theorem gL_law_L_addWatcher : GoodIn wsL_law (va_wsS RL 125 yL_addWatcher wsL_addWatcher) := goodIn_app (goodIn_of _ (by decide +kernel)) ggL_law_L_addWatcher
set_option maxRecDepth 20000 in
theorem ggL_law_X3_addWatcher : GoodIn wsL_law wsX3_addWatcher := goodIn_r _ [148, 79, 149, 52, 84, 85, 86, 5, 87, 811, 812, 813, 814, 815, 816, 817, 818, 819, 820] (by decide +kernel) (by decide +kernel)
set_option maxRecDepth 20000 in
theorem gL_law_X3_addWatcher : GoodIn wsL_law (wsV RL 128 RX3 yX3_addWatcher wsX3_addWatcher) := goodIn_app (goodIn_of _ (by decide +kernel)) ggL_law_X3_addWatcher
set_option maxRecDepth 20000 in
theorem ggL_law_L_buyWax : GoodIn wsL_law wsL_buyWax := goodIn_ca (goodIn_r _ [152, 58, 153, 154, 155, 2, 156, 64, 65, 20, 808, 809, 810, 829, 830, 831, 832, 833, 834, 835, 836, 837, 838] (by decide +kernel) (by decide +kernel)) (goodIn_sub (fun _ h => List.mem_append_left _ (List.mem_append_left _ (List.mem_append_right _ h))) (by decide +kernel))
set_option maxRecDepth 20000 in
theorem gL_law_L_buyWax : GoodIn wsL_law (va_wsS RL 129 yL_buyWax wsL_buyWax) := goodIn_app (goodIn_of _ (by decide +kernel)) ggL_law_L_buyWax
set_option maxRecDepth 20000 in
theorem ggL_law_X3_buyWax : GoodIn wsL_law wsX3_buyWax := goodIn_r _ [160, 79, 52, 81, 82, 5, 83, 84, 85, 86, 87, 811, 812, 813, 814, 815, 816, 817, 818, 819, 820] (by decide +kernel) (by decide +kernel)
set_option maxRecDepth 20000 in
theorem gL_law_X3_buyWax : GoodIn wsL_law (wsV RL 131 RX3 yX3_buyWax wsX3_buyWax) := goodIn_app (goodIn_of _ (by decide +kernel)) ggL_law_X3_buyWax
set_option maxRecDepth 20000 in
theorem ggL_law_L_sail : GoodIn wsL_law wsL_sail := goodIn_ca (goodIn_ca (goodIn_r _ [163, 95, 59, 164, 165, 166, 2, 167, 66, 67, 20, 16, 102, 103, 104, 105, 100, 101, 109, 110, 111, 19, 112, 37, 107, 108, 168, 169, 170, 15, 171, 28, 32, 172, 173, 174, 175, 38, 43, 73, 74, 176, 177, 178, 179, 180, 181, 182, 183, 184, 40, 808, 809, 810, 821, 822, 823, 824, 825, 826, 827, 828, 829, 830, 831, 832, 833, 834, 835, 836, 837, 838] (by decide +kernel) (by decide +kernel)) (goodIn_sub (fun _ h => List.mem_append_left _ (List.mem_append_right _ h)) (by decide +kernel))) (goodIn_sub (fun _ h => List.mem_append_right _ h) (by decide +kernel))
set_option maxRecDepth 20000 in
theorem gL_law_L_sail : GoodIn wsL_law (va_wsS RL 132 yL_sail wsL_sail) := goodIn_app (goodIn_of _ (by decide +kernel)) ggL_law_L_sail
set_option maxRecDepth 20000 in
theorem ggL_law_X3_sail : GoodIn wsL_law wsX3_sail := goodIn_r _ [188, 79, 52, 124, 49, 125, 126, 127, 5, 128, 80, 81, 82, 83, 84, 85, 86, 87, 129, 130, 131, 189, 190, 191, 192, 193, 194, 195, 811, 812, 813, 814, 815, 816, 817, 818, 819, 820] (by decide +kernel) (by decide +kernel)
set_option maxRecDepth 20000 in
theorem gL_law_X3_sail : GoodIn wsL_law (wsV RL 134 RX3 yX3_sail wsX3_sail) := goodIn_app (goodIn_of _ (by decide +kernel)) ggL_law_X3_sail
set_option maxRecDepth 20000 in
theorem ggL_law_L_comeHome : GoodIn wsL_law wsL_comeHome := goodIn_ca (goodIn_ca (goodIn_r _ [198, 95, 59, 199, 200, 201, 2, 202, 66, 67, 20, 102, 103, 104, 105, 100, 101, 16, 109, 110, 111, 19, 112, 37, 107, 108, 203, 204, 205, 206, 41, 207, 208, 209, 210, 211, 212, 213, 214, 42, 215, 216, 217, 73, 74, 218, 219, 220, 221, 39, 43, 184, 40, 118, 119, 176, 177, 178, 15, 179, 28, 106, 808, 809, 810, 829, 830, 831, 832, 833, 834, 835, 836, 837, 838, 821, 822, 823, 824, 825, 826, 827, 828] (by decide +kernel) (by decide +kernel)) (goodIn_sub (fun _ h => List.mem_append_left _ (List.mem_append_right _ h)) (by decide +kernel))) (goodIn_sub (fun _ h => List.mem_append_right _ h) (by decide +kernel))
set_option maxRecDepth 20000 in
theorem gL_law_L_comeHome : GoodIn wsL_law (va_wsS RL 135 yL_comeHome wsL_comeHome) := goodIn_app (goodIn_of _ (by decide +kernel)) ggL_law_L_comeHome
set_option maxRecDepth 20000 in
theorem ggL_law_X3_comeHome : GoodIn wsL_law wsX3_comeHome := goodIn_r _ [225, 79, 52, 149, 226, 208, 209, 210, 125, 126, 127, 5, 128, 80, 81, 82, 83, 84, 85, 86, 87, 129, 130, 131, 227, 228, 229, 230, 231, 232, 233, 124, 49, 189, 190, 191, 811, 812, 813, 814, 815, 816, 817, 818, 819, 820] (by decide +kernel) (by decide +kernel)
set_option maxRecDepth 20000 in
theorem gL_law_X3_comeHome : GoodIn wsL_law (wsV RL 137 RX3 yX3_comeHome wsX3_comeHome) := goodIn_app (goodIn_of _ (by decide +kernel)) ggL_law_X3_comeHome
set_option maxRecDepth 20000 in
theorem ggL_law_L_sight : GoodIn wsL_law wsL_sight := goodIn_ca (goodIn_ca (goodIn_r _ [236, 95, 59, 237, 238, 239, 2, 240, 20, 241, 242, 243, 244, 66, 67, 245, 246, 247, 248, 100, 101, 16, 102, 103, 104, 105, 109, 110, 111, 19, 112, 37, 107, 108, 249, 212, 213, 214, 42, 215, 216, 217, 250, 251, 252, 253, 39, 73, 74, 254, 255, 256, 257, 41, 211, 118, 119, 258, 259, 260, 808, 809, 810, 829, 830, 831, 832, 833, 834, 835, 836, 837, 838, 821, 822, 823, 824, 825, 826, 827, 828] (by decide +kernel) (by decide +kernel)) (goodIn_sub (fun _ h => List.mem_append_left _ (List.mem_append_right _ h)) (by decide +kernel))) (goodIn_sub (fun _ h => List.mem_append_right _ h) (by decide +kernel))
set_option maxRecDepth 20000 in
theorem gL_law_L_sight : GoodIn wsL_law (va_wsS RL 138 yL_sight wsL_sight) := goodIn_app (goodIn_of _ (by decide +kernel)) ggL_law_L_sight
set_option maxRecDepth 20000 in
theorem ggL_law_X3_sight : GoodIn wsL_law wsX3_sight := goodIn_r _ [264, 265, 266, 267, 5, 268, 52, 79, 269, 270, 271, 272, 149, 81, 82, 83, 125, 126, 127, 128, 80, 273, 274, 275, 276, 129, 130, 131, 227, 228, 229, 277, 278, 279, 280, 281, 282, 283, 284, 811, 812, 813, 814, 815, 816, 817, 818, 819, 820] (by decide +kernel) (by decide +kernel)
set_option maxRecDepth 20000 in
theorem gL_law_X3_sight : GoodIn wsL_law (wsV RL 141 RX3 yX3_sight wsX3_sight) := goodIn_app (goodIn_of _ (by decide +kernel)) ggL_law_X3_sight
set_option maxRecDepth 20000 in
theorem ggL_law_L_vote : GoodIn wsL_law wsL_vote := goodIn_ca (goodIn_ca (goodIn_r _ [287, 95, 59, 288, 289, 290, 2, 291, 66, 67, 16, 20, 292, 293, 294, 295, 100, 101, 258, 259, 260, 296, 177, 178, 15, 179, 28, 109, 110, 111, 19, 112, 37, 107, 108, 297, 118, 119, 298, 299, 300, 301, 32, 302, 303, 304, 305, 808, 809, 810, 821, 822, 823, 824, 825, 826, 827, 828, 829, 830, 831, 832, 833, 834, 835, 836, 837, 838] (by decide +kernel) (by decide +kernel)) (goodIn_sub (fun _ h => List.mem_append_left _ (List.mem_append_right _ h)) (by decide +kernel))) (goodIn_sub (fun _ h => List.mem_append_right _ h) (by decide +kernel))
set_option maxRecDepth 20000 in
theorem gL_law_L_vote : GoodIn wsL_law (va_wsS RL 142 yL_vote wsL_vote) := goodIn_app (goodIn_of _ (by decide +kernel)) ggL_law_L_vote
set_option maxRecDepth 20000 in
theorem ggL_law_X3_vote : GoodIn wsL_law wsX3_vote := goodIn_r _ [309, 79, 51, 49, 52, 310, 311, 312, 5, 313, 124, 81, 82, 83, 84, 85, 86, 87, 273, 274, 275, 276, 129, 130, 131, 189, 190, 191, 314, 315, 316, 317, 811, 812, 813, 814, 815, 816, 817, 818, 819, 820] (by decide +kernel) (by decide +kernel)
set_option maxRecDepth 20000 in
theorem gL_law_X3_vote : GoodIn wsL_law (wsV RL 145 RX3 yX3_vote wsX3_vote) := goodIn_app (goodIn_of _ (by decide +kernel)) ggL_law_X3_vote
set_option maxRecDepth 20000 in
theorem ggL_law_L_burnNights : GoodIn wsL_law wsL_burnNights := goodIn_ca (goodIn_r _ [320, 58, 321, 322, 323, 2, 324, 20, 325, 326, 327, 64, 65, 328, 329, 330, 19, 331, 332, 333, 334, 335, 336, 337, 338, 339, 340, 42, 341, 342, 343, 344, 345, 346, 347, 41, 348, 349, 209, 350, 107, 108, 73, 74, 351, 352, 353, 354, 39, 355, 259, 260, 254, 255, 256, 257, 211, 212, 213, 214, 215, 216, 217, 118, 119, 356, 357, 358, 359, 43, 40, 176, 177, 178, 15, 179, 28, 360, 110, 111, 112, 37, 361, 362, 363, 364, 180, 181, 182, 183, 184, 365, 366, 367, 368, 38, 369, 370, 371, 372, 373, 374, 375, 376, 377, 31, 302, 303, 304, 305, 378, 299, 300, 301, 32, 379, 219, 220, 221, 808, 809, 810, 829, 830, 831, 832, 833, 834, 835, 836, 837, 838, 821, 822, 823, 824, 825, 826, 827, 828] (by decide +kernel) (by decide +kernel)) (goodIn_sub (fun _ h => List.mem_append_left _ (List.mem_append_left _ (List.mem_append_right _ h))) (by decide +kernel))
set_option maxRecDepth 20000 in
theorem gL_law_L_burnNights : GoodIn wsL_law (va_wsS RL 146 yL_burnNights wsL_burnNights) := goodIn_app (goodIn_of _ (by decide +kernel)) ggL_law_L_burnNights
set_option maxRecDepth 20000 in
theorem ggL_law_X3_burnNights : GoodIn wsL_law wsX3_burnNights := goodIn_r _ [383, 79, 81, 82, 5, 83, 84, 85, 86, 87, 384, 385, 386, 387, 80, 52, 124, 388, 389, 390, 391, 149, 392, 349, 209, 350, 227, 228, 229, 129, 130, 131, 281, 282, 283, 284, 393, 394, 395, 396, 49, 50, 273, 274, 275, 276, 189, 190, 191, 192, 193, 194, 195, 314, 315, 316, 317, 51, 230, 231, 232, 233, 811, 812, 813, 814, 815, 816, 817, 818, 819, 820] (by decide +kernel) (by decide +kernel)
set_option maxRecDepth 20000 in
theorem gL_law_X3_burnNights : GoodIn wsL_law (wsV RL 148 RX3 yX3_burnNights wsX3_burnNights) := goodIn_app (goodIn_of _ (by decide +kernel)) ggL_law_X3_burnNights
set_option maxRecDepth 20000 in
theorem ggL_law_X2_ships : GoodIn wsL_law wsX2_ships := goodIn_r _ [400, 16, 808, 809, 810, 821, 822, 823, 824, 825, 826, 827, 828] (by decide +kernel) (by decide +kernel)
set_option maxRecDepth 20000 in
theorem gL_law_X2_ships : GoodIn wsL_law (wsV RL 149 RX2 yX2_ships wsX2_ships) := goodIn_app (goodIn_of _ (by decide +kernel)) ggL_law_X2_ships
set_option maxRecDepth 20000 in
theorem ggL_law_X3_ships : GoodIn wsL_law wsX3_ships := goodIn_r _ [404, 80, 405, 406, 407, 5, 408, 79, 811, 812, 813, 814, 815, 816, 817, 818, 819, 820] (by decide +kernel) (by decide +kernel)
set_option maxRecDepth 20000 in
theorem gL_law_X3_ships : GoodIn wsL_law (wsV RL 152 RX3 yX3_ships wsX3_ships) := goodIn_app (goodIn_of _ (by decide +kernel)) ggL_law_X3_ships
set_option maxRecDepth 20000 in
theorem ggL_law_L_mastsOf : GoodIn wsL_law wsL_mastsOf := goodIn_ca (goodIn_r _ [411, 95, 412, 413, 414, 2, 415, 16, 102, 103, 104, 105, 100, 101, 106, 107, 108, 808, 809, 810, 821, 822, 823, 824, 825, 826, 827, 828] (by decide +kernel) (by decide +kernel)) (goodIn_sub (fun _ h => List.mem_append_right _ h) (by decide +kernel))
set_option maxRecDepth 20000 in
theorem gL_law_L_mastsOf : GoodIn wsL_law (va_wsS RL 153 yL_mastsOf wsL_mastsOf) := goodIn_app (goodIn_of _ (by decide +kernel)) ggL_law_L_mastsOf
set_option maxRecDepth 20000 in
theorem ggL_law_X3_mastsOf : GoodIn wsL_law wsX3_mastsOf := goodIn_r _ [419, 79, 48, 125, 126, 127, 5, 128, 80, 81, 82, 83, 84, 85, 86, 87, 811, 812, 813, 814, 815, 816, 817, 818, 819, 820] (by decide +kernel) (by decide +kernel)
set_option maxRecDepth 20000 in
theorem gL_law_X3_mastsOf : GoodIn wsL_law (wsV RL 155 RX3 yX3_mastsOf wsX3_mastsOf) := goodIn_app (goodIn_of _ (by decide +kernel)) ggL_law_X3_mastsOf
set_option maxRecDepth 20000 in
theorem ggL_law_L_isAway : GoodIn wsL_law wsL_isAway := goodIn_ca (goodIn_r _ [422, 95, 423, 424, 425, 2, 426, 20, 102, 103, 104, 105, 100, 101, 16, 109, 110, 111, 19, 112, 37, 107, 108, 808, 809, 810, 821, 822, 823, 824, 825, 826, 827, 828, 829, 830, 831, 832, 833, 834, 835, 836, 837, 838] (by decide +kernel) (by decide +kernel)) (goodIn_sub (fun _ h => List.mem_append_right _ h) (by decide +kernel))
set_option maxRecDepth 20000 in
theorem gL_law_L_isAway : GoodIn wsL_law (va_wsS RL 156 yL_isAway wsL_isAway) := goodIn_app (goodIn_of _ (by decide +kernel)) ggL_law_L_isAway
set_option maxRecDepth 20000 in
theorem ggL_law_X3_isAway : GoodIn wsL_law wsX3_isAway := goodIn_r _ [430, 431, 432, 433, 5, 434, 79, 52, 125, 126, 127, 128, 80, 81, 82, 83, 129, 130, 131, 84, 85, 86, 87, 811, 812, 813, 814, 815, 816, 817, 818, 819, 820] (by decide +kernel) (by decide +kernel)
set_option maxRecDepth 20000 in
theorem gL_law_X3_isAway : GoodIn wsL_law (wsV RL 158 RX3 yX3_isAway wsX3_isAway) := goodIn_app (goodIn_of _ (by decide +kernel)) ggL_law_X3_isAway
set_option maxRecDepth 20000 in
theorem ggL_law_L_isLost : GoodIn wsL_law wsL_isLost := goodIn_ca (goodIn_r _ [437, 95, 438, 439, 440, 2, 441, 20, 102, 103, 104, 105, 100, 101, 16, 109, 110, 111, 19, 112, 37, 107, 108, 808, 809, 810, 821, 822, 823, 824, 825, 826, 827, 828, 829, 830, 831, 832, 833, 834, 835, 836, 837, 838] (by decide +kernel) (by decide +kernel)) (goodIn_sub (fun _ h => List.mem_append_right _ h) (by decide +kernel))
set_option maxRecDepth 20000 in
theorem gL_law_L_isLost : GoodIn wsL_law (va_wsS RL 159 yL_isLost wsL_isLost) := goodIn_app (goodIn_of _ (by decide +kernel)) ggL_law_L_isLost
set_option maxRecDepth 20000 in
theorem ggL_law_X3_isLost : GoodIn wsL_law wsX3_isLost := goodIn_r _ [445, 431, 432, 433, 5, 434, 79, 52, 125, 126, 127, 128, 80, 81, 82, 83, 129, 130, 131, 84, 85, 86, 87, 811, 812, 813, 814, 815, 816, 817, 818, 819, 820] (by decide +kernel) (by decide +kernel)
set_option maxRecDepth 20000 in
theorem gL_law_X3_isLost : GoodIn wsL_law (wsV RL 161 RX3 yX3_isLost wsX3_isLost) := goodIn_app (goodIn_of _ (by decide +kernel)) ggL_law_X3_isLost
set_option maxRecDepth 20000 in
theorem ggL_law_L_nightsOut : GoodIn wsL_law wsL_nightsOut := goodIn_ca (goodIn_r _ [448, 95, 449, 450, 451, 2, 452, 20, 102, 103, 104, 105, 100, 101, 16, 106, 107, 108, 808, 809, 810, 829, 830, 831, 832, 833, 834, 835, 836, 837, 838, 821, 822, 823, 824, 825, 826, 827, 828] (by decide +kernel) (by decide +kernel)) (goodIn_sub (fun _ h => List.mem_append_right _ h) (by decide +kernel))
set_option maxRecDepth 20000 in
theorem gL_law_L_nightsOut : GoodIn wsL_law (va_wsS RL 162 yL_nightsOut wsL_nightsOut) := goodIn_app (goodIn_of _ (by decide +kernel)) ggL_law_L_nightsOut
set_option maxRecDepth 20000 in
theorem ggL_law_X3_nightsOut : GoodIn wsL_law wsX3_nightsOut := goodIn_r _ [456, 431, 432, 433, 5, 434, 79, 52, 125, 126, 127, 128, 80, 81, 82, 83, 129, 130, 131, 84, 85, 86, 87, 811, 812, 813, 814, 815, 816, 817, 818, 819, 820] (by decide +kernel) (by decide +kernel)
set_option maxRecDepth 20000 in
theorem gL_law_X3_nightsOut : GoodIn wsL_law (wsV RL 164 RX3 yX3_nightsOut wsX3_nightsOut) := goodIn_app (goodIn_of _ (by decide +kernel)) ggL_law_X3_nightsOut
set_option maxRecDepth 20000 in
theorem ggL_law_L_isRung : GoodIn wsL_law wsL_isRung := goodIn_ca (goodIn_r _ [459, 95, 460, 461, 462, 2, 463, 20, 102, 103, 104, 105, 100, 101, 16, 258, 259, 260, 808, 809, 810, 829, 830, 831, 832, 833, 834, 835, 836, 837, 838, 821, 822, 823, 824, 825, 826, 827, 828] (by decide +kernel) (by decide +kernel)) (goodIn_sub (fun _ h => List.mem_append_right _ h) (by decide +kernel))
set_option maxRecDepth 20000 in
theorem gL_law_L_isRung : GoodIn wsL_law (va_wsS RL 165 yL_isRung wsL_isRung) := goodIn_app (goodIn_of _ (by decide +kernel)) ggL_law_L_isRung
set_option maxRecDepth 20000 in
theorem ggL_law_X3_isRung : GoodIn wsL_law wsX3_isRung := goodIn_r _ [467, 431, 432, 433, 5, 434, 79, 52, 125, 126, 127, 128, 80, 81, 82, 83, 129, 130, 131, 84, 85, 86, 87, 811, 812, 813, 814, 815, 816, 817, 818, 819, 820] (by decide +kernel) (by decide +kernel)
set_option maxRecDepth 20000 in
theorem gL_law_X3_isRung : GoodIn wsL_law (wsV RL 167 RX3 yX3_isRung wsX3_isRung) := goodIn_app (goodIn_of _ (by decide +kernel)) ggL_law_X3_isRung
set_option maxRecDepth 20000 in
theorem ggL_law_L_trustIn : GoodIn wsL_law wsL_trustIn := goodIn_ca (goodIn_r _ [470, 95, 471, 472, 473, 2, 474, 20, 102, 103, 104, 105, 100, 101, 16, 475, 255, 256, 19, 257, 41, 211, 212, 213, 214, 42, 215, 216, 217, 107, 108, 808, 809, 810, 821, 822, 823, 824, 825, 826, 827, 828, 829, 830, 831, 832, 833, 834, 835, 836, 837, 838] (by decide +kernel) (by decide +kernel)) (goodIn_sub (fun _ h => List.mem_append_right _ h) (by decide +kernel))
set_option maxRecDepth 20000 in
theorem gL_law_L_trustIn : GoodIn wsL_law (va_wsS RL 168 yL_trustIn wsL_trustIn) := goodIn_app (goodIn_of _ (by decide +kernel)) ggL_law_L_trustIn
set_option maxRecDepth 20000 in
theorem ggL_law_X3_trustIn : GoodIn wsL_law wsX3_trustIn := goodIn_r _ [479, 79, 125, 126, 127, 5, 128, 80, 81, 82, 83, 281, 282, 283, 284, 149, 52, 227, 228, 229, 84, 85, 86, 87, 811, 812, 813, 814, 815, 816, 817, 818, 819, 820] (by decide +kernel) (by decide +kernel)
set_option maxRecDepth 20000 in
theorem gL_law_X3_trustIn : GoodIn wsL_law (wsV RL 170 RX3 yX3_trustIn wsX3_trustIn) := goodIn_app (goodIn_of _ (by decide +kernel)) ggL_law_X3_trustIn
set_option maxRecDepth 20000 in
theorem ggL_law_L_voters : GoodIn wsL_law wsL_voters := goodIn_ca (goodIn_r _ [482, 95, 483, 484, 485, 2, 486, 16, 102, 103, 104, 105, 100, 101, 487, 375, 376, 15, 377, 31, 302, 303, 304, 305, 28, 808, 809, 810, 821, 822, 823, 824, 825, 826, 827, 828] (by decide +kernel) (by decide +kernel)) (goodIn_sub (fun _ h => List.mem_append_right _ h) (by decide +kernel))
set_option maxRecDepth 20000 in
theorem gL_law_L_voters : GoodIn wsL_law (va_wsS RL 171 yL_voters wsL_voters) := goodIn_app (goodIn_of _ (by decide +kernel)) ggL_law_L_voters
set_option maxRecDepth 20000 in
theorem ggL_law_X3_voters_ : GoodIn wsL_law wsX3_voters_ := goodIn_r _ [491, 79, 125, 126, 127, 5, 128, 80, 81, 82, 83, 314, 315, 316, 317, 124, 49, 51, 52, 189, 190, 191, 84, 85, 86, 87, 811, 812, 813, 814, 815, 816, 817, 818, 819, 820] (by decide +kernel) (by decide +kernel)
set_option maxRecDepth 20000 in
theorem gL_law_X3_voters_ : GoodIn wsL_law (wsV RL 173 RX3 yX3_voters_ wsX3_voters_) := goodIn_app (goodIn_of _ (by decide +kernel)) ggL_law_X3_voters_
set_option maxRecDepth 20000 in
theorem ggL_law_L_votesForLost : GoodIn wsL_law wsL_votesForLost := goodIn_ca (goodIn_r _ [494, 95, 495, 496, 497, 2, 498, 16, 102, 103, 104, 105, 100, 101, 298, 299, 300, 15, 301, 32, 302, 303, 304, 305, 28, 808, 809, 810, 821, 822, 823, 824, 825, 826, 827, 828] (by decide +kernel) (by decide +kernel)) (goodIn_sub (fun _ h => List.mem_append_right _ h) (by decide +kernel))
set_option maxRecDepth 20000 in
theorem gL_law_L_votesForLost : GoodIn wsL_law (va_wsS RL 174 yL_votesForLost wsL_votesForLost) := goodIn_app (goodIn_of _ (by decide +kernel)) ggL_law_L_votesForLost
set_option maxRecDepth 20000 in
theorem ggL_law_X3_votesForLost : GoodIn wsL_law wsX3_votesForLost := goodIn_r _ [502, 79, 125, 126, 127, 5, 128, 80, 81, 82, 83, 314, 315, 316, 317, 124, 49, 51, 52, 189, 190, 191, 84, 85, 86, 87, 811, 812, 813, 814, 815, 816, 817, 818, 819, 820] (by decide +kernel) (by decide +kernel)
set_option maxRecDepth 20000 in
theorem gL_law_X3_votesForLost : GoodIn wsL_law (wsV RL 176 RX3 yX3_votesForLost wsX3_votesForLost) := goodIn_app (goodIn_of _ (by decide +kernel)) ggL_law_X3_votesForLost
set_option maxRecDepth 20000 in
theorem ggL_law_L_votesMissing : GoodIn wsL_law wsL_votesMissing := goodIn_ca (goodIn_r _ [505, 95, 506, 507, 508, 2, 509, 16, 102, 103, 104, 105, 100, 101, 510, 370, 371, 15, 372, 373, 349, 209, 350, 374, 375, 376, 377, 31, 302, 303, 304, 305, 28, 378, 299, 300, 301, 32, 808, 809, 810, 821, 822, 823, 824, 825, 826, 827, 828] (by decide +kernel) (by decide +kernel)) (goodIn_sub (fun _ h => List.mem_append_right _ h) (by decide +kernel))
set_option maxRecDepth 20000 in
theorem gL_law_L_votesMissing : GoodIn wsL_law (va_wsS RL 177 yL_votesMissing wsL_votesMissing) := goodIn_app (goodIn_of _ (by decide +kernel)) ggL_law_L_votesMissing
set_option maxRecDepth 20000 in
theorem ggL_law_X3_votesMissing : GoodIn wsL_law wsX3_votesMissing := goodIn_r _ [514, 79, 392, 349, 209, 350, 125, 126, 127, 5, 128, 80, 81, 82, 83, 314, 315, 316, 317, 124, 49, 51, 52, 189, 190, 191, 84, 85, 86, 87, 811, 812, 813, 814, 815, 816, 817, 818, 819, 820] (by decide +kernel) (by decide +kernel)
set_option maxRecDepth 20000 in
theorem gL_law_X3_votesMissing : GoodIn wsL_law (wsV RL 179 RX3 yX3_votesMissing wsX3_votesMissing) := goodIn_app (goodIn_of _ (by decide +kernel)) ggL_law_X3_votesMissing
set_option maxRecDepth 20000 in
theorem ggL_law_X2_sailors : GoodIn wsL_law wsX2_sailors := goodIn_r _ [518, 16, 808, 809, 810, 821, 822, 823, 824, 825, 826, 827, 828] (by decide +kernel) (by decide +kernel)
set_option maxRecDepth 20000 in
theorem gL_law_X2_sailors : GoodIn wsL_law (wsV RL 180 RX2 yX2_sailors wsX2_sailors) := goodIn_app (goodIn_of _ (by decide +kernel)) ggL_law_X2_sailors
set_option maxRecDepth 20000 in
theorem ggL_law_X3_sailors : GoodIn wsL_law wsX3_sailors := goodIn_r _ [522, 124, 405, 406, 407, 5, 408, 79, 811, 812, 813, 814, 815, 816, 817, 818, 819, 820] (by decide +kernel) (by decide +kernel)
set_option maxRecDepth 20000 in
theorem gL_law_X3_sailors : GoodIn wsL_law (wsV RL 183 RX3 yX3_sailors wsX3_sailors) := goodIn_app (goodIn_of _ (by decide +kernel)) ggL_law_X3_sailors
set_option maxRecDepth 20000 in
theorem ggL_law_L_shipOf : GoodIn wsL_law wsL_shipOf := goodIn_ca (goodIn_r _ [525, 95, 526, 527, 528, 2, 529, 16, 292, 293, 294, 295, 100, 101, 296, 177, 178, 15, 179, 28, 808, 809, 810, 821, 822, 823, 824, 825, 826, 827, 828] (by decide +kernel) (by decide +kernel)) (goodIn_sub (fun _ h => List.mem_append_right _ h) (by decide +kernel))
set_option maxRecDepth 20000 in
theorem gL_law_L_shipOf : GoodIn wsL_law (va_wsS RL 184 yL_shipOf wsL_shipOf) := goodIn_app (goodIn_of _ (by decide +kernel)) ggL_law_L_shipOf
set_option maxRecDepth 20000 in
theorem ggL_law_X3_shipOf : GoodIn wsL_law wsX3_shipOf := goodIn_r _ [533, 79, 49, 310, 311, 312, 5, 313, 124, 81, 82, 83, 84, 85, 86, 87, 811, 812, 813, 814, 815, 816, 817, 818, 819, 820] (by decide +kernel) (by decide +kernel)
set_option maxRecDepth 20000 in
theorem gL_law_X3_shipOf : GoodIn wsL_law (wsV RL 186 RX3 yX3_shipOf wsX3_shipOf) := goodIn_app (goodIn_of _ (by decide +kernel)) ggL_law_X3_shipOf
set_option maxRecDepth 20000 in
theorem ggL_law_L_mastOf : GoodIn wsL_law wsL_mastOf := goodIn_ca (goodIn_r _ [536, 95, 537, 538, 539, 2, 540, 16, 292, 293, 294, 295, 100, 101, 106, 107, 108, 808, 809, 810, 821, 822, 823, 824, 825, 826, 827, 828] (by decide +kernel) (by decide +kernel)) (goodIn_sub (fun _ h => List.mem_append_right _ h) (by decide +kernel))
set_option maxRecDepth 20000 in
theorem gL_law_L_mastOf : GoodIn wsL_law (va_wsS RL 187 yL_mastOf wsL_mastOf) := goodIn_app (goodIn_of _ (by decide +kernel)) ggL_law_L_mastOf
set_option maxRecDepth 20000 in
theorem ggL_law_X3_mastOf : GoodIn wsL_law wsX3_mastOf := goodIn_r _ [544, 79, 50, 310, 311, 312, 5, 313, 124, 81, 82, 83, 84, 85, 86, 87, 811, 812, 813, 814, 815, 816, 817, 818, 819, 820] (by decide +kernel) (by decide +kernel)
set_option maxRecDepth 20000 in
theorem gL_law_X3_mastOf : GoodIn wsL_law (wsV RL 189 RX3 yX3_mastOf wsX3_mastOf) := goodIn_app (goodIn_of _ (by decide +kernel)) ggL_law_X3_mastOf
set_option maxRecDepth 20000 in
theorem ggL_law_L_hasVoter : GoodIn wsL_law wsL_hasVoter := goodIn_ca (goodIn_r _ [547, 95, 548, 549, 550, 2, 551, 16, 292, 293, 294, 295, 100, 101, 258, 259, 260, 808, 809, 810, 821, 822, 823, 824, 825, 826, 827, 828] (by decide +kernel) (by decide +kernel)) (goodIn_sub (fun _ h => List.mem_append_right _ h) (by decide +kernel))
set_option maxRecDepth 20000 in
theorem gL_law_L_hasVoter : GoodIn wsL_law (va_wsS RL 190 yL_hasVoter wsL_hasVoter) := goodIn_app (goodIn_of _ (by decide +kernel)) ggL_law_L_hasVoter
set_option maxRecDepth 20000 in
theorem ggL_law_X3_hasVoter : GoodIn wsL_law wsX3_hasVoter := goodIn_r _ [555, 79, 51, 310, 311, 312, 5, 313, 124, 81, 82, 83, 556, 557, 558, 559, 811, 812, 813, 814, 815, 816, 817, 818, 819, 820] (by decide +kernel) (by decide +kernel)
set_option maxRecDepth 20000 in
theorem gL_law_X3_hasVoter : GoodIn wsL_law (wsV RL 192 RX3 yX3_hasVoter wsX3_hasVoter) := goodIn_app (goodIn_of _ (by decide +kernel)) ggL_law_X3_hasVoter
set_option maxRecDepth 20000 in
theorem ggL_law_L_isGivenUp : GoodIn wsL_law wsL_isGivenUp := goodIn_ca (goodIn_r _ [562, 95, 563, 564, 565, 2, 566, 16, 292, 293, 294, 295, 100, 101, 258, 259, 260, 808, 809, 810, 821, 822, 823, 824, 825, 826, 827, 828] (by decide +kernel) (by decide +kernel)) (goodIn_sub (fun _ h => List.mem_append_right _ h) (by decide +kernel))
set_option maxRecDepth 20000 in
theorem gL_law_L_isGivenUp : GoodIn wsL_law (va_wsS RL 193 yL_isGivenUp wsL_isGivenUp) := goodIn_app (goodIn_of _ (by decide +kernel)) ggL_law_L_isGivenUp
set_option maxRecDepth 20000 in
theorem ggL_law_X3_isGivenUp : GoodIn wsL_law wsX3_isGivenUp := goodIn_r _ [570, 79, 52, 310, 311, 312, 5, 313, 124, 81, 82, 83, 189, 190, 191, 556, 557, 558, 559, 811, 812, 813, 814, 815, 816, 817, 818, 819, 820] (by decide +kernel) (by decide +kernel)
set_option maxRecDepth 20000 in
theorem gL_law_X3_isGivenUp : GoodIn wsL_law (wsV RL 195 RX3 yX3_isGivenUp wsX3_isGivenUp) := goodIn_app (goodIn_of _ (by decide +kernel)) ggL_law_X3_isGivenUp
set_option maxRecDepth 20000 in
theorem ggL_law_L_candleOf : GoodIn wsL_law wsL_candleOf := goodIn_ca (goodIn_r _ [573, 95, 574, 575, 576, 2, 577, 20, 292, 293, 294, 295, 100, 101, 16, 106, 107, 108, 808, 809, 810, 829, 830, 831, 832, 833, 834, 835, 836, 837, 838, 821, 822, 823, 824, 825, 826, 827, 828] (by decide +kernel) (by decide +kernel)) (goodIn_sub (fun _ h => List.mem_append_right _ h) (by decide +kernel))
set_option maxRecDepth 20000 in
theorem gL_law_L_candleOf : GoodIn wsL_law (va_wsS RL 196 yL_candleOf wsL_candleOf) := goodIn_app (goodIn_of _ (by decide +kernel)) ggL_law_L_candleOf
set_option maxRecDepth 20000 in
theorem ggL_law_X3_candleOf : GoodIn wsL_law wsX3_candleOf := goodIn_r _ [581, 79, 52, 310, 311, 312, 5, 313, 124, 81, 82, 83, 189, 190, 191, 84, 85, 86, 87, 811, 812, 813, 814, 815, 816, 817, 818, 819, 820] (by decide +kernel) (by decide +kernel)
set_option maxRecDepth 20000 in
theorem gL_law_X3_candleOf : GoodIn wsL_law (wsV RL 198 RX3 yX3_candleOf wsX3_candleOf) := goodIn_app (goodIn_of _ (by decide +kernel)) ggL_law_X3_candleOf
set_option maxRecDepth 20000 in
theorem ggL_law_L_isDark : GoodIn wsL_law wsL_isDark := goodIn_ca (goodIn_r _ [584, 95, 585, 586, 587, 2, 588, 20, 292, 293, 294, 295, 100, 101, 16, 589, 590, 591, 19, 592, 43, 40, 176, 177, 178, 15, 179, 28, 360, 110, 111, 112, 37, 107, 108, 808, 809, 810, 821, 822, 823, 824, 825, 826, 827, 828, 829, 830, 831, 832, 833, 834, 835, 836, 837, 838] (by decide +kernel) (by decide +kernel)) (goodIn_sub (fun _ h => List.mem_append_right _ h) (by decide +kernel))
set_option maxRecDepth 20000 in
theorem gL_law_L_isDark : GoodIn wsL_law (va_wsS RL 199 yL_isDark wsL_isDark) := goodIn_app (goodIn_of _ (by decide +kernel)) ggL_law_L_isDark
set_option maxRecDepth 20000 in
theorem ggL_law_X3_isDark : GoodIn wsL_law wsX3_isDark := goodIn_r _ [596, 79, 310, 311, 312, 5, 313, 124, 81, 82, 83, 597, 598, 599, 600, 49, 52, 273, 274, 275, 276, 129, 130, 131, 189, 190, 191, 556, 557, 558, 559, 811, 812, 813, 814, 815, 816, 817, 818, 819, 820] (by decide +kernel) (by decide +kernel)
set_option maxRecDepth 20000 in
theorem gL_law_X3_isDark : GoodIn wsL_law (wsV RL 201 RX3 yX3_isDark wsX3_isDark) := goodIn_app (goodIn_of _ (by decide +kernel)) ggL_law_X3_isDark
set_option maxRecDepth 20000 in
theorem ggL_law_X2_watchers : GoodIn wsL_law wsX2_watchers := goodIn_r _ [604, 16, 808, 809, 810, 821, 822, 823, 824, 825, 826, 827, 828] (by decide +kernel) (by decide +kernel)
set_option maxRecDepth 20000 in
theorem gL_law_X2_watchers : GoodIn wsL_law (wsV RL 202 RX2 yX2_watchers wsX2_watchers) := goodIn_app (goodIn_of _ (by decide +kernel)) ggL_law_X2_watchers
set_option maxRecDepth 20000 in
theorem ggL_law_X3_watchers : GoodIn wsL_law wsX3_watchers := goodIn_r _ [608, 149, 405, 406, 407, 5, 408, 79, 811, 812, 813, 814, 815, 816, 817, 818, 819, 820] (by decide +kernel) (by decide +kernel)
set_option maxRecDepth 20000 in
theorem gL_law_X3_watchers : GoodIn wsL_law (wsV RL 205 RX3 yX3_watchers wsX3_watchers) := goodIn_app (goodIn_of _ (by decide +kernel)) ggL_law_X3_watchers
set_option maxRecDepth 20000 in
theorem ggL_law_L_trustOf : GoodIn wsL_law wsL_trustOf := goodIn_ca (goodIn_r _ [611, 95, 612, 613, 614, 2, 615, 20, 245, 246, 247, 248, 100, 101, 16, 106, 107, 108, 808, 809, 810, 829, 830, 831, 832, 833, 834, 835, 836, 837, 838, 821, 822, 823, 824, 825, 826, 827, 828] (by decide +kernel) (by decide +kernel)) (goodIn_sub (fun _ h => List.mem_append_right _ h) (by decide +kernel))
set_option maxRecDepth 20000 in
theorem gL_law_L_trustOf : GoodIn wsL_law (va_wsS RL 206 yL_trustOf wsL_trustOf) := goodIn_app (goodIn_of _ (by decide +kernel)) ggL_law_L_trustOf
set_option maxRecDepth 20000 in
theorem ggL_law_X3_trustOf : GoodIn wsL_law wsX3_trustOf := goodIn_r _ [619, 79, 52, 269, 270, 271, 5, 272, 149, 81, 82, 83, 84, 85, 86, 87, 811, 812, 813, 814, 815, 816, 817, 818, 819, 820] (by decide +kernel) (by decide +kernel)
set_option maxRecDepth 20000 in
theorem gL_law_X3_trustOf : GoodIn wsL_law (wsV RL 208 RX3 yX3_trustOf wsX3_trustOf) := goodIn_app (goodIn_of _ (by decide +kernel)) ggL_law_X3_trustOf
set_option maxRecDepth 20000 in
theorem ggL_law_X2_sightings : GoodIn wsL_law wsX2_sightings := goodIn_r _ [623, 20, 624, 625, 626, 19, 627, 42, 808, 809, 810, 829, 830, 831, 832, 833, 834, 835, 836, 837, 838] (by decide +kernel) (by decide +kernel)
set_option maxRecDepth 20000 in
theorem gL_law_X2_sightings : GoodIn wsL_law (wsV RL 209 RX2 yX2_sightings wsX2_sightings) := goodIn_app (goodIn_of _ (by decide +kernel)) ggL_law_X2_sightings
set_option maxRecDepth 20000 in
theorem ggL_law_X3_sightings : GoodIn wsL_law wsX3_sightings := goodIn_r _ [631, 632, 633, 634, 5, 635, 52, 405, 406, 407, 408, 79, 811, 812, 813, 814, 815, 816, 817, 818, 819, 820] (by decide +kernel) (by decide +kernel)
set_option maxRecDepth 20000 in
theorem gL_law_X3_sightings : GoodIn wsL_law (wsV RL 212 RX3 yX3_sightings wsX3_sightings) := goodIn_app (goodIn_of _ (by decide +kernel)) ggL_law_X3_sightings
set_option maxRecDepth 20000 in
theorem ggL_law_X2_night : GoodIn wsL_law wsX2_night := goodIn_r _ [639, 20, 808, 809, 810, 829, 830, 831, 832, 833, 834, 835, 836, 837, 838] (by decide +kernel) (by decide +kernel)
set_option maxRecDepth 20000 in
theorem gL_law_X2_night : GoodIn wsL_law (wsV RL 213 RX2 yX2_night wsX2_night) := goodIn_app (goodIn_of _ (by decide +kernel)) ggL_law_X2_night
set_option maxRecDepth 20000 in
theorem ggL_law_X3_night : GoodIn wsL_law wsX3_night := goodIn_r _ [643, 52, 405, 406, 407, 5, 408, 79, 811, 812, 813, 814, 815, 816, 817, 818, 819, 820] (by decide +kernel) (by decide +kernel)
set_option maxRecDepth 20000 in
theorem gL_law_X3_night : GoodIn wsL_law (wsV RL 216 RX3 yX3_night wsX3_night) := goodIn_app (goodIn_of _ (by decide +kernel)) ggL_law_X3_night
set_option maxRecDepth 20000 in
theorem ggL_law_X2_wax : GoodIn wsL_law wsX2_wax := goodIn_r _ [647, 20, 808, 809, 810, 829, 830, 831, 832, 833, 834, 835, 836, 837, 838] (by decide +kernel) (by decide +kernel)
set_option maxRecDepth 20000 in
theorem gL_law_X2_wax : GoodIn wsL_law (wsV RL 217 RX2 yX2_wax wsX2_wax) := goodIn_app (goodIn_of _ (by decide +kernel)) ggL_law_X2_wax
set_option maxRecDepth 20000 in
theorem ggL_law_X3_wax : GoodIn wsL_law wsX3_wax := goodIn_r _ [651, 52, 405, 406, 407, 5, 408, 79, 811, 812, 813, 814, 815, 816, 817, 818, 819, 820] (by decide +kernel) (by decide +kernel)
set_option maxRecDepth 20000 in
theorem gL_law_X3_wax : GoodIn wsL_law (wsV RL 220 RX3 yX3_wax wsX3_wax) := goodIn_app (goodIn_of _ (by decide +kernel)) ggL_law_X3_wax
set_option maxRecDepth 20000 in
theorem ggL_law_X2_darkCandles : GoodIn wsL_law wsX2_darkCandles := goodIn_r _ [655, 20, 656, 657, 658, 19, 659, 660, 590, 591, 592, 43, 40, 176, 177, 178, 15, 179, 28, 360, 110, 111, 112, 37, 107, 2, 108, 808, 809, 810, 829, 830, 831, 832, 833, 834, 835, 836, 837, 838, 821, 822, 823, 824, 825, 826, 827, 828] (by decide +kernel) (by decide +kernel)
set_option maxRecDepth 20000 in
theorem gL_law_X2_darkCandles : GoodIn wsL_law (wsV RL 221 RX2 yX2_darkCandles wsX2_darkCandles) := goodIn_app (goodIn_of _ (by decide +kernel)) ggL_law_X2_darkCandles
set_option maxRecDepth 20000 in
theorem ggL_law_X3_darkCandles : GoodIn wsL_law wsX3_darkCandles := goodIn_r _ [664, 665, 666, 667, 5, 668, 124, 597, 598, 599, 600, 49, 52, 273, 274, 275, 276, 129, 130, 131, 189, 190, 191, 405, 406, 407, 408, 79, 811, 812, 813, 814, 815, 816, 817, 818, 819, 820] (by decide +kernel) (by decide +kernel)
set_option maxRecDepth 20000 in
theorem gL_law_X3_darkCandles : GoodIn wsL_law (wsV RL 224 RX3 yX3_darkCandles wsX3_darkCandles) := goodIn_app (goodIn_of _ (by decide +kernel)) ggL_law_X3_darkCandles
set_option maxRecDepth 20000 in
theorem ggL_law_X2_bellsUnrung : GoodIn wsL_law wsX2_bellsUnrung := goodIn_r _ [672, 20, 808, 809, 810, 829, 830, 831, 832, 833, 834, 835, 836, 837, 838] (by decide +kernel) (by decide +kernel)
set_option maxRecDepth 20000 in
theorem gL_law_X2_bellsUnrung : GoodIn wsL_law (wsV RL 225 RX2 yX2_bellsUnrung wsX2_bellsUnrung) := goodIn_app (goodIn_of _ (by decide +kernel)) ggL_law_X2_bellsUnrung
set_option maxRecDepth 20000 in
theorem ggL_law_X3_bellsUnrung : GoodIn wsL_law wsX3_bellsUnrung := goodIn_r _ [676, 52, 405, 406, 407, 5, 408, 79, 811, 812, 813, 814, 815, 816, 817, 818, 819, 820] (by decide +kernel) (by decide +kernel)
set_option maxRecDepth 20000 in
theorem gL_law_X3_bellsUnrung : GoodIn wsL_law (wsV RL 228 RX3 yX3_bellsUnrung wsX3_bellsUnrung) := goodIn_app (goodIn_of _ (by decide +kernel)) ggL_law_X3_bellsUnrung
set_option maxRecDepth 20000 in
theorem ggL_law_X2_namesOnWall : GoodIn wsL_law wsX2_namesOnWall := goodIn_r _ [680, 20, 681, 682, 683, 19, 684, 43, 176, 177, 178, 15, 179, 28, 360, 110, 111, 112, 37, 107, 2, 108, 808, 809, 810, 829, 830, 831, 832, 833, 834, 835, 836, 837, 838, 821, 822, 823, 824, 825, 826, 827, 828] (by decide +kernel) (by decide +kernel)
set_option maxRecDepth 20000 in
theorem gL_law_X2_namesOnWall : GoodIn wsL_law (wsV RL 229 RX2 yX2_namesOnWall wsX2_namesOnWall) := goodIn_app (goodIn_of _ (by decide +kernel)) ggL_law_X2_namesOnWall
set_option maxRecDepth 20000 in
theorem ggL_law_X3_namesOnWall : GoodIn wsL_law wsX3_namesOnWall := goodIn_r _ [688, 689, 690, 691, 5, 692, 124, 52, 49, 129, 130, 131, 405, 406, 407, 408, 79, 811, 812, 813, 814, 815, 816, 817, 818, 819, 820] (by decide +kernel) (by decide +kernel)
set_option maxRecDepth 20000 in
theorem gL_law_X3_namesOnWall : GoodIn wsL_law (wsV RL 232 RX3 yX3_namesOnWall wsX3_namesOnWall) := goodIn_app (goodIn_of _ (by decide +kernel)) ggL_law_X3_namesOnWall
set_option maxRecDepth 20000 in
theorem ggL_law_L_wouldRing : GoodIn wsL_law wsL_wouldRing := goodIn_ca (goodIn_ca (goodIn_r _ [695, 95, 59, 696, 697, 698, 2, 699, 20, 241, 242, 243, 244, 66, 67, 245, 246, 247, 248, 100, 101, 16, 102, 103, 104, 105, 109, 110, 111, 19, 112, 37, 107, 108, 249, 212, 213, 214, 42, 215, 216, 217, 258, 259, 260, 475, 255, 256, 257, 41, 211, 106, 808, 809, 810, 829, 830, 831, 832, 833, 834, 835, 836, 837, 838, 821, 822, 823, 824, 825, 826, 827, 828] (by decide +kernel) (by decide +kernel)) (goodIn_sub (fun _ h => List.mem_append_left _ (List.mem_append_right _ h)) (by decide +kernel))) (goodIn_sub (fun _ h => List.mem_append_right _ h) (by decide +kernel))
set_option maxRecDepth 20000 in
theorem gL_law_L_wouldRing : GoodIn wsL_law (va_wsS RL 233 yL_wouldRing wsL_wouldRing) := goodIn_app (goodIn_of _ (by decide +kernel)) ggL_law_L_wouldRing
set_option maxRecDepth 20000 in
theorem ggL_law_X3_wouldRing : GoodIn wsL_law wsX3_wouldRing := goodIn_r _ [703, 265, 266, 267, 5, 268, 52, 79, 269, 270, 271, 272, 149, 81, 82, 83, 125, 126, 127, 128, 80, 273, 274, 275, 276, 129, 130, 131, 227, 228, 229, 704, 705, 706, 707, 53, 708, 709, 710, 711, 277, 278, 279, 280, 281, 282, 283, 284, 712, 713, 714, 715, 811, 812, 813, 814, 815, 816, 817, 818, 819, 820] (by decide +kernel) (by decide +kernel)
set_option maxRecDepth 20000 in
theorem gL_law_X3_wouldRing : GoodIn wsL_law (wsV RL 235 RX3 yX3_wouldRing wsX3_wouldRing) := goodIn_app (goodIn_of _ (by decide +kernel)) ggL_law_X3_wouldRing
set_option maxRecDepth 20000 in
theorem ggL_law_L_nightsUntilUnrung : GoodIn wsL_law wsL_nightsUntilUnrung := goodIn_ca (goodIn_ca (goodIn_r _ [718, 95, 59, 719, 720, 721, 2, 722, 66, 67, 20, 21, 102, 103, 104, 105, 100, 101, 16, 258, 259, 260, 723, 724, 725, 19, 726, 37, 38, 39, 40, 41, 42, 336, 184, 355, 727, 728, 729, 730, 731, 333, 334, 335, 337, 338, 339, 340, 341, 342, 343, 344, 345, 346, 347, 348, 349, 209, 350, 107, 108, 73, 74, 351, 352, 353, 354, 254, 255, 256, 257, 211, 212, 213, 214, 215, 216, 217, 118, 119, 356, 357, 358, 359, 43, 176, 177, 178, 15, 179, 28, 360, 110, 111, 112, 361, 362, 363, 364, 180, 181, 182, 183, 365, 366, 367, 368, 369, 370, 371, 372, 373, 374, 375, 376, 377, 31, 302, 303, 304, 305, 378, 299, 300, 301, 32, 379, 219, 220, 221, 808, 809, 810, 829, 830, 831, 832, 833, 834, 835, 836, 837, 838, 821, 822, 823, 824, 825, 826, 827, 828] (by decide +kernel) (by decide +kernel)) (goodIn_sub (fun _ h => List.mem_append_left _ (List.mem_append_right _ h)) (by decide +kernel))) (goodIn_sub (fun _ h => List.mem_append_right _ h) (by decide +kernel))
set_option maxRecDepth 20000 in
theorem gL_law_L_nightsUntilUnrung : GoodIn wsL_law (va_wsS RL 236 yL_nightsUntilUnrung wsL_nightsUntilUnrung) := goodIn_app (goodIn_of _ (by decide +kernel)) ggL_law_L_nightsUntilUnrung
set_option maxRecDepth 20000 in
theorem ggL_law_X3_nightsUntilUnrung : GoodIn wsL_law wsX3_nightsUntilUnrung := goodIn_r _ [735, 79, 52, 125, 126, 127, 5, 128, 80, 81, 82, 83, 84, 85, 86, 87, 129, 130, 131, 704, 705, 706, 707, 53, 708, 709, 710, 711, 384, 385, 386, 387, 124, 388, 389, 390, 391, 149, 392, 349, 209, 350, 227, 228, 229, 281, 282, 283, 284, 393, 394, 395, 396, 49, 50, 273, 274, 275, 276, 189, 190, 191, 192, 193, 194, 195, 314, 315, 316, 317, 51, 230, 231, 232, 233, 712, 713, 714, 715, 811, 812, 813, 814, 815, 816, 817, 818, 819, 820] (by decide +kernel) (by decide +kernel)
set_option maxRecDepth 20000 in
theorem gL_law_X3_nightsUntilUnrung : GoodIn wsL_law (wsV RL 238 RX3 yX3_nightsUntilUnrung wsX3_nightsUntilUnrung) := goodIn_app (goodIn_of _ (by decide +kernel)) ggL_law_X3_nightsUntilUnrung
set_option maxRecDepth 20000 in
theorem ggL_law_X2_nightsUntilDark : GoodIn wsL_law wsX2_nightsUntilDark := goodIn_r _ [739, 21, 20, 723, 724, 725, 19, 726, 37, 38, 39, 40, 41, 42, 336, 184, 355, 727, 2, 728, 729, 730, 656, 657, 658, 659, 660, 590, 591, 592, 43, 176, 177, 178, 15, 179, 28, 360, 110, 111, 112, 107, 108, 731, 333, 334, 335, 337, 338, 339, 340, 341, 342, 343, 344, 345, 346, 347, 348, 349, 209, 350, 73, 74, 351, 352, 353, 354, 259, 260, 254, 255, 256, 257, 211, 212, 213, 214, 215, 216, 217, 118, 119, 356, 357, 358, 359, 361, 362, 363, 364, 180, 181, 182, 183, 365, 366, 367, 368, 369, 370, 371, 372, 373, 374, 375, 376, 377, 31, 302, 303, 304, 305, 378, 299, 300, 301, 32, 379, 219, 220, 221, 808, 809, 810, 829, 830, 831, 832, 833, 834, 835, 836, 837, 838, 821, 822, 823, 824, 825, 826, 827, 828] (by decide +kernel) (by decide +kernel)
set_option maxRecDepth 20000 in
theorem gL_law_X2_nightsUntilDark : GoodIn wsL_law (wsV RL 239 RX2 yX2_nightsUntilDark wsX2_nightsUntilDark) := goodIn_app (goodIn_of _ (by decide +kernel)) ggL_law_X2_nightsUntilDark
set_option maxRecDepth 20000 in
theorem ggL_law_X3_nightsUntilDark : GoodIn wsL_law wsX3_nightsUntilDark := goodIn_r _ [743, 79, 704, 705, 706, 5, 707, 52, 53, 708, 709, 710, 711, 665, 666, 667, 668, 124, 597, 598, 599, 600, 49, 273, 274, 275, 276, 129, 130, 131, 189, 190, 191, 384, 385, 386, 387, 80, 388, 389, 390, 391, 149, 392, 349, 209, 350, 227, 228, 229, 281, 282, 283, 284, 393, 394, 395, 396, 50, 192, 193, 194, 195, 314, 315, 316, 317, 51, 230, 231, 232, 233, 712, 713, 714, 715, 811, 812, 813, 814, 815, 816, 817, 818, 819, 820] (by decide +kernel) (by decide +kernel)
set_option maxRecDepth 20000 in
theorem gL_law_X3_nightsUntilDark : GoodIn wsL_law (wsV RL 242 RX3 yX3_nightsUntilDark wsX3_nightsUntilDark) := goodIn_app (goodIn_of _ (by decide +kernel)) ggL_law_X3_nightsUntilDark
set_option maxRecDepth 20000 in
theorem ggL_law_L_waxAfter : GoodIn wsL_law wsL_waxAfter := goodIn_ca (goodIn_r _ [746, 58, 747, 748, 749, 2, 750, 21, 20, 325, 326, 327, 64, 65, 723, 724, 725, 19, 726, 37, 38, 39, 40, 41, 42, 336, 184, 355, 727, 728, 729, 730, 328, 329, 330, 331, 332, 333, 334, 335, 337, 338, 339, 340, 341, 342, 343, 344, 345, 346, 347, 348, 349, 209, 350, 107, 108, 73, 74, 351, 352, 353, 354, 259, 260, 254, 255, 256, 257, 211, 212, 213, 214, 215, 216, 217, 118, 119, 356, 357, 358, 359, 43, 176, 177, 178, 15, 179, 28, 360, 110, 111, 112, 361, 362, 363, 364, 180, 181, 182, 183, 365, 366, 367, 368, 369, 370, 371, 372, 373, 374, 375, 376, 377, 31, 302, 303, 304, 305, 378, 299, 300, 301, 32, 379, 219, 220, 221, 808, 809, 810, 829, 830, 831, 832, 833, 834, 835, 836, 837, 838, 821, 822, 823, 824, 825, 826, 827, 828] (by decide +kernel) (by decide +kernel)) (goodIn_sub (fun _ h => List.mem_append_left _ (List.mem_append_left _ (List.mem_append_right _ h))) (by decide +kernel))
set_option maxRecDepth 20000 in
theorem gL_law_L_waxAfter : GoodIn wsL_law (va_wsS RL 243 yL_waxAfter wsL_waxAfter) := goodIn_app (goodIn_of _ (by decide +kernel)) ggL_law_L_waxAfter
set_option maxRecDepth 20000 in
theorem ggL_law_X3_waxAfter : GoodIn wsL_law wsX3_waxAfter := goodIn_r _ [754, 79, 52, 81, 82, 5, 83, 84, 85, 86, 87, 704, 705, 706, 707, 53, 708, 709, 710, 711, 384, 385, 386, 387, 80, 124, 388, 389, 390, 391, 149, 392, 349, 209, 350, 227, 228, 229, 129, 130, 131, 281, 282, 283, 284, 393, 394, 395, 396, 49, 50, 273, 274, 275, 276, 189, 190, 191, 192, 193, 194, 195, 314, 315, 316, 317, 51, 230, 231, 232, 233, 712, 713, 714, 715, 811, 812, 813, 814, 815, 816, 817, 818, 819, 820] (by decide +kernel) (by decide +kernel)
set_option maxRecDepth 20000 in
theorem gL_law_X3_waxAfter : GoodIn wsL_law (wsV RL 245 RX3 yX3_waxAfter wsX3_waxAfter) := goodIn_app (goodIn_of _ (by decide +kernel)) ggL_law_X3_waxAfter
set_option maxRecDepth 20000 in
theorem ggL_law_L_waxWanted : GoodIn wsL_law wsL_waxWanted := goodIn_ca (goodIn_r _ [757, 58, 758, 759, 760, 2, 761, 325, 326, 327, 64, 65, 762, 763, 764, 765, 21, 20, 723, 724, 725, 19, 726, 37, 38, 39, 40, 41, 42, 336, 184, 355, 727, 728, 729, 730, 731, 333, 334, 335, 337, 338, 339, 340, 341, 342, 343, 344, 345, 346, 347, 348, 349, 209, 350, 107, 108, 73, 74, 351, 352, 353, 354, 259, 260, 254, 255, 256, 257, 211, 212, 213, 214, 215, 216, 217, 118, 119, 356, 357, 358, 359, 43, 176, 177, 178, 15, 179, 28, 360, 110, 111, 112, 361, 362, 363, 364, 180, 181, 182, 183, 365, 366, 367, 368, 369, 370, 371, 372, 373, 374, 375, 376, 377, 31, 302, 303, 304, 305, 378, 299, 300, 301, 32, 379, 219, 220, 221, 656, 657, 658, 659, 660, 590, 591, 592, 808, 809, 810, 829, 830, 831, 832, 833, 834, 835, 836, 837, 838, 821, 822, 823, 824, 825, 826, 827, 828] (by decide +kernel) (by decide +kernel)) (goodIn_sub (fun _ h => List.mem_append_left _ (List.mem_append_left _ (List.mem_append_right _ h))) (by decide +kernel))
set_option maxRecDepth 20000 in
theorem gL_law_L_waxWanted : GoodIn wsL_law (va_wsS RL 246 yL_waxWanted wsL_waxWanted) := goodIn_app (goodIn_of _ (by decide +kernel)) ggL_law_L_waxWanted
set_option maxRecDepth 20000 in
theorem ggL_law_X3_waxWanted : GoodIn wsL_law wsX3_waxWanted := goodIn_r _ [769, 79, 81, 82, 5, 83, 84, 85, 86, 87, 770, 771, 772, 773, 52, 704, 705, 706, 707, 53, 708, 709, 710, 711, 384, 385, 386, 387, 80, 124, 388, 389, 390, 391, 149, 392, 349, 209, 350, 227, 228, 229, 129, 130, 131, 281, 282, 283, 284, 393, 394, 395, 396, 49, 50, 273, 274, 275, 276, 189, 190, 191, 192, 193, 194, 195, 314, 315, 316, 317, 51, 230, 231, 232, 233, 665, 666, 667, 668, 597, 598, 599, 600, 712, 713, 714, 715, 811, 812, 813, 814, 815, 816, 817, 818, 819, 820] (by decide +kernel) (by decide +kernel)
set_option maxRecDepth 20000 in
theorem gL_law_X3_waxWanted : GoodIn wsL_law (wsV RL 248 RX3 yX3_waxWanted wsX3_waxWanted) := goodIn_app (goodIn_of _ (by decide +kernel)) ggL_law_X3_waxWanted
set_option maxRecDepth 20000 in
theorem ggL_law_X2_meanTrust : GoodIn wsL_law wsX2_meanTrust := goodIn_r _ [777, 16, 20, 106, 107, 2, 108, 808, 809, 810, 821, 822, 823, 824, 825, 826, 827, 828, 829, 830, 831, 832, 833, 834, 835, 836, 837, 838] (by decide +kernel) (by decide +kernel)
set_option maxRecDepth 20000 in
theorem gL_law_X2_meanTrust : GoodIn wsL_law (wsV RL 249 RX2 yX2_meanTrust wsX2_meanTrust) := goodIn_app (goodIn_of _ (by decide +kernel)) ggL_law_X2_meanTrust
set_option maxRecDepth 20000 in
theorem ggL_law_X3_meanTrust : GoodIn wsL_law wsX3_meanTrust := goodIn_r _ [781, 79, 149, 52, 811, 812, 813, 814, 815, 816, 817, 818, 819, 820] (by decide +kernel) (by decide +kernel)
set_option maxRecDepth 20000 in
theorem gL_law_X3_meanTrust : GoodIn wsL_law (wsV RL 253 RX3 yX3_meanTrust wsX3_meanTrust) := goodIn_app (goodIn_of _ (by decide +kernel)) ggL_law_X3_meanTrust
set_option maxRecDepth 20000 in
theorem ggL_law_X2_digest : GoodIn wsL_law wsX2_digest := goodIn_r _ [785, 786, 16, 20, 787, 788, 2, 789, 790, 624, 625, 626, 19, 627, 42, 656, 657, 658, 659, 660, 590, 591, 592, 43, 40, 176, 177, 178, 15, 179, 28, 360, 110, 111, 112, 37, 107, 108, 681, 682, 683, 684, 791, 792, 793, 794, 106, 109, 795, 796, 797, 258, 259, 260, 475, 255, 256, 257, 41, 211, 212, 213, 214, 215, 216, 217, 487, 375, 376, 377, 31, 302, 303, 304, 305, 298, 299, 300, 301, 32, 798, 799, 800, 801, 296, 808, 809, 810, 821, 822, 823, 824, 825, 826, 827, 828, 829, 830, 831, 832, 833, 834, 835, 836, 837, 838] (by decide +kernel) (by decide +kernel)
set_option maxRecDepth 20000 in
theorem gL_law_X2_digest : GoodIn wsL_law (wsV RL 254 RX2 yX2_digest wsX2_digest) := goodIn_app (goodIn_of _ (by decide +kernel)) ggL_law_X2_digest
set_option maxRecDepth 20000 in
theorem ggL_law_X3_digest : GoodIn wsL_law wsX3_digest := goodIn_r _ [805, 79, 26, 80, 124, 149, 52, 806, 807, 48, 49, 50, 51, 632, 633, 634, 5, 635, 665, 666, 667, 668, 597, 598, 599, 600, 273, 274, 275, 276, 129, 130, 131, 189, 190, 191, 689, 690, 691, 692, 281, 282, 283, 284, 227, 228, 229, 314, 315, 316, 317, 811, 812, 813, 814, 815, 816, 817, 818, 819, 820] (by decide +kernel) (by decide +kernel)
set_option maxRecDepth 20000 in
theorem gL_law_X3_digest : GoodIn wsL_law (wsV RL 258 RX3 yX3_digest wsX3_digest) := goodIn_app (goodIn_of _ (by decide +kernel)) ggL_law_X3_digest
theorem dL_law_0 : decode cL_law 0 = .ok (.new 8, 3) := by decide +kernel
theorem dL_law_3 : decode cL_law 3 = .ok (.dup, 1) := by decide +kernel
theorem dL_law_4 : decode cL_law 4 = .ok (.invokespecial 108, 3) := by decide +kernel
theorem dL_law_7 : decode cL_law 7 = .ok (.astore_n 1, 1) := by decide +kernel
theorem dL_law_8 : decode cL_law 8 = .ok (.new 109, 3) := by decide +kernel
theorem dL_law_11 : decode cL_law 11 = .ok (.dup, 1) := by decide +kernel
theorem dL_law_12 : decode cL_law 12 = .ok (.invokespecial 111, 3) := by decide +kernel
theorem dL_law_15 : decode cL_law 15 = .ok (.astore_n 2, 1) := by decide +kernel
theorem dL_law_16 : decode cL_law 16 = .ok (.iconst 1, 1) := by decide +kernel
theorem dL_law_17 : decode cL_law 17 = .ok (.newarray .long, 2) := by decide +kernel
theorem dL_law_19 : decode cL_law 19 = .ok (.astore_n 3, 1) := by decide +kernel
theorem dL_law_20 : decode cL_law 20 = .ok (.iconst 0, 1) := by decide +kernel
theorem dL_law_21 : decode cL_law 21 = .ok (.istore 4, 2) := by decide +kernel
theorem dL_law_23 : decode cL_law 23 = .ok (.iload 4, 2) := by decide +kernel
theorem dL_law_25 : decode cL_law 25 = .ok (.aload_n 0, 1) := by decide +kernel
theorem dL_law_26 : decode cL_law 26 = .ok (.arraylength, 1) := by decide +kernel
theorem dL_law_27 : decode cL_law 27 = .ok (.iconst 4, 1) := by decide +kernel
theorem dL_law_28 : decode cL_law 28 = .ok (.isub, 1) := by decide +kernel
theorem dL_law_29 : decode cL_law 29 = .ok (.if_icmp .gt 2138, 3) := by decide +kernel
theorem dL_law_32 : decode cL_law 32 = .ok (.aload_n 0, 1) := by decide +kernel
theorem dL_law_33 : decode cL_law 33 = .ok (.iload 4, 2) := by decide +kernel
theorem dL_law_35 : decode cL_law 35 = .ok (.iaload, 1) := by decide +kernel
theorem dL_law_36 : decode cL_law 36 = .ok (.bipush 63, 2) := by decide +kernel
theorem dL_law_38 : decode cL_law 38 = .ok (.iand, 1) := by decide +kernel
theorem dL_law_39 : decode cL_law 39 = .ok (.tableswitch 2122 0 40 #[177, 233, 329, 373, 429, 485, 541, 616, 700, 756, 769, 825, 888, 951, 1007, 1070, 1126, 1182, 1238, 1294, 1307, 1363, 1419, 1482, 1545, 1601, 1664, 1677, 1733, 1746, 1759, 1772, 1785, 1798, 1811, 1886, 1942, 1955, 2011, 2067, 2108], 177) := by decide +kernel
theorem dL_law_216 : decode cL_law 216 = .ok (.aload_n 1, 1) := by decide +kernel
theorem dL_law_217 : decode cL_law 217 = .ok (.aload_n 0, 1) := by decide +kernel
theorem dL_law_218 : decode cL_law 218 = .ok (.iload 4, 2) := by decide +kernel
theorem dL_law_220 : decode cL_law 220 = .ok (.iconst 1, 1) := by decide +kernel
theorem dL_law_221 : decode cL_law 221 = .ok (.iadd, 1) := by decide +kernel
theorem dL_law_222 : decode cL_law 222 = .ok (.iaload, 1) := by decide +kernel
theorem dL_law_223 : decode cL_law 223 = .ok (.aload_n 3, 1) := by decide +kernel
theorem dL_law_224 : decode cL_law 224 = .ok (.invokestatic 112, 3) := by decide +kernel
theorem dL_law_227 : decode cL_law 227 = .ok (.istore 5, 2) := by decide +kernel
theorem dL_law_229 : decode cL_law 229 = .ok (.aload_n 2, 1) := by decide +kernel
theorem dL_law_230 : decode cL_law 230 = .ok (.aload_n 0, 1) := by decide +kernel
theorem dL_law_231 : decode cL_law 231 = .ok (.iload 4, 2) := by decide +kernel
theorem dL_law_233 : decode cL_law 233 = .ok (.iconst 1, 1) := by decide +kernel
theorem dL_law_234 : decode cL_law 234 = .ok (.iadd, 1) := by decide +kernel
theorem dL_law_235 : decode cL_law 235 = .ok (.iaload, 1) := by decide +kernel
theorem dL_law_236 : decode cL_law 236 = .ok (.invokevirtual 117, 3) := by decide +kernel
theorem dL_law_239 : decode cL_law 239 = .ok (.istore 6, 2) := by decide +kernel
theorem dL_law_241 : decode cL_law 241 = .ok (.aload_n 2, 1) := by decide +kernel
theorem dL_law_242 : decode cL_law 242 = .ok (.invokevirtual 118, 3) := by decide +kernel
theorem dL_law_245 : decode cL_law 245 = .ok (.iload 5, 2) := by decide +kernel
theorem dL_law_247 : decode cL_law 247 = .ok (.if_icmp .eq 5, 3) := by decide +kernel
theorem dL_law_250 : decode cL_law 250 = .ok (.iconst 0, 1) := by decide +kernel
theorem dL_law_251 : decode cL_law 251 = .ok (.ireturn, 1) := by decide +kernel
theorem dL_law_252 : decode cL_law 252 = .ok (.iload 5, 2) := by decide +kernel
theorem dL_law_254 : decode cL_law 254 = .ok (.ifCond .ne 15, 3) := by decide +kernel
theorem dL_law_257 : decode cL_law 257 = .ok (.aload_n 3, 1) := by decide +kernel
theorem dL_law_258 : decode cL_law 258 = .ok (.iconst 0, 1) := by decide +kernel
theorem dL_law_259 : decode cL_law 259 = .ok (.laload, 1) := by decide +kernel
theorem dL_law_260 : decode cL_law 260 = .ok (.iload 6, 2) := by decide +kernel
theorem dL_law_262 : decode cL_law 262 = .ok (.i2l, 1) := by decide +kernel
theorem dL_law_263 : decode cL_law 263 = .ok (.lcmp, 1) := by decide +kernel
theorem dL_law_264 : decode cL_law 264 = .ok (.ifCond .eq 5, 3) := by decide +kernel
theorem dL_law_267 : decode cL_law 267 = .ok (.iconst 0, 1) := by decide +kernel
theorem dL_law_268 : decode cL_law 268 = .ok (.ireturn, 1) := by decide +kernel
theorem dL_law_269 : decode cL_law 269 = .ok (.goto 1892, 3) := by decide +kernel
theorem dL_law_272 : decode cL_law 272 = .ok (.aload_n 1, 1) := by decide +kernel
theorem dL_law_273 : decode cL_law 273 = .ok (.aload_n 0, 1) := by decide +kernel
theorem dL_law_274 : decode cL_law 274 = .ok (.iload 4, 2) := by decide +kernel
theorem dL_law_276 : decode cL_law 276 = .ok (.iconst 1, 1) := by decide +kernel
theorem dL_law_277 : decode cL_law 277 = .ok (.iadd, 1) := by decide +kernel
theorem dL_law_278 : decode cL_law 278 = .ok (.iaload, 1) := by decide +kernel
theorem dL_law_279 : decode cL_law 279 = .ok (.aload_n 0, 1) := by decide +kernel
theorem dL_law_280 : decode cL_law 280 = .ok (.iload 4, 2) := by decide +kernel
theorem dL_law_282 : decode cL_law 282 = .ok (.iconst 2, 1) := by decide +kernel
theorem dL_law_283 : decode cL_law 283 = .ok (.iadd, 1) := by decide +kernel
theorem dL_law_284 : decode cL_law 284 = .ok (.iaload, 1) := by decide +kernel
theorem dL_law_285 : decode cL_law 285 = .ok (.aload_n 0, 1) := by decide +kernel
theorem dL_law_286 : decode cL_law 286 = .ok (.iload 4, 2) := by decide +kernel
theorem dL_law_288 : decode cL_law 288 = .ok (.iconst 3, 1) := by decide +kernel
theorem dL_law_289 : decode cL_law 289 = .ok (.iadd, 1) := by decide +kernel
theorem dL_law_290 : decode cL_law 290 = .ok (.iaload, 1) := by decide +kernel
theorem dL_law_291 : decode cL_law 291 = .ok (.ifCond .eq 7, 3) := by decide +kernel
theorem dL_law_294 : decode cL_law 294 = .ok (.iconst 1, 1) := by decide +kernel
theorem dL_law_295 : decode cL_law 295 = .ok (.goto 4, 3) := by decide +kernel
theorem dL_law_298 : decode cL_law 298 = .ok (.iconst 0, 1) := by decide +kernel
theorem dL_law_299 : decode cL_law 299 = .ok (.aload_n 3, 1) := by decide +kernel
theorem dL_law_300 : decode cL_law 300 = .ok (.invokestatic 121, 3) := by decide +kernel
theorem dL_law_303 : decode cL_law 303 = .ok (.istore 5, 2) := by decide +kernel
theorem dL_law_305 : decode cL_law 305 = .ok (.aload_n 2, 1) := by decide +kernel
theorem dL_law_306 : decode cL_law 306 = .ok (.aload_n 0, 1) := by decide +kernel
theorem dL_law_307 : decode cL_law 307 = .ok (.iload 4, 2) := by decide +kernel
theorem dL_law_309 : decode cL_law 309 = .ok (.iconst 1, 1) := by decide +kernel
theorem dL_law_310 : decode cL_law 310 = .ok (.iadd, 1) := by decide +kernel
theorem dL_law_311 : decode cL_law 311 = .ok (.iaload, 1) := by decide +kernel
theorem dL_law_312 : decode cL_law 312 = .ok (.aload_n 0, 1) := by decide +kernel
theorem dL_law_313 : decode cL_law 313 = .ok (.iload 4, 2) := by decide +kernel
theorem dL_law_315 : decode cL_law 315 = .ok (.iconst 2, 1) := by decide +kernel
theorem dL_law_316 : decode cL_law 316 = .ok (.iadd, 1) := by decide +kernel
theorem dL_law_317 : decode cL_law 317 = .ok (.iaload, 1) := by decide +kernel
theorem dL_law_318 : decode cL_law 318 = .ok (.aload_n 0, 1) := by decide +kernel
theorem dL_law_319 : decode cL_law 319 = .ok (.iload 4, 2) := by decide +kernel
theorem dL_law_321 : decode cL_law 321 = .ok (.iconst 3, 1) := by decide +kernel
theorem dL_law_322 : decode cL_law 322 = .ok (.iadd, 1) := by decide +kernel
theorem dL_law_323 : decode cL_law 323 = .ok (.iaload, 1) := by decide +kernel
theorem dL_law_324 : decode cL_law 324 = .ok (.ifCond .eq 7, 3) := by decide +kernel
theorem dL_law_327 : decode cL_law 327 = .ok (.iconst 1, 1) := by decide +kernel
theorem dL_law_328 : decode cL_law 328 = .ok (.goto 4, 3) := by decide +kernel
theorem dL_law_331 : decode cL_law 331 = .ok (.iconst 0, 1) := by decide +kernel
theorem dL_law_332 : decode cL_law 332 = .ok (.invokevirtual 124, 3) := by decide +kernel
theorem dL_law_335 : decode cL_law 335 = .ok (.istore 6, 2) := by decide +kernel
theorem dL_law_337 : decode cL_law 337 = .ok (.aload_n 2, 1) := by decide +kernel
theorem dL_law_338 : decode cL_law 338 = .ok (.invokevirtual 118, 3) := by decide +kernel
theorem dL_law_341 : decode cL_law 341 = .ok (.iload 5, 2) := by decide +kernel
theorem dL_law_343 : decode cL_law 343 = .ok (.if_icmp .eq 5, 3) := by decide +kernel
theorem dL_law_346 : decode cL_law 346 = .ok (.iconst 0, 1) := by decide +kernel
theorem dL_law_347 : decode cL_law 347 = .ok (.ireturn, 1) := by decide +kernel
theorem dL_law_348 : decode cL_law 348 = .ok (.iload 5, 2) := by decide +kernel
theorem dL_law_350 : decode cL_law 350 = .ok (.ifCond .ne 15, 3) := by decide +kernel
theorem dL_law_353 : decode cL_law 353 = .ok (.aload_n 3, 1) := by decide +kernel
theorem dL_law_354 : decode cL_law 354 = .ok (.iconst 0, 1) := by decide +kernel
theorem dL_law_355 : decode cL_law 355 = .ok (.laload, 1) := by decide +kernel
theorem dL_law_356 : decode cL_law 356 = .ok (.iload 6, 2) := by decide +kernel
theorem dL_law_358 : decode cL_law 358 = .ok (.i2l, 1) := by decide +kernel
theorem dL_law_359 : decode cL_law 359 = .ok (.lcmp, 1) := by decide +kernel
theorem dL_law_360 : decode cL_law 360 = .ok (.ifCond .eq 5, 3) := by decide +kernel
theorem dL_law_363 : decode cL_law 363 = .ok (.iconst 0, 1) := by decide +kernel
theorem dL_law_364 : decode cL_law 364 = .ok (.ireturn, 1) := by decide +kernel
theorem dL_law_365 : decode cL_law 365 = .ok (.goto 1796, 3) := by decide +kernel
theorem dL_law_368 : decode cL_law 368 = .ok (.aload_n 1, 1) := by decide +kernel
theorem dL_law_369 : decode cL_law 369 = .ok (.aload_n 3, 1) := by decide +kernel
theorem dL_law_370 : decode cL_law 370 = .ok (.invokestatic 125, 3) := by decide +kernel
theorem dL_law_373 : decode cL_law 373 = .ok (.istore 5, 2) := by decide +kernel
theorem dL_law_375 : decode cL_law 375 = .ok (.aload_n 2, 1) := by decide +kernel
theorem dL_law_376 : decode cL_law 376 = .ok (.invokevirtual 128, 3) := by decide +kernel
theorem dL_law_379 : decode cL_law 379 = .ok (.istore 6, 2) := by decide +kernel
theorem dL_law_381 : decode cL_law 381 = .ok (.aload_n 2, 1) := by decide +kernel
theorem dL_law_382 : decode cL_law 382 = .ok (.invokevirtual 118, 3) := by decide +kernel
theorem dL_law_385 : decode cL_law 385 = .ok (.iload 5, 2) := by decide +kernel
theorem dL_law_387 : decode cL_law 387 = .ok (.if_icmp .eq 5, 3) := by decide +kernel
theorem dL_law_390 : decode cL_law 390 = .ok (.iconst 0, 1) := by decide +kernel
theorem dL_law_391 : decode cL_law 391 = .ok (.ireturn, 1) := by decide +kernel
theorem dL_law_392 : decode cL_law 392 = .ok (.iload 5, 2) := by decide +kernel
theorem dL_law_394 : decode cL_law 394 = .ok (.ifCond .ne 15, 3) := by decide +kernel
theorem dL_law_397 : decode cL_law 397 = .ok (.aload_n 3, 1) := by decide +kernel
theorem dL_law_398 : decode cL_law 398 = .ok (.iconst 0, 1) := by decide +kernel
theorem dL_law_399 : decode cL_law 399 = .ok (.laload, 1) := by decide +kernel
theorem dL_law_400 : decode cL_law 400 = .ok (.iload 6, 2) := by decide +kernel
theorem dL_law_402 : decode cL_law 402 = .ok (.i2l, 1) := by decide +kernel
theorem dL_law_403 : decode cL_law 403 = .ok (.lcmp, 1) := by decide +kernel
theorem dL_law_404 : decode cL_law 404 = .ok (.ifCond .eq 5, 3) := by decide +kernel
theorem dL_law_407 : decode cL_law 407 = .ok (.iconst 0, 1) := by decide +kernel
theorem dL_law_408 : decode cL_law 408 = .ok (.ireturn, 1) := by decide +kernel
theorem dL_law_409 : decode cL_law 409 = .ok (.goto 1752, 3) := by decide +kernel
theorem dL_law_412 : decode cL_law 412 = .ok (.aload_n 1, 1) := by decide +kernel
theorem dL_law_413 : decode cL_law 413 = .ok (.aload_n 0, 1) := by decide +kernel
theorem dL_law_414 : decode cL_law 414 = .ok (.iload 4, 2) := by decide +kernel
theorem dL_law_416 : decode cL_law 416 = .ok (.iconst 1, 1) := by decide +kernel
theorem dL_law_417 : decode cL_law 417 = .ok (.iadd, 1) := by decide +kernel
theorem dL_law_418 : decode cL_law 418 = .ok (.iaload, 1) := by decide +kernel
theorem dL_law_419 : decode cL_law 419 = .ok (.aload_n 3, 1) := by decide +kernel
theorem dL_law_420 : decode cL_law 420 = .ok (.invokestatic 129, 3) := by decide +kernel
theorem dL_law_423 : decode cL_law 423 = .ok (.istore 5, 2) := by decide +kernel
theorem dL_law_425 : decode cL_law 425 = .ok (.aload_n 2, 1) := by decide +kernel
theorem dL_law_426 : decode cL_law 426 = .ok (.aload_n 0, 1) := by decide +kernel
theorem dL_law_427 : decode cL_law 427 = .ok (.iload 4, 2) := by decide +kernel
theorem dL_law_429 : decode cL_law 429 = .ok (.iconst 1, 1) := by decide +kernel
theorem dL_law_430 : decode cL_law 430 = .ok (.iadd, 1) := by decide +kernel
theorem dL_law_431 : decode cL_law 431 = .ok (.iaload, 1) := by decide +kernel
theorem dL_law_432 : decode cL_law 432 = .ok (.invokevirtual 131, 3) := by decide +kernel
theorem dL_law_435 : decode cL_law 435 = .ok (.istore 6, 2) := by decide +kernel
theorem dL_law_437 : decode cL_law 437 = .ok (.aload_n 2, 1) := by decide +kernel
theorem dL_law_438 : decode cL_law 438 = .ok (.invokevirtual 118, 3) := by decide +kernel
theorem dL_law_441 : decode cL_law 441 = .ok (.iload 5, 2) := by decide +kernel
theorem dL_law_443 : decode cL_law 443 = .ok (.if_icmp .eq 5, 3) := by decide +kernel
theorem dL_law_446 : decode cL_law 446 = .ok (.iconst 0, 1) := by decide +kernel
theorem dL_law_447 : decode cL_law 447 = .ok (.ireturn, 1) := by decide +kernel
theorem dL_law_448 : decode cL_law 448 = .ok (.iload 5, 2) := by decide +kernel
theorem dL_law_450 : decode cL_law 450 = .ok (.ifCond .ne 15, 3) := by decide +kernel
theorem dL_law_453 : decode cL_law 453 = .ok (.aload_n 3, 1) := by decide +kernel
theorem dL_law_454 : decode cL_law 454 = .ok (.iconst 0, 1) := by decide +kernel
theorem dL_law_455 : decode cL_law 455 = .ok (.laload, 1) := by decide +kernel
theorem dL_law_456 : decode cL_law 456 = .ok (.iload 6, 2) := by decide +kernel
theorem dL_law_458 : decode cL_law 458 = .ok (.i2l, 1) := by decide +kernel
theorem dL_law_459 : decode cL_law 459 = .ok (.lcmp, 1) := by decide +kernel
theorem dL_law_460 : decode cL_law 460 = .ok (.ifCond .eq 5, 3) := by decide +kernel
theorem dL_law_463 : decode cL_law 463 = .ok (.iconst 0, 1) := by decide +kernel
theorem dL_law_464 : decode cL_law 464 = .ok (.ireturn, 1) := by decide +kernel
theorem dL_law_465 : decode cL_law 465 = .ok (.goto 1696, 3) := by decide +kernel
theorem dL_law_468 : decode cL_law 468 = .ok (.aload_n 1, 1) := by decide +kernel
theorem dL_law_469 : decode cL_law 469 = .ok (.aload_n 0, 1) := by decide +kernel
theorem dL_law_470 : decode cL_law 470 = .ok (.iload 4, 2) := by decide +kernel
theorem dL_law_472 : decode cL_law 472 = .ok (.iconst 1, 1) := by decide +kernel
theorem dL_law_473 : decode cL_law 473 = .ok (.iadd, 1) := by decide +kernel
theorem dL_law_474 : decode cL_law 474 = .ok (.iaload, 1) := by decide +kernel
theorem dL_law_475 : decode cL_law 475 = .ok (.aload_n 3, 1) := by decide +kernel
theorem dL_law_476 : decode cL_law 476 = .ok (.invokestatic 132, 3) := by decide +kernel
theorem dL_law_479 : decode cL_law 479 = .ok (.istore 5, 2) := by decide +kernel
theorem dL_law_481 : decode cL_law 481 = .ok (.aload_n 2, 1) := by decide +kernel
theorem dL_law_482 : decode cL_law 482 = .ok (.aload_n 0, 1) := by decide +kernel
theorem dL_law_483 : decode cL_law 483 = .ok (.iload 4, 2) := by decide +kernel
theorem dL_law_485 : decode cL_law 485 = .ok (.iconst 1, 1) := by decide +kernel
theorem dL_law_486 : decode cL_law 486 = .ok (.iadd, 1) := by decide +kernel
theorem dL_law_487 : decode cL_law 487 = .ok (.iaload, 1) := by decide +kernel
theorem dL_law_488 : decode cL_law 488 = .ok (.invokevirtual 134, 3) := by decide +kernel
theorem dL_law_491 : decode cL_law 491 = .ok (.istore 6, 2) := by decide +kernel
theorem dL_law_493 : decode cL_law 493 = .ok (.aload_n 2, 1) := by decide +kernel
theorem dL_law_494 : decode cL_law 494 = .ok (.invokevirtual 118, 3) := by decide +kernel
theorem dL_law_497 : decode cL_law 497 = .ok (.iload 5, 2) := by decide +kernel
theorem dL_law_499 : decode cL_law 499 = .ok (.if_icmp .eq 5, 3) := by decide +kernel
theorem dL_law_502 : decode cL_law 502 = .ok (.iconst 0, 1) := by decide +kernel
theorem dL_law_503 : decode cL_law 503 = .ok (.ireturn, 1) := by decide +kernel
theorem dL_law_504 : decode cL_law 504 = .ok (.iload 5, 2) := by decide +kernel
theorem dL_law_506 : decode cL_law 506 = .ok (.ifCond .ne 15, 3) := by decide +kernel
theorem dL_law_509 : decode cL_law 509 = .ok (.aload_n 3, 1) := by decide +kernel
theorem dL_law_510 : decode cL_law 510 = .ok (.iconst 0, 1) := by decide +kernel
theorem dL_law_511 : decode cL_law 511 = .ok (.laload, 1) := by decide +kernel
theorem dL_law_512 : decode cL_law 512 = .ok (.iload 6, 2) := by decide +kernel
theorem dL_law_514 : decode cL_law 514 = .ok (.i2l, 1) := by decide +kernel
theorem dL_law_515 : decode cL_law 515 = .ok (.lcmp, 1) := by decide +kernel
theorem dL_law_516 : decode cL_law 516 = .ok (.ifCond .eq 5, 3) := by decide +kernel
theorem dL_law_519 : decode cL_law 519 = .ok (.iconst 0, 1) := by decide +kernel
theorem dL_law_520 : decode cL_law 520 = .ok (.ireturn, 1) := by decide +kernel
theorem dL_law_521 : decode cL_law 521 = .ok (.goto 1640, 3) := by decide +kernel
theorem dL_law_524 : decode cL_law 524 = .ok (.aload_n 1, 1) := by decide +kernel
theorem dL_law_525 : decode cL_law 525 = .ok (.aload_n 0, 1) := by decide +kernel
theorem dL_law_526 : decode cL_law 526 = .ok (.iload 4, 2) := by decide +kernel
theorem dL_law_528 : decode cL_law 528 = .ok (.iconst 1, 1) := by decide +kernel
theorem dL_law_529 : decode cL_law 529 = .ok (.iadd, 1) := by decide +kernel
theorem dL_law_530 : decode cL_law 530 = .ok (.iaload, 1) := by decide +kernel
theorem dL_law_531 : decode cL_law 531 = .ok (.aload_n 3, 1) := by decide +kernel
theorem dL_law_532 : decode cL_law 532 = .ok (.invokestatic 135, 3) := by decide +kernel
theorem dL_law_535 : decode cL_law 535 = .ok (.istore 5, 2) := by decide +kernel
theorem dL_law_537 : decode cL_law 537 = .ok (.aload_n 2, 1) := by decide +kernel
theorem dL_law_538 : decode cL_law 538 = .ok (.aload_n 0, 1) := by decide +kernel
theorem dL_law_539 : decode cL_law 539 = .ok (.iload 4, 2) := by decide +kernel
theorem dL_law_541 : decode cL_law 541 = .ok (.iconst 1, 1) := by decide +kernel
theorem dL_law_542 : decode cL_law 542 = .ok (.iadd, 1) := by decide +kernel
theorem dL_law_543 : decode cL_law 543 = .ok (.iaload, 1) := by decide +kernel
theorem dL_law_544 : decode cL_law 544 = .ok (.invokevirtual 137, 3) := by decide +kernel
theorem dL_law_547 : decode cL_law 547 = .ok (.istore 6, 2) := by decide +kernel
theorem dL_law_549 : decode cL_law 549 = .ok (.aload_n 2, 1) := by decide +kernel
theorem dL_law_550 : decode cL_law 550 = .ok (.invokevirtual 118, 3) := by decide +kernel
theorem dL_law_553 : decode cL_law 553 = .ok (.iload 5, 2) := by decide +kernel
theorem dL_law_555 : decode cL_law 555 = .ok (.if_icmp .eq 5, 3) := by decide +kernel
theorem dL_law_558 : decode cL_law 558 = .ok (.iconst 0, 1) := by decide +kernel
theorem dL_law_559 : decode cL_law 559 = .ok (.ireturn, 1) := by decide +kernel
theorem dL_law_560 : decode cL_law 560 = .ok (.iload 5, 2) := by decide +kernel
theorem dL_law_562 : decode cL_law 562 = .ok (.ifCond .ne 15, 3) := by decide +kernel
theorem dL_law_565 : decode cL_law 565 = .ok (.aload_n 3, 1) := by decide +kernel
theorem dL_law_566 : decode cL_law 566 = .ok (.iconst 0, 1) := by decide +kernel
theorem dL_law_567 : decode cL_law 567 = .ok (.laload, 1) := by decide +kernel
theorem dL_law_568 : decode cL_law 568 = .ok (.iload 6, 2) := by decide +kernel
theorem dL_law_570 : decode cL_law 570 = .ok (.i2l, 1) := by decide +kernel
theorem dL_law_571 : decode cL_law 571 = .ok (.lcmp, 1) := by decide +kernel
theorem dL_law_572 : decode cL_law 572 = .ok (.ifCond .eq 5, 3) := by decide +kernel
theorem dL_law_575 : decode cL_law 575 = .ok (.iconst 0, 1) := by decide +kernel
theorem dL_law_576 : decode cL_law 576 = .ok (.ireturn, 1) := by decide +kernel
theorem dL_law_577 : decode cL_law 577 = .ok (.goto 1584, 3) := by decide +kernel
theorem dL_law_580 : decode cL_law 580 = .ok (.aload_n 1, 1) := by decide +kernel
theorem dL_law_581 : decode cL_law 581 = .ok (.aload_n 0, 1) := by decide +kernel
theorem dL_law_582 : decode cL_law 582 = .ok (.iload 4, 2) := by decide +kernel
theorem dL_law_584 : decode cL_law 584 = .ok (.iconst 1, 1) := by decide +kernel
theorem dL_law_585 : decode cL_law 585 = .ok (.iadd, 1) := by decide +kernel
theorem dL_law_586 : decode cL_law 586 = .ok (.iaload, 1) := by decide +kernel
theorem dL_law_587 : decode cL_law 587 = .ok (.aload_n 0, 1) := by decide +kernel
theorem dL_law_588 : decode cL_law 588 = .ok (.iload 4, 2) := by decide +kernel
theorem dL_law_590 : decode cL_law 590 = .ok (.iconst 2, 1) := by decide +kernel
theorem dL_law_591 : decode cL_law 591 = .ok (.iadd, 1) := by decide +kernel
theorem dL_law_592 : decode cL_law 592 = .ok (.iaload, 1) := by decide +kernel
theorem dL_law_593 : decode cL_law 593 = .ok (.aload_n 3, 1) := by decide +kernel
theorem dL_law_594 : decode cL_law 594 = .ok (.invokestatic 138, 3) := by decide +kernel
theorem dL_law_597 : decode cL_law 597 = .ok (.istore 5, 2) := by decide +kernel
theorem dL_law_599 : decode cL_law 599 = .ok (.aload_n 2, 1) := by decide +kernel
theorem dL_law_600 : decode cL_law 600 = .ok (.aload_n 0, 1) := by decide +kernel
theorem dL_law_601 : decode cL_law 601 = .ok (.iload 4, 2) := by decide +kernel
theorem dL_law_603 : decode cL_law 603 = .ok (.iconst 1, 1) := by decide +kernel
theorem dL_law_604 : decode cL_law 604 = .ok (.iadd, 1) := by decide +kernel
theorem dL_law_605 : decode cL_law 605 = .ok (.iaload, 1) := by decide +kernel
theorem dL_law_606 : decode cL_law 606 = .ok (.aload_n 0, 1) := by decide +kernel
theorem dL_law_607 : decode cL_law 607 = .ok (.iload 4, 2) := by decide +kernel
theorem dL_law_609 : decode cL_law 609 = .ok (.iconst 2, 1) := by decide +kernel
theorem dL_law_610 : decode cL_law 610 = .ok (.iadd, 1) := by decide +kernel
theorem dL_law_611 : decode cL_law 611 = .ok (.iaload, 1) := by decide +kernel
theorem dL_law_612 : decode cL_law 612 = .ok (.invokevirtual 141, 3) := by decide +kernel
theorem dL_law_615 : decode cL_law 615 = .ok (.istore 6, 2) := by decide +kernel
theorem dL_law_617 : decode cL_law 617 = .ok (.aload_n 2, 1) := by decide +kernel
theorem dL_law_618 : decode cL_law 618 = .ok (.invokevirtual 118, 3) := by decide +kernel
theorem dL_law_621 : decode cL_law 621 = .ok (.iload 5, 2) := by decide +kernel
theorem dL_law_623 : decode cL_law 623 = .ok (.if_icmp .eq 5, 3) := by decide +kernel
theorem dL_law_626 : decode cL_law 626 = .ok (.iconst 0, 1) := by decide +kernel
theorem dL_law_627 : decode cL_law 627 = .ok (.ireturn, 1) := by decide +kernel
theorem dL_law_628 : decode cL_law 628 = .ok (.iload 5, 2) := by decide +kernel
theorem dL_law_630 : decode cL_law 630 = .ok (.ifCond .ne 22, 3) := by decide +kernel
theorem dL_law_633 : decode cL_law 633 = .ok (.aload_n 3, 1) := by decide +kernel
theorem dL_law_634 : decode cL_law 634 = .ok (.iconst 0, 1) := by decide +kernel
theorem dL_law_635 : decode cL_law 635 = .ok (.laload, 1) := by decide +kernel
theorem dL_law_636 : decode cL_law 636 = .ok (.iload 6, 2) := by decide +kernel
theorem dL_law_638 : decode cL_law 638 = .ok (.ifCond .eq 7, 3) := by decide +kernel
theorem dL_law_641 : decode cL_law 641 = .ok (.lconst 1, 1) := by decide +kernel
theorem dL_law_642 : decode cL_law 642 = .ok (.goto 4, 3) := by decide +kernel
theorem dL_law_645 : decode cL_law 645 = .ok (.lconst 0, 1) := by decide +kernel
theorem dL_law_646 : decode cL_law 646 = .ok (.lcmp, 1) := by decide +kernel
theorem dL_law_647 : decode cL_law 647 = .ok (.ifCond .eq 5, 3) := by decide +kernel
theorem dL_law_650 : decode cL_law 650 = .ok (.iconst 0, 1) := by decide +kernel
theorem dL_law_651 : decode cL_law 651 = .ok (.ireturn, 1) := by decide +kernel
theorem dL_law_652 : decode cL_law 652 = .ok (.goto 1509, 3) := by decide +kernel
theorem dL_law_655 : decode cL_law 655 = .ok (.aload_n 1, 1) := by decide +kernel
theorem dL_law_656 : decode cL_law 656 = .ok (.aload_n 0, 1) := by decide +kernel
theorem dL_law_657 : decode cL_law 657 = .ok (.iload 4, 2) := by decide +kernel
theorem dL_law_659 : decode cL_law 659 = .ok (.iconst 1, 1) := by decide +kernel
theorem dL_law_660 : decode cL_law 660 = .ok (.iadd, 1) := by decide +kernel
theorem dL_law_661 : decode cL_law 661 = .ok (.iaload, 1) := by decide +kernel
theorem dL_law_662 : decode cL_law 662 = .ok (.aload_n 0, 1) := by decide +kernel
theorem dL_law_663 : decode cL_law 663 = .ok (.iload 4, 2) := by decide +kernel
theorem dL_law_665 : decode cL_law 665 = .ok (.iconst 2, 1) := by decide +kernel
theorem dL_law_666 : decode cL_law 666 = .ok (.iadd, 1) := by decide +kernel
theorem dL_law_667 : decode cL_law 667 = .ok (.iaload, 1) := by decide +kernel
theorem dL_law_668 : decode cL_law 668 = .ok (.ifCond .eq 7, 3) := by decide +kernel
theorem dL_law_671 : decode cL_law 671 = .ok (.iconst 1, 1) := by decide +kernel
theorem dL_law_672 : decode cL_law 672 = .ok (.goto 4, 3) := by decide +kernel
theorem dL_law_675 : decode cL_law 675 = .ok (.iconst 0, 1) := by decide +kernel
theorem dL_law_676 : decode cL_law 676 = .ok (.aload_n 3, 1) := by decide +kernel
theorem dL_law_677 : decode cL_law 677 = .ok (.invokestatic 142, 3) := by decide +kernel
theorem dL_law_680 : decode cL_law 680 = .ok (.istore 5, 2) := by decide +kernel
theorem dL_law_682 : decode cL_law 682 = .ok (.aload_n 2, 1) := by decide +kernel
theorem dL_law_683 : decode cL_law 683 = .ok (.aload_n 0, 1) := by decide +kernel
theorem dL_law_684 : decode cL_law 684 = .ok (.iload 4, 2) := by decide +kernel
theorem dL_law_686 : decode cL_law 686 = .ok (.iconst 1, 1) := by decide +kernel
theorem dL_law_687 : decode cL_law 687 = .ok (.iadd, 1) := by decide +kernel
theorem dL_law_688 : decode cL_law 688 = .ok (.iaload, 1) := by decide +kernel
theorem dL_law_689 : decode cL_law 689 = .ok (.aload_n 0, 1) := by decide +kernel
theorem dL_law_690 : decode cL_law 690 = .ok (.iload 4, 2) := by decide +kernel
theorem dL_law_692 : decode cL_law 692 = .ok (.iconst 2, 1) := by decide +kernel
theorem dL_law_693 : decode cL_law 693 = .ok (.iadd, 1) := by decide +kernel
theorem dL_law_694 : decode cL_law 694 = .ok (.iaload, 1) := by decide +kernel
theorem dL_law_695 : decode cL_law 695 = .ok (.ifCond .eq 7, 3) := by decide +kernel
theorem dL_law_698 : decode cL_law 698 = .ok (.iconst 1, 1) := by decide +kernel
theorem dL_law_699 : decode cL_law 699 = .ok (.goto 4, 3) := by decide +kernel
theorem dL_law_702 : decode cL_law 702 = .ok (.iconst 0, 1) := by decide +kernel
theorem dL_law_703 : decode cL_law 703 = .ok (.invokevirtual 145, 3) := by decide +kernel
theorem dL_law_706 : decode cL_law 706 = .ok (.istore 6, 2) := by decide +kernel
theorem dL_law_708 : decode cL_law 708 = .ok (.aload_n 2, 1) := by decide +kernel
theorem dL_law_709 : decode cL_law 709 = .ok (.invokevirtual 118, 3) := by decide +kernel
theorem dL_law_712 : decode cL_law 712 = .ok (.iload 5, 2) := by decide +kernel
theorem dL_law_714 : decode cL_law 714 = .ok (.if_icmp .eq 5, 3) := by decide +kernel
theorem dL_law_717 : decode cL_law 717 = .ok (.iconst 0, 1) := by decide +kernel
theorem dL_law_718 : decode cL_law 718 = .ok (.ireturn, 1) := by decide +kernel
theorem dL_law_719 : decode cL_law 719 = .ok (.iload 5, 2) := by decide +kernel
theorem dL_law_721 : decode cL_law 721 = .ok (.ifCond .ne 15, 3) := by decide +kernel
theorem dL_law_724 : decode cL_law 724 = .ok (.aload_n 3, 1) := by decide +kernel
theorem dL_law_725 : decode cL_law 725 = .ok (.iconst 0, 1) := by decide +kernel
theorem dL_law_726 : decode cL_law 726 = .ok (.laload, 1) := by decide +kernel
theorem dL_law_727 : decode cL_law 727 = .ok (.iload 6, 2) := by decide +kernel
theorem dL_law_729 : decode cL_law 729 = .ok (.i2l, 1) := by decide +kernel
theorem dL_law_730 : decode cL_law 730 = .ok (.lcmp, 1) := by decide +kernel
theorem dL_law_731 : decode cL_law 731 = .ok (.ifCond .eq 5, 3) := by decide +kernel
theorem dL_law_734 : decode cL_law 734 = .ok (.iconst 0, 1) := by decide +kernel
theorem dL_law_735 : decode cL_law 735 = .ok (.ireturn, 1) := by decide +kernel
theorem dL_law_736 : decode cL_law 736 = .ok (.goto 1425, 3) := by decide +kernel
theorem dL_law_739 : decode cL_law 739 = .ok (.aload_n 1, 1) := by decide +kernel
theorem dL_law_740 : decode cL_law 740 = .ok (.aload_n 0, 1) := by decide +kernel
theorem dL_law_741 : decode cL_law 741 = .ok (.iload 4, 2) := by decide +kernel
theorem dL_law_743 : decode cL_law 743 = .ok (.iconst 1, 1) := by decide +kernel
theorem dL_law_744 : decode cL_law 744 = .ok (.iadd, 1) := by decide +kernel
theorem dL_law_745 : decode cL_law 745 = .ok (.iaload, 1) := by decide +kernel
theorem dL_law_746 : decode cL_law 746 = .ok (.aload_n 3, 1) := by decide +kernel
theorem dL_law_747 : decode cL_law 747 = .ok (.invokestatic 146, 3) := by decide +kernel
theorem dL_law_750 : decode cL_law 750 = .ok (.istore 5, 2) := by decide +kernel
theorem dL_law_752 : decode cL_law 752 = .ok (.aload_n 2, 1) := by decide +kernel
theorem dL_law_753 : decode cL_law 753 = .ok (.aload_n 0, 1) := by decide +kernel
theorem dL_law_754 : decode cL_law 754 = .ok (.iload 4, 2) := by decide +kernel
theorem dL_law_756 : decode cL_law 756 = .ok (.iconst 1, 1) := by decide +kernel
theorem dL_law_757 : decode cL_law 757 = .ok (.iadd, 1) := by decide +kernel
theorem dL_law_758 : decode cL_law 758 = .ok (.iaload, 1) := by decide +kernel
theorem dL_law_759 : decode cL_law 759 = .ok (.invokevirtual 148, 3) := by decide +kernel
theorem dL_law_762 : decode cL_law 762 = .ok (.istore 6, 2) := by decide +kernel
theorem dL_law_764 : decode cL_law 764 = .ok (.aload_n 2, 1) := by decide +kernel
theorem dL_law_765 : decode cL_law 765 = .ok (.invokevirtual 118, 3) := by decide +kernel
theorem dL_law_768 : decode cL_law 768 = .ok (.iload 5, 2) := by decide +kernel
theorem dL_law_770 : decode cL_law 770 = .ok (.if_icmp .eq 5, 3) := by decide +kernel
theorem dL_law_773 : decode cL_law 773 = .ok (.iconst 0, 1) := by decide +kernel
theorem dL_law_774 : decode cL_law 774 = .ok (.ireturn, 1) := by decide +kernel
theorem dL_law_775 : decode cL_law 775 = .ok (.iload 5, 2) := by decide +kernel
theorem dL_law_777 : decode cL_law 777 = .ok (.ifCond .ne 15, 3) := by decide +kernel
theorem dL_law_780 : decode cL_law 780 = .ok (.aload_n 3, 1) := by decide +kernel
theorem dL_law_781 : decode cL_law 781 = .ok (.iconst 0, 1) := by decide +kernel
theorem dL_law_782 : decode cL_law 782 = .ok (.laload, 1) := by decide +kernel
theorem dL_law_783 : decode cL_law 783 = .ok (.iload 6, 2) := by decide +kernel
theorem dL_law_785 : decode cL_law 785 = .ok (.i2l, 1) := by decide +kernel
theorem dL_law_786 : decode cL_law 786 = .ok (.lcmp, 1) := by decide +kernel
theorem dL_law_787 : decode cL_law 787 = .ok (.ifCond .eq 5, 3) := by decide +kernel
theorem dL_law_790 : decode cL_law 790 = .ok (.iconst 0, 1) := by decide +kernel
theorem dL_law_791 : decode cL_law 791 = .ok (.ireturn, 1) := by decide +kernel
theorem dL_law_792 : decode cL_law 792 = .ok (.goto 1369, 3) := by decide +kernel
theorem dL_law_795 : decode cL_law 795 = .ok (.aload_n 1, 1) := by decide +kernel
theorem dL_law_796 : decode cL_law 796 = .ok (.invokevirtual 149, 3) := by decide +kernel
theorem dL_law_799 : decode cL_law 799 = .ok (.aload_n 2, 1) := by decide +kernel
theorem dL_law_800 : decode cL_law 800 = .ok (.invokevirtual 152, 3) := by decide +kernel
theorem dL_law_803 : decode cL_law 803 = .ok (.if_icmp .eq 1358, 3) := by decide +kernel
theorem dL_law_806 : decode cL_law 806 = .ok (.iconst 0, 1) := by decide +kernel
theorem dL_law_807 : decode cL_law 807 = .ok (.ireturn, 1) := by decide +kernel
theorem dL_law_808 : decode cL_law 808 = .ok (.aload_n 1, 1) := by decide +kernel
theorem dL_law_809 : decode cL_law 809 = .ok (.aload_n 0, 1) := by decide +kernel
theorem dL_law_810 : decode cL_law 810 = .ok (.iload 4, 2) := by decide +kernel
theorem dL_law_812 : decode cL_law 812 = .ok (.iconst 1, 1) := by decide +kernel
theorem dL_law_813 : decode cL_law 813 = .ok (.iadd, 1) := by decide +kernel
theorem dL_law_814 : decode cL_law 814 = .ok (.iaload, 1) := by decide +kernel
theorem dL_law_815 : decode cL_law 815 = .ok (.aload_n 3, 1) := by decide +kernel
theorem dL_law_816 : decode cL_law 816 = .ok (.invokestatic 153, 3) := by decide +kernel
theorem dL_law_819 : decode cL_law 819 = .ok (.istore 5, 2) := by decide +kernel
theorem dL_law_821 : decode cL_law 821 = .ok (.aload_n 2, 1) := by decide +kernel
theorem dL_law_822 : decode cL_law 822 = .ok (.aload_n 0, 1) := by decide +kernel
theorem dL_law_823 : decode cL_law 823 = .ok (.iload 4, 2) := by decide +kernel
theorem dL_law_825 : decode cL_law 825 = .ok (.iconst 1, 1) := by decide +kernel
theorem dL_law_826 : decode cL_law 826 = .ok (.iadd, 1) := by decide +kernel
theorem dL_law_827 : decode cL_law 827 = .ok (.iaload, 1) := by decide +kernel
theorem dL_law_828 : decode cL_law 828 = .ok (.invokevirtual 155, 3) := by decide +kernel
theorem dL_law_831 : decode cL_law 831 = .ok (.istore 6, 2) := by decide +kernel
theorem dL_law_833 : decode cL_law 833 = .ok (.aload_n 2, 1) := by decide +kernel
theorem dL_law_834 : decode cL_law 834 = .ok (.invokevirtual 118, 3) := by decide +kernel
theorem dL_law_837 : decode cL_law 837 = .ok (.iload 5, 2) := by decide +kernel
theorem dL_law_839 : decode cL_law 839 = .ok (.if_icmp .eq 5, 3) := by decide +kernel
theorem dL_law_842 : decode cL_law 842 = .ok (.iconst 0, 1) := by decide +kernel
theorem dL_law_843 : decode cL_law 843 = .ok (.ireturn, 1) := by decide +kernel
theorem dL_law_844 : decode cL_law 844 = .ok (.iload 5, 2) := by decide +kernel
theorem dL_law_846 : decode cL_law 846 = .ok (.ifCond .ne 15, 3) := by decide +kernel
theorem dL_law_849 : decode cL_law 849 = .ok (.aload_n 3, 1) := by decide +kernel
theorem dL_law_850 : decode cL_law 850 = .ok (.iconst 0, 1) := by decide +kernel
theorem dL_law_851 : decode cL_law 851 = .ok (.laload, 1) := by decide +kernel
theorem dL_law_852 : decode cL_law 852 = .ok (.iload 6, 2) := by decide +kernel
theorem dL_law_854 : decode cL_law 854 = .ok (.i2l, 1) := by decide +kernel
theorem dL_law_855 : decode cL_law 855 = .ok (.lcmp, 1) := by decide +kernel
theorem dL_law_856 : decode cL_law 856 = .ok (.ifCond .eq 5, 3) := by decide +kernel
theorem dL_law_859 : decode cL_law 859 = .ok (.iconst 0, 1) := by decide +kernel
theorem dL_law_860 : decode cL_law 860 = .ok (.ireturn, 1) := by decide +kernel
theorem dL_law_861 : decode cL_law 861 = .ok (.goto 1300, 3) := by decide +kernel
theorem dL_law_864 : decode cL_law 864 = .ok (.aload_n 1, 1) := by decide +kernel
theorem dL_law_865 : decode cL_law 865 = .ok (.aload_n 0, 1) := by decide +kernel
theorem dL_law_866 : decode cL_law 866 = .ok (.iload 4, 2) := by decide +kernel
theorem dL_law_868 : decode cL_law 868 = .ok (.iconst 1, 1) := by decide +kernel
theorem dL_law_869 : decode cL_law 869 = .ok (.iadd, 1) := by decide +kernel
theorem dL_law_870 : decode cL_law 870 = .ok (.iaload, 1) := by decide +kernel
theorem dL_law_871 : decode cL_law 871 = .ok (.aload_n 3, 1) := by decide +kernel
theorem dL_law_872 : decode cL_law 872 = .ok (.invokestatic 156, 3) := by decide +kernel
theorem dL_law_875 : decode cL_law 875 = .ok (.istore 5, 2) := by decide +kernel
theorem dL_law_877 : decode cL_law 877 = .ok (.aload_n 2, 1) := by decide +kernel
theorem dL_law_878 : decode cL_law 878 = .ok (.aload_n 0, 1) := by decide +kernel
theorem dL_law_879 : decode cL_law 879 = .ok (.iload 4, 2) := by decide +kernel
theorem dL_law_881 : decode cL_law 881 = .ok (.iconst 1, 1) := by decide +kernel
theorem dL_law_882 : decode cL_law 882 = .ok (.iadd, 1) := by decide +kernel
theorem dL_law_883 : decode cL_law 883 = .ok (.iaload, 1) := by decide +kernel
theorem dL_law_884 : decode cL_law 884 = .ok (.invokevirtual 158, 3) := by decide +kernel
theorem dL_law_887 : decode cL_law 887 = .ok (.istore 6, 2) := by decide +kernel
theorem dL_law_889 : decode cL_law 889 = .ok (.aload_n 2, 1) := by decide +kernel
theorem dL_law_890 : decode cL_law 890 = .ok (.invokevirtual 118, 3) := by decide +kernel
theorem dL_law_893 : decode cL_law 893 = .ok (.iload 5, 2) := by decide +kernel
theorem dL_law_895 : decode cL_law 895 = .ok (.if_icmp .eq 5, 3) := by decide +kernel
theorem dL_law_898 : decode cL_law 898 = .ok (.iconst 0, 1) := by decide +kernel
theorem dL_law_899 : decode cL_law 899 = .ok (.ireturn, 1) := by decide +kernel
theorem dL_law_900 : decode cL_law 900 = .ok (.iload 5, 2) := by decide +kernel
theorem dL_law_902 : decode cL_law 902 = .ok (.ifCond .ne 22, 3) := by decide +kernel
theorem dL_law_905 : decode cL_law 905 = .ok (.aload_n 3, 1) := by decide +kernel
theorem dL_law_906 : decode cL_law 906 = .ok (.iconst 0, 1) := by decide +kernel
theorem dL_law_907 : decode cL_law 907 = .ok (.laload, 1) := by decide +kernel
theorem dL_law_908 : decode cL_law 908 = .ok (.iload 6, 2) := by decide +kernel
theorem dL_law_910 : decode cL_law 910 = .ok (.ifCond .eq 7, 3) := by decide +kernel
theorem dL_law_913 : decode cL_law 913 = .ok (.lconst 1, 1) := by decide +kernel
theorem dL_law_914 : decode cL_law 914 = .ok (.goto 4, 3) := by decide +kernel
theorem dL_law_917 : decode cL_law 917 = .ok (.lconst 0, 1) := by decide +kernel
theorem dL_law_918 : decode cL_law 918 = .ok (.lcmp, 1) := by decide +kernel
theorem dL_law_919 : decode cL_law 919 = .ok (.ifCond .eq 5, 3) := by decide +kernel
theorem dL_law_922 : decode cL_law 922 = .ok (.iconst 0, 1) := by decide +kernel
theorem dL_law_923 : decode cL_law 923 = .ok (.ireturn, 1) := by decide +kernel
theorem dL_law_924 : decode cL_law 924 = .ok (.goto 1237, 3) := by decide +kernel
theorem dL_law_927 : decode cL_law 927 = .ok (.aload_n 1, 1) := by decide +kernel
theorem dL_law_928 : decode cL_law 928 = .ok (.aload_n 0, 1) := by decide +kernel
theorem dL_law_929 : decode cL_law 929 = .ok (.iload 4, 2) := by decide +kernel
theorem dL_law_931 : decode cL_law 931 = .ok (.iconst 1, 1) := by decide +kernel
theorem dL_law_932 : decode cL_law 932 = .ok (.iadd, 1) := by decide +kernel
theorem dL_law_933 : decode cL_law 933 = .ok (.iaload, 1) := by decide +kernel
theorem dL_law_934 : decode cL_law 934 = .ok (.aload_n 3, 1) := by decide +kernel
theorem dL_law_935 : decode cL_law 935 = .ok (.invokestatic 159, 3) := by decide +kernel
theorem dL_law_938 : decode cL_law 938 = .ok (.istore 5, 2) := by decide +kernel
theorem dL_law_940 : decode cL_law 940 = .ok (.aload_n 2, 1) := by decide +kernel
theorem dL_law_941 : decode cL_law 941 = .ok (.aload_n 0, 1) := by decide +kernel
theorem dL_law_942 : decode cL_law 942 = .ok (.iload 4, 2) := by decide +kernel
theorem dL_law_944 : decode cL_law 944 = .ok (.iconst 1, 1) := by decide +kernel
theorem dL_law_945 : decode cL_law 945 = .ok (.iadd, 1) := by decide +kernel
theorem dL_law_946 : decode cL_law 946 = .ok (.iaload, 1) := by decide +kernel
theorem dL_law_947 : decode cL_law 947 = .ok (.invokevirtual 161, 3) := by decide +kernel
theorem dL_law_950 : decode cL_law 950 = .ok (.istore 6, 2) := by decide +kernel
theorem dL_law_952 : decode cL_law 952 = .ok (.aload_n 2, 1) := by decide +kernel
theorem dL_law_953 : decode cL_law 953 = .ok (.invokevirtual 118, 3) := by decide +kernel
theorem dL_law_956 : decode cL_law 956 = .ok (.iload 5, 2) := by decide +kernel
theorem dL_law_958 : decode cL_law 958 = .ok (.if_icmp .eq 5, 3) := by decide +kernel
theorem dL_law_961 : decode cL_law 961 = .ok (.iconst 0, 1) := by decide +kernel
theorem dL_law_962 : decode cL_law 962 = .ok (.ireturn, 1) := by decide +kernel
theorem dL_law_963 : decode cL_law 963 = .ok (.iload 5, 2) := by decide +kernel
theorem dL_law_965 : decode cL_law 965 = .ok (.ifCond .ne 22, 3) := by decide +kernel
theorem dL_law_968 : decode cL_law 968 = .ok (.aload_n 3, 1) := by decide +kernel
theorem dL_law_969 : decode cL_law 969 = .ok (.iconst 0, 1) := by decide +kernel
theorem dL_law_970 : decode cL_law 970 = .ok (.laload, 1) := by decide +kernel
theorem dL_law_971 : decode cL_law 971 = .ok (.iload 6, 2) := by decide +kernel
theorem dL_law_973 : decode cL_law 973 = .ok (.ifCond .eq 7, 3) := by decide +kernel
theorem dL_law_976 : decode cL_law 976 = .ok (.lconst 1, 1) := by decide +kernel
theorem dL_law_977 : decode cL_law 977 = .ok (.goto 4, 3) := by decide +kernel
theorem dL_law_980 : decode cL_law 980 = .ok (.lconst 0, 1) := by decide +kernel
theorem dL_law_981 : decode cL_law 981 = .ok (.lcmp, 1) := by decide +kernel
theorem dL_law_982 : decode cL_law 982 = .ok (.ifCond .eq 5, 3) := by decide +kernel
theorem dL_law_985 : decode cL_law 985 = .ok (.iconst 0, 1) := by decide +kernel
theorem dL_law_986 : decode cL_law 986 = .ok (.ireturn, 1) := by decide +kernel
theorem dL_law_987 : decode cL_law 987 = .ok (.goto 1174, 3) := by decide +kernel
theorem dL_law_990 : decode cL_law 990 = .ok (.aload_n 1, 1) := by decide +kernel
theorem dL_law_991 : decode cL_law 991 = .ok (.aload_n 0, 1) := by decide +kernel
theorem dL_law_992 : decode cL_law 992 = .ok (.iload 4, 2) := by decide +kernel
theorem dL_law_994 : decode cL_law 994 = .ok (.iconst 1, 1) := by decide +kernel
theorem dL_law_995 : decode cL_law 995 = .ok (.iadd, 1) := by decide +kernel
theorem dL_law_996 : decode cL_law 996 = .ok (.iaload, 1) := by decide +kernel
theorem dL_law_997 : decode cL_law 997 = .ok (.aload_n 3, 1) := by decide +kernel
theorem dL_law_998 : decode cL_law 998 = .ok (.invokestatic 162, 3) := by decide +kernel
theorem dL_law_1001 : decode cL_law 1001 = .ok (.istore 5, 2) := by decide +kernel
theorem dL_law_1003 : decode cL_law 1003 = .ok (.aload_n 2, 1) := by decide +kernel
theorem dL_law_1004 : decode cL_law 1004 = .ok (.aload_n 0, 1) := by decide +kernel
theorem dL_law_1005 : decode cL_law 1005 = .ok (.iload 4, 2) := by decide +kernel
theorem dL_law_1007 : decode cL_law 1007 = .ok (.iconst 1, 1) := by decide +kernel
theorem dL_law_1008 : decode cL_law 1008 = .ok (.iadd, 1) := by decide +kernel
theorem dL_law_1009 : decode cL_law 1009 = .ok (.iaload, 1) := by decide +kernel
theorem dL_law_1010 : decode cL_law 1010 = .ok (.invokevirtual 164, 3) := by decide +kernel
theorem dL_law_1013 : decode cL_law 1013 = .ok (.istore 6, 2) := by decide +kernel
theorem dL_law_1015 : decode cL_law 1015 = .ok (.aload_n 2, 1) := by decide +kernel
theorem dL_law_1016 : decode cL_law 1016 = .ok (.invokevirtual 118, 3) := by decide +kernel
theorem dL_law_1019 : decode cL_law 1019 = .ok (.iload 5, 2) := by decide +kernel
theorem dL_law_1021 : decode cL_law 1021 = .ok (.if_icmp .eq 5, 3) := by decide +kernel
theorem dL_law_1024 : decode cL_law 1024 = .ok (.iconst 0, 1) := by decide +kernel
theorem dL_law_1025 : decode cL_law 1025 = .ok (.ireturn, 1) := by decide +kernel
theorem dL_law_1026 : decode cL_law 1026 = .ok (.iload 5, 2) := by decide +kernel
theorem dL_law_1028 : decode cL_law 1028 = .ok (.ifCond .ne 15, 3) := by decide +kernel
theorem dL_law_1031 : decode cL_law 1031 = .ok (.aload_n 3, 1) := by decide +kernel
theorem dL_law_1032 : decode cL_law 1032 = .ok (.iconst 0, 1) := by decide +kernel
theorem dL_law_1033 : decode cL_law 1033 = .ok (.laload, 1) := by decide +kernel
theorem dL_law_1034 : decode cL_law 1034 = .ok (.iload 6, 2) := by decide +kernel
theorem dL_law_1036 : decode cL_law 1036 = .ok (.i2l, 1) := by decide +kernel
theorem dL_law_1037 : decode cL_law 1037 = .ok (.lcmp, 1) := by decide +kernel
theorem dL_law_1038 : decode cL_law 1038 = .ok (.ifCond .eq 5, 3) := by decide +kernel
theorem dL_law_1041 : decode cL_law 1041 = .ok (.iconst 0, 1) := by decide +kernel
theorem dL_law_1042 : decode cL_law 1042 = .ok (.ireturn, 1) := by decide +kernel
theorem dL_law_1043 : decode cL_law 1043 = .ok (.goto 1118, 3) := by decide +kernel
theorem dL_law_1046 : decode cL_law 1046 = .ok (.aload_n 1, 1) := by decide +kernel
theorem dL_law_1047 : decode cL_law 1047 = .ok (.aload_n 0, 1) := by decide +kernel
theorem dL_law_1048 : decode cL_law 1048 = .ok (.iload 4, 2) := by decide +kernel
theorem dL_law_1050 : decode cL_law 1050 = .ok (.iconst 1, 1) := by decide +kernel
theorem dL_law_1051 : decode cL_law 1051 = .ok (.iadd, 1) := by decide +kernel
theorem dL_law_1052 : decode cL_law 1052 = .ok (.iaload, 1) := by decide +kernel
theorem dL_law_1053 : decode cL_law 1053 = .ok (.aload_n 3, 1) := by decide +kernel
theorem dL_law_1054 : decode cL_law 1054 = .ok (.invokestatic 165, 3) := by decide +kernel
theorem dL_law_1057 : decode cL_law 1057 = .ok (.istore 5, 2) := by decide +kernel
theorem dL_law_1059 : decode cL_law 1059 = .ok (.aload_n 2, 1) := by decide +kernel
theorem dL_law_1060 : decode cL_law 1060 = .ok (.aload_n 0, 1) := by decide +kernel
theorem dL_law_1061 : decode cL_law 1061 = .ok (.iload 4, 2) := by decide +kernel
theorem dL_law_1063 : decode cL_law 1063 = .ok (.iconst 1, 1) := by decide +kernel
theorem dL_law_1064 : decode cL_law 1064 = .ok (.iadd, 1) := by decide +kernel
theorem dL_law_1065 : decode cL_law 1065 = .ok (.iaload, 1) := by decide +kernel
theorem dL_law_1066 : decode cL_law 1066 = .ok (.invokevirtual 167, 3) := by decide +kernel
theorem dL_law_1069 : decode cL_law 1069 = .ok (.istore 6, 2) := by decide +kernel
theorem dL_law_1071 : decode cL_law 1071 = .ok (.aload_n 2, 1) := by decide +kernel
theorem dL_law_1072 : decode cL_law 1072 = .ok (.invokevirtual 118, 3) := by decide +kernel
theorem dL_law_1075 : decode cL_law 1075 = .ok (.iload 5, 2) := by decide +kernel
theorem dL_law_1077 : decode cL_law 1077 = .ok (.if_icmp .eq 5, 3) := by decide +kernel
theorem dL_law_1080 : decode cL_law 1080 = .ok (.iconst 0, 1) := by decide +kernel
theorem dL_law_1081 : decode cL_law 1081 = .ok (.ireturn, 1) := by decide +kernel
theorem dL_law_1082 : decode cL_law 1082 = .ok (.iload 5, 2) := by decide +kernel
theorem dL_law_1084 : decode cL_law 1084 = .ok (.ifCond .ne 22, 3) := by decide +kernel
theorem dL_law_1087 : decode cL_law 1087 = .ok (.aload_n 3, 1) := by decide +kernel
theorem dL_law_1088 : decode cL_law 1088 = .ok (.iconst 0, 1) := by decide +kernel
theorem dL_law_1089 : decode cL_law 1089 = .ok (.laload, 1) := by decide +kernel
theorem dL_law_1090 : decode cL_law 1090 = .ok (.iload 6, 2) := by decide +kernel
theorem dL_law_1092 : decode cL_law 1092 = .ok (.ifCond .eq 7, 3) := by decide +kernel
theorem dL_law_1095 : decode cL_law 1095 = .ok (.lconst 1, 1) := by decide +kernel
theorem dL_law_1096 : decode cL_law 1096 = .ok (.goto 4, 3) := by decide +kernel
theorem dL_law_1099 : decode cL_law 1099 = .ok (.lconst 0, 1) := by decide +kernel
theorem dL_law_1100 : decode cL_law 1100 = .ok (.lcmp, 1) := by decide +kernel
theorem dL_law_1101 : decode cL_law 1101 = .ok (.ifCond .eq 5, 3) := by decide +kernel
theorem dL_law_1104 : decode cL_law 1104 = .ok (.iconst 0, 1) := by decide +kernel
theorem dL_law_1105 : decode cL_law 1105 = .ok (.ireturn, 1) := by decide +kernel
theorem dL_law_1106 : decode cL_law 1106 = .ok (.goto 1055, 3) := by decide +kernel
theorem dL_law_1109 : decode cL_law 1109 = .ok (.aload_n 1, 1) := by decide +kernel
theorem dL_law_1110 : decode cL_law 1110 = .ok (.aload_n 0, 1) := by decide +kernel
theorem dL_law_1111 : decode cL_law 1111 = .ok (.iload 4, 2) := by decide +kernel
theorem dL_law_1113 : decode cL_law 1113 = .ok (.iconst 1, 1) := by decide +kernel
theorem dL_law_1114 : decode cL_law 1114 = .ok (.iadd, 1) := by decide +kernel
theorem dL_law_1115 : decode cL_law 1115 = .ok (.iaload, 1) := by decide +kernel
theorem dL_law_1116 : decode cL_law 1116 = .ok (.aload_n 3, 1) := by decide +kernel
theorem dL_law_1117 : decode cL_law 1117 = .ok (.invokestatic 168, 3) := by decide +kernel
theorem dL_law_1120 : decode cL_law 1120 = .ok (.istore 5, 2) := by decide +kernel
theorem dL_law_1122 : decode cL_law 1122 = .ok (.aload_n 2, 1) := by decide +kernel
theorem dL_law_1123 : decode cL_law 1123 = .ok (.aload_n 0, 1) := by decide +kernel
theorem dL_law_1124 : decode cL_law 1124 = .ok (.iload 4, 2) := by decide +kernel
theorem dL_law_1126 : decode cL_law 1126 = .ok (.iconst 1, 1) := by decide +kernel
theorem dL_law_1127 : decode cL_law 1127 = .ok (.iadd, 1) := by decide +kernel
theorem dL_law_1128 : decode cL_law 1128 = .ok (.iaload, 1) := by decide +kernel
theorem dL_law_1129 : decode cL_law 1129 = .ok (.invokevirtual 170, 3) := by decide +kernel
theorem dL_law_1132 : decode cL_law 1132 = .ok (.istore 6, 2) := by decide +kernel
theorem dL_law_1134 : decode cL_law 1134 = .ok (.aload_n 2, 1) := by decide +kernel
theorem dL_law_1135 : decode cL_law 1135 = .ok (.invokevirtual 118, 3) := by decide +kernel
theorem dL_law_1138 : decode cL_law 1138 = .ok (.iload 5, 2) := by decide +kernel
theorem dL_law_1140 : decode cL_law 1140 = .ok (.if_icmp .eq 5, 3) := by decide +kernel
theorem dL_law_1143 : decode cL_law 1143 = .ok (.iconst 0, 1) := by decide +kernel
theorem dL_law_1144 : decode cL_law 1144 = .ok (.ireturn, 1) := by decide +kernel
theorem dL_law_1145 : decode cL_law 1145 = .ok (.iload 5, 2) := by decide +kernel
theorem dL_law_1147 : decode cL_law 1147 = .ok (.ifCond .ne 15, 3) := by decide +kernel
theorem dL_law_1150 : decode cL_law 1150 = .ok (.aload_n 3, 1) := by decide +kernel
theorem dL_law_1151 : decode cL_law 1151 = .ok (.iconst 0, 1) := by decide +kernel
theorem dL_law_1152 : decode cL_law 1152 = .ok (.laload, 1) := by decide +kernel
theorem dL_law_1153 : decode cL_law 1153 = .ok (.iload 6, 2) := by decide +kernel
theorem dL_law_1155 : decode cL_law 1155 = .ok (.i2l, 1) := by decide +kernel
theorem dL_law_1156 : decode cL_law 1156 = .ok (.lcmp, 1) := by decide +kernel
theorem dL_law_1157 : decode cL_law 1157 = .ok (.ifCond .eq 5, 3) := by decide +kernel
theorem dL_law_1160 : decode cL_law 1160 = .ok (.iconst 0, 1) := by decide +kernel
theorem dL_law_1161 : decode cL_law 1161 = .ok (.ireturn, 1) := by decide +kernel
theorem dL_law_1162 : decode cL_law 1162 = .ok (.goto 999, 3) := by decide +kernel
theorem dL_law_1165 : decode cL_law 1165 = .ok (.aload_n 1, 1) := by decide +kernel
theorem dL_law_1166 : decode cL_law 1166 = .ok (.aload_n 0, 1) := by decide +kernel
theorem dL_law_1167 : decode cL_law 1167 = .ok (.iload 4, 2) := by decide +kernel
theorem dL_law_1169 : decode cL_law 1169 = .ok (.iconst 1, 1) := by decide +kernel
theorem dL_law_1170 : decode cL_law 1170 = .ok (.iadd, 1) := by decide +kernel
theorem dL_law_1171 : decode cL_law 1171 = .ok (.iaload, 1) := by decide +kernel
theorem dL_law_1172 : decode cL_law 1172 = .ok (.aload_n 3, 1) := by decide +kernel
theorem dL_law_1173 : decode cL_law 1173 = .ok (.invokestatic 171, 3) := by decide +kernel
theorem dL_law_1176 : decode cL_law 1176 = .ok (.istore 5, 2) := by decide +kernel
theorem dL_law_1178 : decode cL_law 1178 = .ok (.aload_n 2, 1) := by decide +kernel
theorem dL_law_1179 : decode cL_law 1179 = .ok (.aload_n 0, 1) := by decide +kernel
theorem dL_law_1180 : decode cL_law 1180 = .ok (.iload 4, 2) := by decide +kernel
theorem dL_law_1182 : decode cL_law 1182 = .ok (.iconst 1, 1) := by decide +kernel
theorem dL_law_1183 : decode cL_law 1183 = .ok (.iadd, 1) := by decide +kernel
theorem dL_law_1184 : decode cL_law 1184 = .ok (.iaload, 1) := by decide +kernel
theorem dL_law_1185 : decode cL_law 1185 = .ok (.invokevirtual 173, 3) := by decide +kernel
theorem dL_law_1188 : decode cL_law 1188 = .ok (.istore 6, 2) := by decide +kernel
theorem dL_law_1190 : decode cL_law 1190 = .ok (.aload_n 2, 1) := by decide +kernel
theorem dL_law_1191 : decode cL_law 1191 = .ok (.invokevirtual 118, 3) := by decide +kernel
theorem dL_law_1194 : decode cL_law 1194 = .ok (.iload 5, 2) := by decide +kernel
theorem dL_law_1196 : decode cL_law 1196 = .ok (.if_icmp .eq 5, 3) := by decide +kernel
theorem dL_law_1199 : decode cL_law 1199 = .ok (.iconst 0, 1) := by decide +kernel
theorem dL_law_1200 : decode cL_law 1200 = .ok (.ireturn, 1) := by decide +kernel
theorem dL_law_1201 : decode cL_law 1201 = .ok (.iload 5, 2) := by decide +kernel
theorem dL_law_1203 : decode cL_law 1203 = .ok (.ifCond .ne 15, 3) := by decide +kernel
theorem dL_law_1206 : decode cL_law 1206 = .ok (.aload_n 3, 1) := by decide +kernel
theorem dL_law_1207 : decode cL_law 1207 = .ok (.iconst 0, 1) := by decide +kernel
theorem dL_law_1208 : decode cL_law 1208 = .ok (.laload, 1) := by decide +kernel
theorem dL_law_1209 : decode cL_law 1209 = .ok (.iload 6, 2) := by decide +kernel
theorem dL_law_1211 : decode cL_law 1211 = .ok (.i2l, 1) := by decide +kernel
theorem dL_law_1212 : decode cL_law 1212 = .ok (.lcmp, 1) := by decide +kernel
theorem dL_law_1213 : decode cL_law 1213 = .ok (.ifCond .eq 5, 3) := by decide +kernel
theorem dL_law_1216 : decode cL_law 1216 = .ok (.iconst 0, 1) := by decide +kernel
theorem dL_law_1217 : decode cL_law 1217 = .ok (.ireturn, 1) := by decide +kernel
theorem dL_law_1218 : decode cL_law 1218 = .ok (.goto 943, 3) := by decide +kernel
theorem dL_law_1221 : decode cL_law 1221 = .ok (.aload_n 1, 1) := by decide +kernel
theorem dL_law_1222 : decode cL_law 1222 = .ok (.aload_n 0, 1) := by decide +kernel
theorem dL_law_1223 : decode cL_law 1223 = .ok (.iload 4, 2) := by decide +kernel
theorem dL_law_1225 : decode cL_law 1225 = .ok (.iconst 1, 1) := by decide +kernel
theorem dL_law_1226 : decode cL_law 1226 = .ok (.iadd, 1) := by decide +kernel
theorem dL_law_1227 : decode cL_law 1227 = .ok (.iaload, 1) := by decide +kernel
theorem dL_law_1228 : decode cL_law 1228 = .ok (.aload_n 3, 1) := by decide +kernel
theorem dL_law_1229 : decode cL_law 1229 = .ok (.invokestatic 174, 3) := by decide +kernel
theorem dL_law_1232 : decode cL_law 1232 = .ok (.istore 5, 2) := by decide +kernel
theorem dL_law_1234 : decode cL_law 1234 = .ok (.aload_n 2, 1) := by decide +kernel
theorem dL_law_1235 : decode cL_law 1235 = .ok (.aload_n 0, 1) := by decide +kernel
theorem dL_law_1236 : decode cL_law 1236 = .ok (.iload 4, 2) := by decide +kernel
theorem dL_law_1238 : decode cL_law 1238 = .ok (.iconst 1, 1) := by decide +kernel
theorem dL_law_1239 : decode cL_law 1239 = .ok (.iadd, 1) := by decide +kernel
theorem dL_law_1240 : decode cL_law 1240 = .ok (.iaload, 1) := by decide +kernel
theorem dL_law_1241 : decode cL_law 1241 = .ok (.invokevirtual 176, 3) := by decide +kernel
theorem dL_law_1244 : decode cL_law 1244 = .ok (.istore 6, 2) := by decide +kernel
theorem dL_law_1246 : decode cL_law 1246 = .ok (.aload_n 2, 1) := by decide +kernel
theorem dL_law_1247 : decode cL_law 1247 = .ok (.invokevirtual 118, 3) := by decide +kernel
theorem dL_law_1250 : decode cL_law 1250 = .ok (.iload 5, 2) := by decide +kernel
theorem dL_law_1252 : decode cL_law 1252 = .ok (.if_icmp .eq 5, 3) := by decide +kernel
theorem dL_law_1255 : decode cL_law 1255 = .ok (.iconst 0, 1) := by decide +kernel
theorem dL_law_1256 : decode cL_law 1256 = .ok (.ireturn, 1) := by decide +kernel
theorem dL_law_1257 : decode cL_law 1257 = .ok (.iload 5, 2) := by decide +kernel
theorem dL_law_1259 : decode cL_law 1259 = .ok (.ifCond .ne 15, 3) := by decide +kernel
theorem dL_law_1262 : decode cL_law 1262 = .ok (.aload_n 3, 1) := by decide +kernel
theorem dL_law_1263 : decode cL_law 1263 = .ok (.iconst 0, 1) := by decide +kernel
theorem dL_law_1264 : decode cL_law 1264 = .ok (.laload, 1) := by decide +kernel
theorem dL_law_1265 : decode cL_law 1265 = .ok (.iload 6, 2) := by decide +kernel
theorem dL_law_1267 : decode cL_law 1267 = .ok (.i2l, 1) := by decide +kernel
theorem dL_law_1268 : decode cL_law 1268 = .ok (.lcmp, 1) := by decide +kernel
theorem dL_law_1269 : decode cL_law 1269 = .ok (.ifCond .eq 5, 3) := by decide +kernel
theorem dL_law_1272 : decode cL_law 1272 = .ok (.iconst 0, 1) := by decide +kernel
theorem dL_law_1273 : decode cL_law 1273 = .ok (.ireturn, 1) := by decide +kernel
theorem dL_law_1274 : decode cL_law 1274 = .ok (.goto 887, 3) := by decide +kernel
theorem dL_law_1277 : decode cL_law 1277 = .ok (.aload_n 1, 1) := by decide +kernel
theorem dL_law_1278 : decode cL_law 1278 = .ok (.aload_n 0, 1) := by decide +kernel
theorem dL_law_1279 : decode cL_law 1279 = .ok (.iload 4, 2) := by decide +kernel
theorem dL_law_1281 : decode cL_law 1281 = .ok (.iconst 1, 1) := by decide +kernel
theorem dL_law_1282 : decode cL_law 1282 = .ok (.iadd, 1) := by decide +kernel
theorem dL_law_1283 : decode cL_law 1283 = .ok (.iaload, 1) := by decide +kernel
theorem dL_law_1284 : decode cL_law 1284 = .ok (.aload_n 3, 1) := by decide +kernel
theorem dL_law_1285 : decode cL_law 1285 = .ok (.invokestatic 177, 3) := by decide +kernel
theorem dL_law_1288 : decode cL_law 1288 = .ok (.istore 5, 2) := by decide +kernel
theorem dL_law_1290 : decode cL_law 1290 = .ok (.aload_n 2, 1) := by decide +kernel
theorem dL_law_1291 : decode cL_law 1291 = .ok (.aload_n 0, 1) := by decide +kernel
theorem dL_law_1292 : decode cL_law 1292 = .ok (.iload 4, 2) := by decide +kernel
theorem dL_law_1294 : decode cL_law 1294 = .ok (.iconst 1, 1) := by decide +kernel
theorem dL_law_1295 : decode cL_law 1295 = .ok (.iadd, 1) := by decide +kernel
theorem dL_law_1296 : decode cL_law 1296 = .ok (.iaload, 1) := by decide +kernel
theorem dL_law_1297 : decode cL_law 1297 = .ok (.invokevirtual 179, 3) := by decide +kernel
theorem dL_law_1300 : decode cL_law 1300 = .ok (.istore 6, 2) := by decide +kernel
theorem dL_law_1302 : decode cL_law 1302 = .ok (.aload_n 2, 1) := by decide +kernel
theorem dL_law_1303 : decode cL_law 1303 = .ok (.invokevirtual 118, 3) := by decide +kernel
theorem dL_law_1306 : decode cL_law 1306 = .ok (.iload 5, 2) := by decide +kernel
theorem dL_law_1308 : decode cL_law 1308 = .ok (.if_icmp .eq 5, 3) := by decide +kernel
theorem dL_law_1311 : decode cL_law 1311 = .ok (.iconst 0, 1) := by decide +kernel
theorem dL_law_1312 : decode cL_law 1312 = .ok (.ireturn, 1) := by decide +kernel
theorem dL_law_1313 : decode cL_law 1313 = .ok (.iload 5, 2) := by decide +kernel
theorem dL_law_1315 : decode cL_law 1315 = .ok (.ifCond .ne 15, 3) := by decide +kernel
theorem dL_law_1318 : decode cL_law 1318 = .ok (.aload_n 3, 1) := by decide +kernel
theorem dL_law_1319 : decode cL_law 1319 = .ok (.iconst 0, 1) := by decide +kernel
theorem dL_law_1320 : decode cL_law 1320 = .ok (.laload, 1) := by decide +kernel
theorem dL_law_1321 : decode cL_law 1321 = .ok (.iload 6, 2) := by decide +kernel
theorem dL_law_1323 : decode cL_law 1323 = .ok (.i2l, 1) := by decide +kernel
theorem dL_law_1324 : decode cL_law 1324 = .ok (.lcmp, 1) := by decide +kernel
theorem dL_law_1325 : decode cL_law 1325 = .ok (.ifCond .eq 5, 3) := by decide +kernel
theorem dL_law_1328 : decode cL_law 1328 = .ok (.iconst 0, 1) := by decide +kernel
theorem dL_law_1329 : decode cL_law 1329 = .ok (.ireturn, 1) := by decide +kernel
theorem dL_law_1330 : decode cL_law 1330 = .ok (.goto 831, 3) := by decide +kernel
theorem dL_law_1333 : decode cL_law 1333 = .ok (.aload_n 1, 1) := by decide +kernel
theorem dL_law_1334 : decode cL_law 1334 = .ok (.invokevirtual 180, 3) := by decide +kernel
theorem dL_law_1337 : decode cL_law 1337 = .ok (.aload_n 2, 1) := by decide +kernel
theorem dL_law_1338 : decode cL_law 1338 = .ok (.invokevirtual 183, 3) := by decide +kernel
theorem dL_law_1341 : decode cL_law 1341 = .ok (.if_icmp .eq 820, 3) := by decide +kernel
theorem dL_law_1344 : decode cL_law 1344 = .ok (.iconst 0, 1) := by decide +kernel
theorem dL_law_1345 : decode cL_law 1345 = .ok (.ireturn, 1) := by decide +kernel
theorem dL_law_1346 : decode cL_law 1346 = .ok (.aload_n 1, 1) := by decide +kernel
theorem dL_law_1347 : decode cL_law 1347 = .ok (.aload_n 0, 1) := by decide +kernel
theorem dL_law_1348 : decode cL_law 1348 = .ok (.iload 4, 2) := by decide +kernel
theorem dL_law_1350 : decode cL_law 1350 = .ok (.iconst 1, 1) := by decide +kernel
theorem dL_law_1351 : decode cL_law 1351 = .ok (.iadd, 1) := by decide +kernel
theorem dL_law_1352 : decode cL_law 1352 = .ok (.iaload, 1) := by decide +kernel
theorem dL_law_1353 : decode cL_law 1353 = .ok (.aload_n 3, 1) := by decide +kernel
theorem dL_law_1354 : decode cL_law 1354 = .ok (.invokestatic 184, 3) := by decide +kernel
theorem dL_law_1357 : decode cL_law 1357 = .ok (.istore 5, 2) := by decide +kernel
theorem dL_law_1359 : decode cL_law 1359 = .ok (.aload_n 2, 1) := by decide +kernel
theorem dL_law_1360 : decode cL_law 1360 = .ok (.aload_n 0, 1) := by decide +kernel
theorem dL_law_1361 : decode cL_law 1361 = .ok (.iload 4, 2) := by decide +kernel
theorem dL_law_1363 : decode cL_law 1363 = .ok (.iconst 1, 1) := by decide +kernel
theorem dL_law_1364 : decode cL_law 1364 = .ok (.iadd, 1) := by decide +kernel
theorem dL_law_1365 : decode cL_law 1365 = .ok (.iaload, 1) := by decide +kernel
theorem dL_law_1366 : decode cL_law 1366 = .ok (.invokevirtual 186, 3) := by decide +kernel
theorem dL_law_1369 : decode cL_law 1369 = .ok (.istore 6, 2) := by decide +kernel
theorem dL_law_1371 : decode cL_law 1371 = .ok (.aload_n 2, 1) := by decide +kernel
theorem dL_law_1372 : decode cL_law 1372 = .ok (.invokevirtual 118, 3) := by decide +kernel
theorem dL_law_1375 : decode cL_law 1375 = .ok (.iload 5, 2) := by decide +kernel
theorem dL_law_1377 : decode cL_law 1377 = .ok (.if_icmp .eq 5, 3) := by decide +kernel
theorem dL_law_1380 : decode cL_law 1380 = .ok (.iconst 0, 1) := by decide +kernel
theorem dL_law_1381 : decode cL_law 1381 = .ok (.ireturn, 1) := by decide +kernel
theorem dL_law_1382 : decode cL_law 1382 = .ok (.iload 5, 2) := by decide +kernel
theorem dL_law_1384 : decode cL_law 1384 = .ok (.ifCond .ne 15, 3) := by decide +kernel
theorem dL_law_1387 : decode cL_law 1387 = .ok (.aload_n 3, 1) := by decide +kernel
theorem dL_law_1388 : decode cL_law 1388 = .ok (.iconst 0, 1) := by decide +kernel
theorem dL_law_1389 : decode cL_law 1389 = .ok (.laload, 1) := by decide +kernel
theorem dL_law_1390 : decode cL_law 1390 = .ok (.iload 6, 2) := by decide +kernel
theorem dL_law_1392 : decode cL_law 1392 = .ok (.i2l, 1) := by decide +kernel
theorem dL_law_1393 : decode cL_law 1393 = .ok (.lcmp, 1) := by decide +kernel
theorem dL_law_1394 : decode cL_law 1394 = .ok (.ifCond .eq 5, 3) := by decide +kernel
theorem dL_law_1397 : decode cL_law 1397 = .ok (.iconst 0, 1) := by decide +kernel
theorem dL_law_1398 : decode cL_law 1398 = .ok (.ireturn, 1) := by decide +kernel
theorem dL_law_1399 : decode cL_law 1399 = .ok (.goto 762, 3) := by decide +kernel
theorem dL_law_1402 : decode cL_law 1402 = .ok (.aload_n 1, 1) := by decide +kernel
theorem dL_law_1403 : decode cL_law 1403 = .ok (.aload_n 0, 1) := by decide +kernel
theorem dL_law_1404 : decode cL_law 1404 = .ok (.iload 4, 2) := by decide +kernel
theorem dL_law_1406 : decode cL_law 1406 = .ok (.iconst 1, 1) := by decide +kernel
theorem dL_law_1407 : decode cL_law 1407 = .ok (.iadd, 1) := by decide +kernel
theorem dL_law_1408 : decode cL_law 1408 = .ok (.iaload, 1) := by decide +kernel
theorem dL_law_1409 : decode cL_law 1409 = .ok (.aload_n 3, 1) := by decide +kernel
theorem dL_law_1410 : decode cL_law 1410 = .ok (.invokestatic 187, 3) := by decide +kernel
theorem dL_law_1413 : decode cL_law 1413 = .ok (.istore 5, 2) := by decide +kernel
theorem dL_law_1415 : decode cL_law 1415 = .ok (.aload_n 2, 1) := by decide +kernel
theorem dL_law_1416 : decode cL_law 1416 = .ok (.aload_n 0, 1) := by decide +kernel
theorem dL_law_1417 : decode cL_law 1417 = .ok (.iload 4, 2) := by decide +kernel
theorem dL_law_1419 : decode cL_law 1419 = .ok (.iconst 1, 1) := by decide +kernel
theorem dL_law_1420 : decode cL_law 1420 = .ok (.iadd, 1) := by decide +kernel
theorem dL_law_1421 : decode cL_law 1421 = .ok (.iaload, 1) := by decide +kernel
theorem dL_law_1422 : decode cL_law 1422 = .ok (.invokevirtual 189, 3) := by decide +kernel
theorem dL_law_1425 : decode cL_law 1425 = .ok (.istore 6, 2) := by decide +kernel
theorem dL_law_1427 : decode cL_law 1427 = .ok (.aload_n 2, 1) := by decide +kernel
theorem dL_law_1428 : decode cL_law 1428 = .ok (.invokevirtual 118, 3) := by decide +kernel
theorem dL_law_1431 : decode cL_law 1431 = .ok (.iload 5, 2) := by decide +kernel
theorem dL_law_1433 : decode cL_law 1433 = .ok (.if_icmp .eq 5, 3) := by decide +kernel
theorem dL_law_1436 : decode cL_law 1436 = .ok (.iconst 0, 1) := by decide +kernel
theorem dL_law_1437 : decode cL_law 1437 = .ok (.ireturn, 1) := by decide +kernel
theorem dL_law_1438 : decode cL_law 1438 = .ok (.iload 5, 2) := by decide +kernel
theorem dL_law_1440 : decode cL_law 1440 = .ok (.ifCond .ne 15, 3) := by decide +kernel
theorem dL_law_1443 : decode cL_law 1443 = .ok (.aload_n 3, 1) := by decide +kernel
theorem dL_law_1444 : decode cL_law 1444 = .ok (.iconst 0, 1) := by decide +kernel
theorem dL_law_1445 : decode cL_law 1445 = .ok (.laload, 1) := by decide +kernel
theorem dL_law_1446 : decode cL_law 1446 = .ok (.iload 6, 2) := by decide +kernel
theorem dL_law_1448 : decode cL_law 1448 = .ok (.i2l, 1) := by decide +kernel
theorem dL_law_1449 : decode cL_law 1449 = .ok (.lcmp, 1) := by decide +kernel
theorem dL_law_1450 : decode cL_law 1450 = .ok (.ifCond .eq 5, 3) := by decide +kernel
theorem dL_law_1453 : decode cL_law 1453 = .ok (.iconst 0, 1) := by decide +kernel
theorem dL_law_1454 : decode cL_law 1454 = .ok (.ireturn, 1) := by decide +kernel
theorem dL_law_1455 : decode cL_law 1455 = .ok (.goto 706, 3) := by decide +kernel
theorem dL_law_1458 : decode cL_law 1458 = .ok (.aload_n 1, 1) := by decide +kernel
theorem dL_law_1459 : decode cL_law 1459 = .ok (.aload_n 0, 1) := by decide +kernel
theorem dL_law_1460 : decode cL_law 1460 = .ok (.iload 4, 2) := by decide +kernel
theorem dL_law_1462 : decode cL_law 1462 = .ok (.iconst 1, 1) := by decide +kernel
theorem dL_law_1463 : decode cL_law 1463 = .ok (.iadd, 1) := by decide +kernel
theorem dL_law_1464 : decode cL_law 1464 = .ok (.iaload, 1) := by decide +kernel
theorem dL_law_1465 : decode cL_law 1465 = .ok (.aload_n 3, 1) := by decide +kernel
theorem dL_law_1466 : decode cL_law 1466 = .ok (.invokestatic 190, 3) := by decide +kernel
theorem dL_law_1469 : decode cL_law 1469 = .ok (.istore 5, 2) := by decide +kernel
theorem dL_law_1471 : decode cL_law 1471 = .ok (.aload_n 2, 1) := by decide +kernel
theorem dL_law_1472 : decode cL_law 1472 = .ok (.aload_n 0, 1) := by decide +kernel
theorem dL_law_1473 : decode cL_law 1473 = .ok (.iload 4, 2) := by decide +kernel
theorem dL_law_1475 : decode cL_law 1475 = .ok (.iconst 1, 1) := by decide +kernel
theorem dL_law_1476 : decode cL_law 1476 = .ok (.iadd, 1) := by decide +kernel
theorem dL_law_1477 : decode cL_law 1477 = .ok (.iaload, 1) := by decide +kernel
theorem dL_law_1478 : decode cL_law 1478 = .ok (.invokevirtual 192, 3) := by decide +kernel
theorem dL_law_1481 : decode cL_law 1481 = .ok (.istore 6, 2) := by decide +kernel
theorem dL_law_1483 : decode cL_law 1483 = .ok (.aload_n 2, 1) := by decide +kernel
theorem dL_law_1484 : decode cL_law 1484 = .ok (.invokevirtual 118, 3) := by decide +kernel
theorem dL_law_1487 : decode cL_law 1487 = .ok (.iload 5, 2) := by decide +kernel
theorem dL_law_1489 : decode cL_law 1489 = .ok (.if_icmp .eq 5, 3) := by decide +kernel
theorem dL_law_1492 : decode cL_law 1492 = .ok (.iconst 0, 1) := by decide +kernel
theorem dL_law_1493 : decode cL_law 1493 = .ok (.ireturn, 1) := by decide +kernel
theorem dL_law_1494 : decode cL_law 1494 = .ok (.iload 5, 2) := by decide +kernel
theorem dL_law_1496 : decode cL_law 1496 = .ok (.ifCond .ne 22, 3) := by decide +kernel
theorem dL_law_1499 : decode cL_law 1499 = .ok (.aload_n 3, 1) := by decide +kernel
theorem dL_law_1500 : decode cL_law 1500 = .ok (.iconst 0, 1) := by decide +kernel
theorem dL_law_1501 : decode cL_law 1501 = .ok (.laload, 1) := by decide +kernel
theorem dL_law_1502 : decode cL_law 1502 = .ok (.iload 6, 2) := by decide +kernel
theorem dL_law_1504 : decode cL_law 1504 = .ok (.ifCond .eq 7, 3) := by decide +kernel
theorem dL_law_1507 : decode cL_law 1507 = .ok (.lconst 1, 1) := by decide +kernel
theorem dL_law_1508 : decode cL_law 1508 = .ok (.goto 4, 3) := by decide +kernel
theorem dL_law_1511 : decode cL_law 1511 = .ok (.lconst 0, 1) := by decide +kernel
theorem dL_law_1512 : decode cL_law 1512 = .ok (.lcmp, 1) := by decide +kernel
theorem dL_law_1513 : decode cL_law 1513 = .ok (.ifCond .eq 5, 3) := by decide +kernel
theorem dL_law_1516 : decode cL_law 1516 = .ok (.iconst 0, 1) := by decide +kernel
theorem dL_law_1517 : decode cL_law 1517 = .ok (.ireturn, 1) := by decide +kernel
theorem dL_law_1518 : decode cL_law 1518 = .ok (.goto 643, 3) := by decide +kernel
theorem dL_law_1521 : decode cL_law 1521 = .ok (.aload_n 1, 1) := by decide +kernel
theorem dL_law_1522 : decode cL_law 1522 = .ok (.aload_n 0, 1) := by decide +kernel
theorem dL_law_1523 : decode cL_law 1523 = .ok (.iload 4, 2) := by decide +kernel
theorem dL_law_1525 : decode cL_law 1525 = .ok (.iconst 1, 1) := by decide +kernel
theorem dL_law_1526 : decode cL_law 1526 = .ok (.iadd, 1) := by decide +kernel
theorem dL_law_1527 : decode cL_law 1527 = .ok (.iaload, 1) := by decide +kernel
theorem dL_law_1528 : decode cL_law 1528 = .ok (.aload_n 3, 1) := by decide +kernel
theorem dL_law_1529 : decode cL_law 1529 = .ok (.invokestatic 193, 3) := by decide +kernel
theorem dL_law_1532 : decode cL_law 1532 = .ok (.istore 5, 2) := by decide +kernel
theorem dL_law_1534 : decode cL_law 1534 = .ok (.aload_n 2, 1) := by decide +kernel
theorem dL_law_1535 : decode cL_law 1535 = .ok (.aload_n 0, 1) := by decide +kernel
theorem dL_law_1536 : decode cL_law 1536 = .ok (.iload 4, 2) := by decide +kernel
theorem dL_law_1538 : decode cL_law 1538 = .ok (.iconst 1, 1) := by decide +kernel
theorem dL_law_1539 : decode cL_law 1539 = .ok (.iadd, 1) := by decide +kernel
theorem dL_law_1540 : decode cL_law 1540 = .ok (.iaload, 1) := by decide +kernel
theorem dL_law_1541 : decode cL_law 1541 = .ok (.invokevirtual 195, 3) := by decide +kernel
theorem dL_law_1544 : decode cL_law 1544 = .ok (.istore 6, 2) := by decide +kernel
theorem dL_law_1546 : decode cL_law 1546 = .ok (.aload_n 2, 1) := by decide +kernel
theorem dL_law_1547 : decode cL_law 1547 = .ok (.invokevirtual 118, 3) := by decide +kernel
theorem dL_law_1550 : decode cL_law 1550 = .ok (.iload 5, 2) := by decide +kernel
theorem dL_law_1552 : decode cL_law 1552 = .ok (.if_icmp .eq 5, 3) := by decide +kernel
theorem dL_law_1555 : decode cL_law 1555 = .ok (.iconst 0, 1) := by decide +kernel
theorem dL_law_1556 : decode cL_law 1556 = .ok (.ireturn, 1) := by decide +kernel
theorem dL_law_1557 : decode cL_law 1557 = .ok (.iload 5, 2) := by decide +kernel
theorem dL_law_1559 : decode cL_law 1559 = .ok (.ifCond .ne 22, 3) := by decide +kernel
theorem dL_law_1562 : decode cL_law 1562 = .ok (.aload_n 3, 1) := by decide +kernel
theorem dL_law_1563 : decode cL_law 1563 = .ok (.iconst 0, 1) := by decide +kernel
theorem dL_law_1564 : decode cL_law 1564 = .ok (.laload, 1) := by decide +kernel
theorem dL_law_1565 : decode cL_law 1565 = .ok (.iload 6, 2) := by decide +kernel
theorem dL_law_1567 : decode cL_law 1567 = .ok (.ifCond .eq 7, 3) := by decide +kernel
theorem dL_law_1570 : decode cL_law 1570 = .ok (.lconst 1, 1) := by decide +kernel
theorem dL_law_1571 : decode cL_law 1571 = .ok (.goto 4, 3) := by decide +kernel
theorem dL_law_1574 : decode cL_law 1574 = .ok (.lconst 0, 1) := by decide +kernel
theorem dL_law_1575 : decode cL_law 1575 = .ok (.lcmp, 1) := by decide +kernel
theorem dL_law_1576 : decode cL_law 1576 = .ok (.ifCond .eq 5, 3) := by decide +kernel
theorem dL_law_1579 : decode cL_law 1579 = .ok (.iconst 0, 1) := by decide +kernel
theorem dL_law_1580 : decode cL_law 1580 = .ok (.ireturn, 1) := by decide +kernel
theorem dL_law_1581 : decode cL_law 1581 = .ok (.goto 580, 3) := by decide +kernel
theorem dL_law_1584 : decode cL_law 1584 = .ok (.aload_n 1, 1) := by decide +kernel
theorem dL_law_1585 : decode cL_law 1585 = .ok (.aload_n 0, 1) := by decide +kernel
theorem dL_law_1586 : decode cL_law 1586 = .ok (.iload 4, 2) := by decide +kernel
theorem dL_law_1588 : decode cL_law 1588 = .ok (.iconst 1, 1) := by decide +kernel
theorem dL_law_1589 : decode cL_law 1589 = .ok (.iadd, 1) := by decide +kernel
theorem dL_law_1590 : decode cL_law 1590 = .ok (.iaload, 1) := by decide +kernel
theorem dL_law_1591 : decode cL_law 1591 = .ok (.aload_n 3, 1) := by decide +kernel
theorem dL_law_1592 : decode cL_law 1592 = .ok (.invokestatic 196, 3) := by decide +kernel
theorem dL_law_1595 : decode cL_law 1595 = .ok (.istore 5, 2) := by decide +kernel
theorem dL_law_1597 : decode cL_law 1597 = .ok (.aload_n 2, 1) := by decide +kernel
theorem dL_law_1598 : decode cL_law 1598 = .ok (.aload_n 0, 1) := by decide +kernel
theorem dL_law_1599 : decode cL_law 1599 = .ok (.iload 4, 2) := by decide +kernel
theorem dL_law_1601 : decode cL_law 1601 = .ok (.iconst 1, 1) := by decide +kernel
theorem dL_law_1602 : decode cL_law 1602 = .ok (.iadd, 1) := by decide +kernel
theorem dL_law_1603 : decode cL_law 1603 = .ok (.iaload, 1) := by decide +kernel
theorem dL_law_1604 : decode cL_law 1604 = .ok (.invokevirtual 198, 3) := by decide +kernel
theorem dL_law_1607 : decode cL_law 1607 = .ok (.istore 6, 2) := by decide +kernel
theorem dL_law_1609 : decode cL_law 1609 = .ok (.aload_n 2, 1) := by decide +kernel
theorem dL_law_1610 : decode cL_law 1610 = .ok (.invokevirtual 118, 3) := by decide +kernel
theorem dL_law_1613 : decode cL_law 1613 = .ok (.iload 5, 2) := by decide +kernel
theorem dL_law_1615 : decode cL_law 1615 = .ok (.if_icmp .eq 5, 3) := by decide +kernel
theorem dL_law_1618 : decode cL_law 1618 = .ok (.iconst 0, 1) := by decide +kernel
theorem dL_law_1619 : decode cL_law 1619 = .ok (.ireturn, 1) := by decide +kernel
theorem dL_law_1620 : decode cL_law 1620 = .ok (.iload 5, 2) := by decide +kernel
theorem dL_law_1622 : decode cL_law 1622 = .ok (.ifCond .ne 15, 3) := by decide +kernel
theorem dL_law_1625 : decode cL_law 1625 = .ok (.aload_n 3, 1) := by decide +kernel
theorem dL_law_1626 : decode cL_law 1626 = .ok (.iconst 0, 1) := by decide +kernel
theorem dL_law_1627 : decode cL_law 1627 = .ok (.laload, 1) := by decide +kernel
theorem dL_law_1628 : decode cL_law 1628 = .ok (.iload 6, 2) := by decide +kernel
theorem dL_law_1630 : decode cL_law 1630 = .ok (.i2l, 1) := by decide +kernel
theorem dL_law_1631 : decode cL_law 1631 = .ok (.lcmp, 1) := by decide +kernel
theorem dL_law_1632 : decode cL_law 1632 = .ok (.ifCond .eq 5, 3) := by decide +kernel
theorem dL_law_1635 : decode cL_law 1635 = .ok (.iconst 0, 1) := by decide +kernel
theorem dL_law_1636 : decode cL_law 1636 = .ok (.ireturn, 1) := by decide +kernel
theorem dL_law_1637 : decode cL_law 1637 = .ok (.goto 524, 3) := by decide +kernel
theorem dL_law_1640 : decode cL_law 1640 = .ok (.aload_n 1, 1) := by decide +kernel
theorem dL_law_1641 : decode cL_law 1641 = .ok (.aload_n 0, 1) := by decide +kernel
theorem dL_law_1642 : decode cL_law 1642 = .ok (.iload 4, 2) := by decide +kernel
theorem dL_law_1644 : decode cL_law 1644 = .ok (.iconst 1, 1) := by decide +kernel
theorem dL_law_1645 : decode cL_law 1645 = .ok (.iadd, 1) := by decide +kernel
theorem dL_law_1646 : decode cL_law 1646 = .ok (.iaload, 1) := by decide +kernel
theorem dL_law_1647 : decode cL_law 1647 = .ok (.aload_n 3, 1) := by decide +kernel
theorem dL_law_1648 : decode cL_law 1648 = .ok (.invokestatic 199, 3) := by decide +kernel
theorem dL_law_1651 : decode cL_law 1651 = .ok (.istore 5, 2) := by decide +kernel
theorem dL_law_1653 : decode cL_law 1653 = .ok (.aload_n 2, 1) := by decide +kernel
theorem dL_law_1654 : decode cL_law 1654 = .ok (.aload_n 0, 1) := by decide +kernel
theorem dL_law_1655 : decode cL_law 1655 = .ok (.iload 4, 2) := by decide +kernel
theorem dL_law_1657 : decode cL_law 1657 = .ok (.iconst 1, 1) := by decide +kernel
theorem dL_law_1658 : decode cL_law 1658 = .ok (.iadd, 1) := by decide +kernel
theorem dL_law_1659 : decode cL_law 1659 = .ok (.iaload, 1) := by decide +kernel
theorem dL_law_1660 : decode cL_law 1660 = .ok (.invokevirtual 201, 3) := by decide +kernel
theorem dL_law_1663 : decode cL_law 1663 = .ok (.istore 6, 2) := by decide +kernel
theorem dL_law_1665 : decode cL_law 1665 = .ok (.aload_n 2, 1) := by decide +kernel
theorem dL_law_1666 : decode cL_law 1666 = .ok (.invokevirtual 118, 3) := by decide +kernel
theorem dL_law_1669 : decode cL_law 1669 = .ok (.iload 5, 2) := by decide +kernel
theorem dL_law_1671 : decode cL_law 1671 = .ok (.if_icmp .eq 5, 3) := by decide +kernel
theorem dL_law_1674 : decode cL_law 1674 = .ok (.iconst 0, 1) := by decide +kernel
theorem dL_law_1675 : decode cL_law 1675 = .ok (.ireturn, 1) := by decide +kernel
theorem dL_law_1676 : decode cL_law 1676 = .ok (.iload 5, 2) := by decide +kernel
theorem dL_law_1678 : decode cL_law 1678 = .ok (.ifCond .ne 22, 3) := by decide +kernel
theorem dL_law_1681 : decode cL_law 1681 = .ok (.aload_n 3, 1) := by decide +kernel
theorem dL_law_1682 : decode cL_law 1682 = .ok (.iconst 0, 1) := by decide +kernel
theorem dL_law_1683 : decode cL_law 1683 = .ok (.laload, 1) := by decide +kernel
theorem dL_law_1684 : decode cL_law 1684 = .ok (.iload 6, 2) := by decide +kernel
theorem dL_law_1686 : decode cL_law 1686 = .ok (.ifCond .eq 7, 3) := by decide +kernel
theorem dL_law_1689 : decode cL_law 1689 = .ok (.lconst 1, 1) := by decide +kernel
theorem dL_law_1690 : decode cL_law 1690 = .ok (.goto 4, 3) := by decide +kernel
theorem dL_law_1693 : decode cL_law 1693 = .ok (.lconst 0, 1) := by decide +kernel
theorem dL_law_1694 : decode cL_law 1694 = .ok (.lcmp, 1) := by decide +kernel
theorem dL_law_1695 : decode cL_law 1695 = .ok (.ifCond .eq 5, 3) := by decide +kernel
theorem dL_law_1698 : decode cL_law 1698 = .ok (.iconst 0, 1) := by decide +kernel
theorem dL_law_1699 : decode cL_law 1699 = .ok (.ireturn, 1) := by decide +kernel
theorem dL_law_1700 : decode cL_law 1700 = .ok (.goto 461, 3) := by decide +kernel
theorem dL_law_1703 : decode cL_law 1703 = .ok (.aload_n 1, 1) := by decide +kernel
theorem dL_law_1704 : decode cL_law 1704 = .ok (.invokevirtual 202, 3) := by decide +kernel
theorem dL_law_1707 : decode cL_law 1707 = .ok (.aload_n 2, 1) := by decide +kernel
theorem dL_law_1708 : decode cL_law 1708 = .ok (.invokevirtual 205, 3) := by decide +kernel
theorem dL_law_1711 : decode cL_law 1711 = .ok (.if_icmp .eq 450, 3) := by decide +kernel
theorem dL_law_1714 : decode cL_law 1714 = .ok (.iconst 0, 1) := by decide +kernel
theorem dL_law_1715 : decode cL_law 1715 = .ok (.ireturn, 1) := by decide +kernel
theorem dL_law_1716 : decode cL_law 1716 = .ok (.aload_n 1, 1) := by decide +kernel
theorem dL_law_1717 : decode cL_law 1717 = .ok (.aload_n 0, 1) := by decide +kernel
theorem dL_law_1718 : decode cL_law 1718 = .ok (.iload 4, 2) := by decide +kernel
theorem dL_law_1720 : decode cL_law 1720 = .ok (.iconst 1, 1) := by decide +kernel
theorem dL_law_1721 : decode cL_law 1721 = .ok (.iadd, 1) := by decide +kernel
theorem dL_law_1722 : decode cL_law 1722 = .ok (.iaload, 1) := by decide +kernel
theorem dL_law_1723 : decode cL_law 1723 = .ok (.aload_n 3, 1) := by decide +kernel
theorem dL_law_1724 : decode cL_law 1724 = .ok (.invokestatic 206, 3) := by decide +kernel
theorem dL_law_1727 : decode cL_law 1727 = .ok (.istore 5, 2) := by decide +kernel
theorem dL_law_1729 : decode cL_law 1729 = .ok (.aload_n 2, 1) := by decide +kernel
theorem dL_law_1730 : decode cL_law 1730 = .ok (.aload_n 0, 1) := by decide +kernel
theorem dL_law_1731 : decode cL_law 1731 = .ok (.iload 4, 2) := by decide +kernel
theorem dL_law_1733 : decode cL_law 1733 = .ok (.iconst 1, 1) := by decide +kernel
theorem dL_law_1734 : decode cL_law 1734 = .ok (.iadd, 1) := by decide +kernel
theorem dL_law_1735 : decode cL_law 1735 = .ok (.iaload, 1) := by decide +kernel
theorem dL_law_1736 : decode cL_law 1736 = .ok (.invokevirtual 208, 3) := by decide +kernel
theorem dL_law_1739 : decode cL_law 1739 = .ok (.istore 6, 2) := by decide +kernel
theorem dL_law_1741 : decode cL_law 1741 = .ok (.aload_n 2, 1) := by decide +kernel
theorem dL_law_1742 : decode cL_law 1742 = .ok (.invokevirtual 118, 3) := by decide +kernel
theorem dL_law_1745 : decode cL_law 1745 = .ok (.iload 5, 2) := by decide +kernel
theorem dL_law_1747 : decode cL_law 1747 = .ok (.if_icmp .eq 5, 3) := by decide +kernel
theorem dL_law_1750 : decode cL_law 1750 = .ok (.iconst 0, 1) := by decide +kernel
theorem dL_law_1751 : decode cL_law 1751 = .ok (.ireturn, 1) := by decide +kernel
theorem dL_law_1752 : decode cL_law 1752 = .ok (.iload 5, 2) := by decide +kernel
theorem dL_law_1754 : decode cL_law 1754 = .ok (.ifCond .ne 15, 3) := by decide +kernel
theorem dL_law_1757 : decode cL_law 1757 = .ok (.aload_n 3, 1) := by decide +kernel
theorem dL_law_1758 : decode cL_law 1758 = .ok (.iconst 0, 1) := by decide +kernel
theorem dL_law_1759 : decode cL_law 1759 = .ok (.laload, 1) := by decide +kernel
theorem dL_law_1760 : decode cL_law 1760 = .ok (.iload 6, 2) := by decide +kernel
theorem dL_law_1762 : decode cL_law 1762 = .ok (.i2l, 1) := by decide +kernel
theorem dL_law_1763 : decode cL_law 1763 = .ok (.lcmp, 1) := by decide +kernel
theorem dL_law_1764 : decode cL_law 1764 = .ok (.ifCond .eq 5, 3) := by decide +kernel
theorem dL_law_1767 : decode cL_law 1767 = .ok (.iconst 0, 1) := by decide +kernel
theorem dL_law_1768 : decode cL_law 1768 = .ok (.ireturn, 1) := by decide +kernel
theorem dL_law_1769 : decode cL_law 1769 = .ok (.goto 392, 3) := by decide +kernel
theorem dL_law_1772 : decode cL_law 1772 = .ok (.aload_n 1, 1) := by decide +kernel
theorem dL_law_1773 : decode cL_law 1773 = .ok (.invokevirtual 209, 3) := by decide +kernel
theorem dL_law_1776 : decode cL_law 1776 = .ok (.aload_n 2, 1) := by decide +kernel
theorem dL_law_1777 : decode cL_law 1777 = .ok (.invokevirtual 212, 3) := by decide +kernel
theorem dL_law_1780 : decode cL_law 1780 = .ok (.if_icmp .eq 381, 3) := by decide +kernel
theorem dL_law_1783 : decode cL_law 1783 = .ok (.iconst 0, 1) := by decide +kernel
theorem dL_law_1784 : decode cL_law 1784 = .ok (.ireturn, 1) := by decide +kernel
theorem dL_law_1785 : decode cL_law 1785 = .ok (.aload_n 1, 1) := by decide +kernel
theorem dL_law_1786 : decode cL_law 1786 = .ok (.invokevirtual 213, 3) := by decide +kernel
theorem dL_law_1789 : decode cL_law 1789 = .ok (.aload_n 2, 1) := by decide +kernel
theorem dL_law_1790 : decode cL_law 1790 = .ok (.invokevirtual 216, 3) := by decide +kernel
theorem dL_law_1793 : decode cL_law 1793 = .ok (.if_icmp .eq 368, 3) := by decide +kernel
theorem dL_law_1796 : decode cL_law 1796 = .ok (.iconst 0, 1) := by decide +kernel
theorem dL_law_1797 : decode cL_law 1797 = .ok (.ireturn, 1) := by decide +kernel
theorem dL_law_1798 : decode cL_law 1798 = .ok (.aload_n 1, 1) := by decide +kernel
theorem dL_law_1799 : decode cL_law 1799 = .ok (.invokevirtual 217, 3) := by decide +kernel
theorem dL_law_1802 : decode cL_law 1802 = .ok (.aload_n 2, 1) := by decide +kernel
theorem dL_law_1803 : decode cL_law 1803 = .ok (.invokevirtual 220, 3) := by decide +kernel
theorem dL_law_1806 : decode cL_law 1806 = .ok (.if_icmp .eq 355, 3) := by decide +kernel
theorem dL_law_1809 : decode cL_law 1809 = .ok (.iconst 0, 1) := by decide +kernel
theorem dL_law_1810 : decode cL_law 1810 = .ok (.ireturn, 1) := by decide +kernel
theorem dL_law_1811 : decode cL_law 1811 = .ok (.aload_n 1, 1) := by decide +kernel
theorem dL_law_1812 : decode cL_law 1812 = .ok (.invokevirtual 221, 3) := by decide +kernel
theorem dL_law_1815 : decode cL_law 1815 = .ok (.aload_n 2, 1) := by decide +kernel
theorem dL_law_1816 : decode cL_law 1816 = .ok (.invokevirtual 224, 3) := by decide +kernel
theorem dL_law_1819 : decode cL_law 1819 = .ok (.if_icmp .eq 342, 3) := by decide +kernel
theorem dL_law_1822 : decode cL_law 1822 = .ok (.iconst 0, 1) := by decide +kernel
theorem dL_law_1823 : decode cL_law 1823 = .ok (.ireturn, 1) := by decide +kernel
theorem dL_law_1824 : decode cL_law 1824 = .ok (.aload_n 1, 1) := by decide +kernel
theorem dL_law_1825 : decode cL_law 1825 = .ok (.invokevirtual 225, 3) := by decide +kernel
theorem dL_law_1828 : decode cL_law 1828 = .ok (.aload_n 2, 1) := by decide +kernel
theorem dL_law_1829 : decode cL_law 1829 = .ok (.invokevirtual 228, 3) := by decide +kernel
theorem dL_law_1832 : decode cL_law 1832 = .ok (.if_icmp .eq 329, 3) := by decide +kernel
theorem dL_law_1835 : decode cL_law 1835 = .ok (.iconst 0, 1) := by decide +kernel
theorem dL_law_1836 : decode cL_law 1836 = .ok (.ireturn, 1) := by decide +kernel
theorem dL_law_1837 : decode cL_law 1837 = .ok (.aload_n 1, 1) := by decide +kernel
theorem dL_law_1838 : decode cL_law 1838 = .ok (.invokevirtual 229, 3) := by decide +kernel
theorem dL_law_1841 : decode cL_law 1841 = .ok (.aload_n 2, 1) := by decide +kernel
theorem dL_law_1842 : decode cL_law 1842 = .ok (.invokevirtual 232, 3) := by decide +kernel
theorem dL_law_1845 : decode cL_law 1845 = .ok (.if_icmp .eq 316, 3) := by decide +kernel
theorem dL_law_1848 : decode cL_law 1848 = .ok (.iconst 0, 1) := by decide +kernel
theorem dL_law_1849 : decode cL_law 1849 = .ok (.ireturn, 1) := by decide +kernel
theorem dL_law_1850 : decode cL_law 1850 = .ok (.aload_n 1, 1) := by decide +kernel
theorem dL_law_1851 : decode cL_law 1851 = .ok (.aload_n 0, 1) := by decide +kernel
theorem dL_law_1852 : decode cL_law 1852 = .ok (.iload 4, 2) := by decide +kernel
theorem dL_law_1854 : decode cL_law 1854 = .ok (.iconst 1, 1) := by decide +kernel
theorem dL_law_1855 : decode cL_law 1855 = .ok (.iadd, 1) := by decide +kernel
theorem dL_law_1856 : decode cL_law 1856 = .ok (.iaload, 1) := by decide +kernel
theorem dL_law_1857 : decode cL_law 1857 = .ok (.aload_n 0, 1) := by decide +kernel
theorem dL_law_1858 : decode cL_law 1858 = .ok (.iload 4, 2) := by decide +kernel
theorem dL_law_1860 : decode cL_law 1860 = .ok (.iconst 2, 1) := by decide +kernel
theorem dL_law_1861 : decode cL_law 1861 = .ok (.iadd, 1) := by decide +kernel
theorem dL_law_1862 : decode cL_law 1862 = .ok (.iaload, 1) := by decide +kernel
theorem dL_law_1863 : decode cL_law 1863 = .ok (.aload_n 3, 1) := by decide +kernel
theorem dL_law_1864 : decode cL_law 1864 = .ok (.invokestatic 233, 3) := by decide +kernel
theorem dL_law_1867 : decode cL_law 1867 = .ok (.istore 5, 2) := by decide +kernel
theorem dL_law_1869 : decode cL_law 1869 = .ok (.aload_n 2, 1) := by decide +kernel
theorem dL_law_1870 : decode cL_law 1870 = .ok (.aload_n 0, 1) := by decide +kernel
theorem dL_law_1871 : decode cL_law 1871 = .ok (.iload 4, 2) := by decide +kernel
theorem dL_law_1873 : decode cL_law 1873 = .ok (.iconst 1, 1) := by decide +kernel
theorem dL_law_1874 : decode cL_law 1874 = .ok (.iadd, 1) := by decide +kernel
theorem dL_law_1875 : decode cL_law 1875 = .ok (.iaload, 1) := by decide +kernel
theorem dL_law_1876 : decode cL_law 1876 = .ok (.aload_n 0, 1) := by decide +kernel
theorem dL_law_1877 : decode cL_law 1877 = .ok (.iload 4, 2) := by decide +kernel
theorem dL_law_1879 : decode cL_law 1879 = .ok (.iconst 2, 1) := by decide +kernel
theorem dL_law_1880 : decode cL_law 1880 = .ok (.iadd, 1) := by decide +kernel
theorem dL_law_1881 : decode cL_law 1881 = .ok (.iaload, 1) := by decide +kernel
theorem dL_law_1882 : decode cL_law 1882 = .ok (.invokevirtual 235, 3) := by decide +kernel
theorem dL_law_1885 : decode cL_law 1885 = .ok (.istore 6, 2) := by decide +kernel
theorem dL_law_1887 : decode cL_law 1887 = .ok (.aload_n 2, 1) := by decide +kernel
theorem dL_law_1888 : decode cL_law 1888 = .ok (.invokevirtual 118, 3) := by decide +kernel
theorem dL_law_1891 : decode cL_law 1891 = .ok (.iload 5, 2) := by decide +kernel
theorem dL_law_1893 : decode cL_law 1893 = .ok (.if_icmp .eq 5, 3) := by decide +kernel
theorem dL_law_1896 : decode cL_law 1896 = .ok (.iconst 0, 1) := by decide +kernel
theorem dL_law_1897 : decode cL_law 1897 = .ok (.ireturn, 1) := by decide +kernel
theorem dL_law_1898 : decode cL_law 1898 = .ok (.iload 5, 2) := by decide +kernel
theorem dL_law_1900 : decode cL_law 1900 = .ok (.ifCond .ne 22, 3) := by decide +kernel
theorem dL_law_1903 : decode cL_law 1903 = .ok (.aload_n 3, 1) := by decide +kernel
theorem dL_law_1904 : decode cL_law 1904 = .ok (.iconst 0, 1) := by decide +kernel
theorem dL_law_1905 : decode cL_law 1905 = .ok (.laload, 1) := by decide +kernel
theorem dL_law_1906 : decode cL_law 1906 = .ok (.iload 6, 2) := by decide +kernel
theorem dL_law_1908 : decode cL_law 1908 = .ok (.ifCond .eq 7, 3) := by decide +kernel
theorem dL_law_1911 : decode cL_law 1911 = .ok (.lconst 1, 1) := by decide +kernel
theorem dL_law_1912 : decode cL_law 1912 = .ok (.goto 4, 3) := by decide +kernel
theorem dL_law_1915 : decode cL_law 1915 = .ok (.lconst 0, 1) := by decide +kernel
theorem dL_law_1916 : decode cL_law 1916 = .ok (.lcmp, 1) := by decide +kernel
theorem dL_law_1917 : decode cL_law 1917 = .ok (.ifCond .eq 5, 3) := by decide +kernel
theorem dL_law_1920 : decode cL_law 1920 = .ok (.iconst 0, 1) := by decide +kernel
theorem dL_law_1921 : decode cL_law 1921 = .ok (.ireturn, 1) := by decide +kernel
theorem dL_law_1922 : decode cL_law 1922 = .ok (.goto 239, 3) := by decide +kernel
theorem dL_law_1925 : decode cL_law 1925 = .ok (.aload_n 1, 1) := by decide +kernel
theorem dL_law_1926 : decode cL_law 1926 = .ok (.aload_n 0, 1) := by decide +kernel
theorem dL_law_1927 : decode cL_law 1927 = .ok (.iload 4, 2) := by decide +kernel
theorem dL_law_1929 : decode cL_law 1929 = .ok (.iconst 1, 1) := by decide +kernel
theorem dL_law_1930 : decode cL_law 1930 = .ok (.iadd, 1) := by decide +kernel
theorem dL_law_1931 : decode cL_law 1931 = .ok (.iaload, 1) := by decide +kernel
theorem dL_law_1932 : decode cL_law 1932 = .ok (.aload_n 3, 1) := by decide +kernel
theorem dL_law_1933 : decode cL_law 1933 = .ok (.invokestatic 236, 3) := by decide +kernel
theorem dL_law_1936 : decode cL_law 1936 = .ok (.istore 5, 2) := by decide +kernel
theorem dL_law_1938 : decode cL_law 1938 = .ok (.aload_n 2, 1) := by decide +kernel
theorem dL_law_1939 : decode cL_law 1939 = .ok (.aload_n 0, 1) := by decide +kernel
theorem dL_law_1940 : decode cL_law 1940 = .ok (.iload 4, 2) := by decide +kernel
theorem dL_law_1942 : decode cL_law 1942 = .ok (.iconst 1, 1) := by decide +kernel
theorem dL_law_1943 : decode cL_law 1943 = .ok (.iadd, 1) := by decide +kernel
theorem dL_law_1944 : decode cL_law 1944 = .ok (.iaload, 1) := by decide +kernel
theorem dL_law_1945 : decode cL_law 1945 = .ok (.invokevirtual 238, 3) := by decide +kernel
theorem dL_law_1948 : decode cL_law 1948 = .ok (.istore 6, 2) := by decide +kernel
theorem dL_law_1950 : decode cL_law 1950 = .ok (.aload_n 2, 1) := by decide +kernel
theorem dL_law_1951 : decode cL_law 1951 = .ok (.invokevirtual 118, 3) := by decide +kernel
theorem dL_law_1954 : decode cL_law 1954 = .ok (.iload 5, 2) := by decide +kernel
theorem dL_law_1956 : decode cL_law 1956 = .ok (.if_icmp .eq 5, 3) := by decide +kernel
theorem dL_law_1959 : decode cL_law 1959 = .ok (.iconst 0, 1) := by decide +kernel
theorem dL_law_1960 : decode cL_law 1960 = .ok (.ireturn, 1) := by decide +kernel
theorem dL_law_1961 : decode cL_law 1961 = .ok (.iload 5, 2) := by decide +kernel
theorem dL_law_1963 : decode cL_law 1963 = .ok (.ifCond .ne 15, 3) := by decide +kernel
theorem dL_law_1966 : decode cL_law 1966 = .ok (.aload_n 3, 1) := by decide +kernel
theorem dL_law_1967 : decode cL_law 1967 = .ok (.iconst 0, 1) := by decide +kernel
theorem dL_law_1968 : decode cL_law 1968 = .ok (.laload, 1) := by decide +kernel
theorem dL_law_1969 : decode cL_law 1969 = .ok (.iload 6, 2) := by decide +kernel
theorem dL_law_1971 : decode cL_law 1971 = .ok (.i2l, 1) := by decide +kernel
theorem dL_law_1972 : decode cL_law 1972 = .ok (.lcmp, 1) := by decide +kernel
theorem dL_law_1973 : decode cL_law 1973 = .ok (.ifCond .eq 5, 3) := by decide +kernel
theorem dL_law_1976 : decode cL_law 1976 = .ok (.iconst 0, 1) := by decide +kernel
theorem dL_law_1977 : decode cL_law 1977 = .ok (.ireturn, 1) := by decide +kernel
theorem dL_law_1978 : decode cL_law 1978 = .ok (.goto 183, 3) := by decide +kernel
theorem dL_law_1981 : decode cL_law 1981 = .ok (.aload_n 1, 1) := by decide +kernel
theorem dL_law_1982 : decode cL_law 1982 = .ok (.invokevirtual 239, 3) := by decide +kernel
theorem dL_law_1985 : decode cL_law 1985 = .ok (.aload_n 2, 1) := by decide +kernel
theorem dL_law_1986 : decode cL_law 1986 = .ok (.invokevirtual 242, 3) := by decide +kernel
theorem dL_law_1989 : decode cL_law 1989 = .ok (.if_icmp .eq 172, 3) := by decide +kernel
theorem dL_law_1992 : decode cL_law 1992 = .ok (.iconst 0, 1) := by decide +kernel
theorem dL_law_1993 : decode cL_law 1993 = .ok (.ireturn, 1) := by decide +kernel
theorem dL_law_1994 : decode cL_law 1994 = .ok (.aload_n 1, 1) := by decide +kernel
theorem dL_law_1995 : decode cL_law 1995 = .ok (.aload_n 0, 1) := by decide +kernel
theorem dL_law_1996 : decode cL_law 1996 = .ok (.iload 4, 2) := by decide +kernel
theorem dL_law_1998 : decode cL_law 1998 = .ok (.iconst 1, 1) := by decide +kernel
theorem dL_law_1999 : decode cL_law 1999 = .ok (.iadd, 1) := by decide +kernel
theorem dL_law_2000 : decode cL_law 2000 = .ok (.iaload, 1) := by decide +kernel
theorem dL_law_2001 : decode cL_law 2001 = .ok (.aload_n 3, 1) := by decide +kernel
theorem dL_law_2002 : decode cL_law 2002 = .ok (.invokestatic 243, 3) := by decide +kernel
theorem dL_law_2005 : decode cL_law 2005 = .ok (.istore 5, 2) := by decide +kernel
theorem dL_law_2007 : decode cL_law 2007 = .ok (.aload_n 2, 1) := by decide +kernel
theorem dL_law_2008 : decode cL_law 2008 = .ok (.aload_n 0, 1) := by decide +kernel
theorem dL_law_2009 : decode cL_law 2009 = .ok (.iload 4, 2) := by decide +kernel
theorem dL_law_2011 : decode cL_law 2011 = .ok (.iconst 1, 1) := by decide +kernel
theorem dL_law_2012 : decode cL_law 2012 = .ok (.iadd, 1) := by decide +kernel
theorem dL_law_2013 : decode cL_law 2013 = .ok (.iaload, 1) := by decide +kernel
theorem dL_law_2014 : decode cL_law 2014 = .ok (.invokevirtual 245, 3) := by decide +kernel
theorem dL_law_2017 : decode cL_law 2017 = .ok (.istore 6, 2) := by decide +kernel
theorem dL_law_2019 : decode cL_law 2019 = .ok (.aload_n 2, 1) := by decide +kernel
theorem dL_law_2020 : decode cL_law 2020 = .ok (.invokevirtual 118, 3) := by decide +kernel
theorem dL_law_2023 : decode cL_law 2023 = .ok (.iload 5, 2) := by decide +kernel
theorem dL_law_2025 : decode cL_law 2025 = .ok (.if_icmp .eq 5, 3) := by decide +kernel
theorem dL_law_2028 : decode cL_law 2028 = .ok (.iconst 0, 1) := by decide +kernel
theorem dL_law_2029 : decode cL_law 2029 = .ok (.ireturn, 1) := by decide +kernel
theorem dL_law_2030 : decode cL_law 2030 = .ok (.iload 5, 2) := by decide +kernel
theorem dL_law_2032 : decode cL_law 2032 = .ok (.ifCond .ne 15, 3) := by decide +kernel
theorem dL_law_2035 : decode cL_law 2035 = .ok (.aload_n 3, 1) := by decide +kernel
theorem dL_law_2036 : decode cL_law 2036 = .ok (.iconst 0, 1) := by decide +kernel
theorem dL_law_2037 : decode cL_law 2037 = .ok (.laload, 1) := by decide +kernel
theorem dL_law_2038 : decode cL_law 2038 = .ok (.iload 6, 2) := by decide +kernel
theorem dL_law_2040 : decode cL_law 2040 = .ok (.i2l, 1) := by decide +kernel
theorem dL_law_2041 : decode cL_law 2041 = .ok (.lcmp, 1) := by decide +kernel
theorem dL_law_2042 : decode cL_law 2042 = .ok (.ifCond .eq 5, 3) := by decide +kernel
theorem dL_law_2045 : decode cL_law 2045 = .ok (.iconst 0, 1) := by decide +kernel
theorem dL_law_2046 : decode cL_law 2046 = .ok (.ireturn, 1) := by decide +kernel
theorem dL_law_2047 : decode cL_law 2047 = .ok (.goto 114, 3) := by decide +kernel
theorem dL_law_2050 : decode cL_law 2050 = .ok (.aload_n 1, 1) := by decide +kernel
theorem dL_law_2051 : decode cL_law 2051 = .ok (.aload_n 0, 1) := by decide +kernel
theorem dL_law_2052 : decode cL_law 2052 = .ok (.iload 4, 2) := by decide +kernel
theorem dL_law_2054 : decode cL_law 2054 = .ok (.iconst 1, 1) := by decide +kernel
theorem dL_law_2055 : decode cL_law 2055 = .ok (.iadd, 1) := by decide +kernel
theorem dL_law_2056 : decode cL_law 2056 = .ok (.iaload, 1) := by decide +kernel
theorem dL_law_2057 : decode cL_law 2057 = .ok (.aload_n 3, 1) := by decide +kernel
theorem dL_law_2058 : decode cL_law 2058 = .ok (.invokestatic 246, 3) := by decide +kernel
theorem dL_law_2061 : decode cL_law 2061 = .ok (.istore 5, 2) := by decide +kernel
theorem dL_law_2063 : decode cL_law 2063 = .ok (.aload_n 2, 1) := by decide +kernel
theorem dL_law_2064 : decode cL_law 2064 = .ok (.aload_n 0, 1) := by decide +kernel
theorem dL_law_2065 : decode cL_law 2065 = .ok (.iload 4, 2) := by decide +kernel
theorem dL_law_2067 : decode cL_law 2067 = .ok (.iconst 1, 1) := by decide +kernel
theorem dL_law_2068 : decode cL_law 2068 = .ok (.iadd, 1) := by decide +kernel
theorem dL_law_2069 : decode cL_law 2069 = .ok (.iaload, 1) := by decide +kernel
theorem dL_law_2070 : decode cL_law 2070 = .ok (.invokevirtual 248, 3) := by decide +kernel
theorem dL_law_2073 : decode cL_law 2073 = .ok (.istore 6, 2) := by decide +kernel
theorem dL_law_2075 : decode cL_law 2075 = .ok (.aload_n 2, 1) := by decide +kernel
theorem dL_law_2076 : decode cL_law 2076 = .ok (.invokevirtual 118, 3) := by decide +kernel
theorem dL_law_2079 : decode cL_law 2079 = .ok (.iload 5, 2) := by decide +kernel
theorem dL_law_2081 : decode cL_law 2081 = .ok (.if_icmp .eq 5, 3) := by decide +kernel
theorem dL_law_2084 : decode cL_law 2084 = .ok (.iconst 0, 1) := by decide +kernel
theorem dL_law_2085 : decode cL_law 2085 = .ok (.ireturn, 1) := by decide +kernel
theorem dL_law_2086 : decode cL_law 2086 = .ok (.iload 5, 2) := by decide +kernel
theorem dL_law_2088 : decode cL_law 2088 = .ok (.ifCond .ne 15, 3) := by decide +kernel
theorem dL_law_2091 : decode cL_law 2091 = .ok (.aload_n 3, 1) := by decide +kernel
theorem dL_law_2092 : decode cL_law 2092 = .ok (.iconst 0, 1) := by decide +kernel
theorem dL_law_2093 : decode cL_law 2093 = .ok (.laload, 1) := by decide +kernel
theorem dL_law_2094 : decode cL_law 2094 = .ok (.iload 6, 2) := by decide +kernel
theorem dL_law_2096 : decode cL_law 2096 = .ok (.i2l, 1) := by decide +kernel
theorem dL_law_2097 : decode cL_law 2097 = .ok (.lcmp, 1) := by decide +kernel
theorem dL_law_2098 : decode cL_law 2098 = .ok (.ifCond .eq 5, 3) := by decide +kernel
theorem dL_law_2101 : decode cL_law 2101 = .ok (.iconst 0, 1) := by decide +kernel
theorem dL_law_2102 : decode cL_law 2102 = .ok (.ireturn, 1) := by decide +kernel
theorem dL_law_2103 : decode cL_law 2103 = .ok (.goto 58, 3) := by decide +kernel
theorem dL_law_2106 : decode cL_law 2106 = .ok (.aload_n 1, 1) := by decide +kernel
theorem dL_law_2107 : decode cL_law 2107 = .ok (.invokevirtual 249, 3) := by decide +kernel
theorem dL_law_2110 : decode cL_law 2110 = .ok (.dstore 5, 2) := by decide +kernel
theorem dL_law_2112 : decode cL_law 2112 = .ok (.aload_n 2, 1) := by decide +kernel
theorem dL_law_2113 : decode cL_law 2113 = .ok (.invokevirtual 253, 3) := by decide +kernel
theorem dL_law_2116 : decode cL_law 2116 = .ok (.dstore 7, 2) := by decide +kernel
theorem dL_law_2118 : decode cL_law 2118 = .ok (.dload 5, 2) := by decide +kernel
theorem dL_law_2120 : decode cL_law 2120 = .ok (.dload 7, 2) := by decide +kernel
theorem dL_law_2122 : decode cL_law 2122 = .ok (.dcmp .l, 1) := by decide +kernel
theorem dL_law_2123 : decode cL_law 2123 = .ok (.ifCond .eq 21, 3) := by decide +kernel
theorem dL_law_2126 : decode cL_law 2126 = .ok (.dload 5, 2) := by decide +kernel
theorem dL_law_2128 : decode cL_law 2128 = .ok (.dload 5, 2) := by decide +kernel
theorem dL_law_2130 : decode cL_law 2130 = .ok (.dcmp .l, 1) := by decide +kernel
theorem dL_law_2131 : decode cL_law 2131 = .ok (.ifCond .eq 11, 3) := by decide +kernel
theorem dL_law_2134 : decode cL_law 2134 = .ok (.dload 7, 2) := by decide +kernel
theorem dL_law_2136 : decode cL_law 2136 = .ok (.dload 7, 2) := by decide +kernel
theorem dL_law_2138 : decode cL_law 2138 = .ok (.dcmp .l, 1) := by decide +kernel
theorem dL_law_2139 : decode cL_law 2139 = .ok (.ifCond .ne 5, 3) := by decide +kernel
theorem dL_law_2142 : decode cL_law 2142 = .ok (.iconst 0, 1) := by decide +kernel
theorem dL_law_2143 : decode cL_law 2143 = .ok (.ireturn, 1) := by decide +kernel
theorem dL_law_2144 : decode cL_law 2144 = .ok (.goto 17, 3) := by decide +kernel
theorem dL_law_2147 : decode cL_law 2147 = .ok (.aload_n 1, 1) := by decide +kernel
theorem dL_law_2148 : decode cL_law 2148 = .ok (.invokevirtual 254, 3) := by decide +kernel
theorem dL_law_2151 : decode cL_law 2151 = .ok (.aload_n 2, 1) := by decide +kernel
theorem dL_law_2152 : decode cL_law 2152 = .ok (.invokevirtual 258, 3) := by decide +kernel
theorem dL_law_2155 : decode cL_law 2155 = .ok (.lcmp, 1) := by decide +kernel
theorem dL_law_2156 : decode cL_law 2156 = .ok (.ifCond .eq 5, 3) := by decide +kernel
theorem dL_law_2159 : decode cL_law 2159 = .ok (.iconst 0, 1) := by decide +kernel
theorem dL_law_2160 : decode cL_law 2160 = .ok (.ireturn, 1) := by decide +kernel
theorem dL_law_2161 : decode cL_law 2161 = .ok (.iinc 4 4, 3) := by decide +kernel
theorem dL_law_2164 : decode cL_law 2164 = .ok (.goto (-2141), 3) := by decide +kernel
theorem dL_law_2167 : decode cL_law 2167 = .ok (.iconst 1, 1) := by decide +kernel
theorem dL_law_2168 : decode cL_law 2168 = .ok (.ireturn, 1) := by decide +kernel
