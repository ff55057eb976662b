theorem dL_act_0 : decode cL_act 0 = .ok (.aload_n 1, 1) := by decide +kernel
theorem dL_act_1 : decode cL_act 1 = .ok (.getfield 9, 3) := by decide +kernel
theorem dL_act_4 : decode cL_act 4 = .ok (.arraylength, 1) := by decide +kernel
theorem dL_act_5 : decode cL_act 5 = .ok (.ifCond .ne 7, 3) := by decide +kernel
theorem dL_act_8 : decode cL_act 8 = .ok (.iconst 0, 1) := by decide +kernel
theorem dL_act_9 : decode cL_act 9 = .ok (.goto 14, 3) := by decide +kernel
theorem dL_act_12 : decode cL_act 12 = .ok (.iload_n 2, 1) := by decide +kernel
theorem dL_act_13 : decode cL_act 13 = .ok (.iconst 4, 1) := by decide +kernel
theorem dL_act_14 : decode cL_act 14 = .ok (.ishr, 1) := by decide +kernel
theorem dL_act_15 : decode cL_act 15 = .ok (.aload_n 1, 1) := by decide +kernel
theorem dL_act_16 : decode cL_act 16 = .ok (.getfield 9, 3) := by decide +kernel
theorem dL_act_19 : decode cL_act 19 = .ok (.arraylength, 1) := by decide +kernel
theorem dL_act_20 : decode cL_act 20 = .ok (.invokestatic 15, 3) := by decide +kernel
theorem dL_act_23 : decode cL_act 23 = .ok (.istore_n 3, 1) := by decide +kernel
theorem dL_act_24 : decode cL_act 24 = .ok (.aload_n 1, 1) := by decide +kernel
theorem dL_act_25 : decode cL_act 25 = .ok (.getfield 21, 3) := by decide +kernel
theorem dL_act_28 : decode cL_act 28 = .ok (.arraylength, 1) := by decide +kernel
theorem dL_act_29 : decode cL_act 29 = .ok (.ifCond .ne 7, 3) := by decide +kernel
theorem dL_act_32 : decode cL_act 32 = .ok (.iconst 0, 1) := by decide +kernel
theorem dL_act_33 : decode cL_act 33 = .ok (.goto 15, 3) := by decide +kernel
theorem dL_act_36 : decode cL_act 36 = .ok (.iload_n 2, 1) := by decide +kernel
theorem dL_act_37 : decode cL_act 37 = .ok (.bipush 6, 2) := by decide +kernel
theorem dL_act_39 : decode cL_act 39 = .ok (.ishr, 1) := by decide +kernel
theorem dL_act_40 : decode cL_act 40 = .ok (.aload_n 1, 1) := by decide +kernel
theorem dL_act_41 : decode cL_act 41 = .ok (.getfield 21, 3) := by decide +kernel
theorem dL_act_44 : decode cL_act 44 = .ok (.arraylength, 1) := by decide +kernel
theorem dL_act_45 : decode cL_act 45 = .ok (.invokestatic 15, 3) := by decide +kernel
theorem dL_act_48 : decode cL_act 48 = .ok (.istore 4, 2) := by decide +kernel
theorem dL_act_50 : decode cL_act 50 = .ok (.aload_n 1, 1) := by decide +kernel
theorem dL_act_51 : decode cL_act 51 = .ok (.getfield 25, 3) := by decide +kernel
theorem dL_act_54 : decode cL_act 54 = .ok (.arraylength, 1) := by decide +kernel
theorem dL_act_55 : decode cL_act 55 = .ok (.ifCond .ne 7, 3) := by decide +kernel
theorem dL_act_58 : decode cL_act 58 = .ok (.iconst 0, 1) := by decide +kernel
theorem dL_act_59 : decode cL_act 59 = .ok (.goto 14, 3) := by decide +kernel
theorem dL_act_62 : decode cL_act 62 = .ok (.iload_n 2, 1) := by decide +kernel
theorem dL_act_63 : decode cL_act 63 = .ok (.iconst 5, 1) := by decide +kernel
theorem dL_act_64 : decode cL_act 64 = .ok (.ishr, 1) := by decide +kernel
theorem dL_act_65 : decode cL_act 65 = .ok (.aload_n 1, 1) := by decide +kernel
theorem dL_act_66 : decode cL_act 66 = .ok (.getfield 25, 3) := by decide +kernel
theorem dL_act_69 : decode cL_act 69 = .ok (.arraylength, 1) := by decide +kernel
theorem dL_act_70 : decode cL_act 70 = .ok (.invokestatic 15, 3) := by decide +kernel
theorem dL_act_73 : decode cL_act 73 = .ok (.istore 5, 2) := by decide +kernel
theorem dL_act_75 : decode cL_act 75 = .ok (.aload_n 1, 1) := by decide +kernel
theorem dL_act_76 : decode cL_act 76 = .ok (.getfield 9, 3) := by decide +kernel
theorem dL_act_79 : decode cL_act 79 = .ok (.arraylength, 1) := by decide +kernel
theorem dL_act_80 : decode cL_act 80 = .ok (.ifCond .le 20, 3) := by decide +kernel
theorem dL_act_83 : decode cL_act 83 = .ok (.aload_n 1, 1) := by decide +kernel
theorem dL_act_84 : decode cL_act 84 = .ok (.iload_n 2, 1) := by decide +kernel
theorem dL_act_85 : decode cL_act 85 = .ok (.iload_n 3, 1) := by decide +kernel
theorem dL_act_86 : decode cL_act 86 = .ok (.iload 4, 2) := by decide +kernel
theorem dL_act_88 : decode cL_act 88 = .ok (.iload 5, 2) := by decide +kernel
theorem dL_act_90 : decode cL_act 90 = .ok (.invokestatic 28, 3) := by decide +kernel
theorem dL_act_93 : decode cL_act 93 = .ok (.ifCond .eq 7, 3) := by decide +kernel
theorem dL_act_96 : decode cL_act 96 = .ok (.iconst 1, 1) := by decide +kernel
theorem dL_act_97 : decode cL_act 97 = .ok (.goto 4, 3) := by decide +kernel
theorem dL_act_100 : decode cL_act 100 = .ok (.iconst 0, 1) := by decide +kernel
theorem dL_act_101 : decode cL_act 101 = .ok (.istore 6, 2) := by decide +kernel
theorem dL_act_103 : decode cL_act 103 = .ok (.aload_n 1, 1) := by decide +kernel
theorem dL_act_104 : decode cL_act 104 = .ok (.getfield 9, 3) := by decide +kernel
theorem dL_act_107 : decode cL_act 107 = .ok (.arraylength, 1) := by decide +kernel
theorem dL_act_108 : decode cL_act 108 = .ok (.ifCond .ne 7, 3) := by decide +kernel
theorem dL_act_111 : decode cL_act 111 = .ok (.iconst 0, 1) := by decide +kernel
theorem dL_act_112 : decode cL_act 112 = .ok (.goto 9, 3) := by decide +kernel
theorem dL_act_115 : decode cL_act 115 = .ok (.iload_n 2, 1) := by decide +kernel
theorem dL_act_116 : decode cL_act 116 = .ok (.bipush 18, 2) := by decide +kernel
theorem dL_act_118 : decode cL_act 118 = .ok (.invokestatic 15, 3) := by decide +kernel
theorem dL_act_121 : decode cL_act 121 = .ok (.tableswitch 850 0 13 #[71, 150, 150, 271, 358, 417, 417, 536, 654, 654, 654, 757, 757, 757], 71) := by decide +kernel
theorem dL_act_192 : decode cL_act 192 = .ok (.iconst 1, 1) := by decide +kernel
theorem dL_act_193 : decode cL_act 193 = .ok (.iload_n 2, 1) := by decide +kernel
theorem dL_act_194 : decode cL_act 194 = .ok (.bipush 7, 2) := by decide +kernel
theorem dL_act_196 : decode cL_act 196 = .ok (.ishr, 1) := by decide +kernel
theorem dL_act_197 : decode cL_act 197 = .ok (.iconst 3, 1) := by decide +kernel
theorem dL_act_198 : decode cL_act 198 = .ok (.invokestatic 15, 3) := by decide +kernel
theorem dL_act_201 : decode cL_act 201 = .ok (.iadd, 1) := by decide +kernel
theorem dL_act_202 : decode cL_act 202 = .ok (.istore 7, 2) := by decide +kernel
theorem dL_act_204 : decode cL_act 204 = .ok (.iload 6, 2) := by decide +kernel
theorem dL_act_206 : decode cL_act 206 = .ok (.ifCond .eq 12, 3) := by decide +kernel
theorem dL_act_209 : decode cL_act 209 = .ok (.aload_n 0, 1) := by decide +kernel
theorem dL_act_210 : decode cL_act 210 = .ok (.iload 7, 2) := by decide +kernel
theorem dL_act_212 : decode cL_act 212 = .ok (.invokevirtual 32, 3) := by decide +kernel
theorem dL_act_215 : decode cL_act 215 = .ok (.pop, 1) := by decide +kernel
theorem dL_act_216 : decode cL_act 216 = .ok (.iconst 0, 1) := by decide +kernel
theorem dL_act_217 : decode cL_act 217 = .ok (.ireturn, 1) := by decide +kernel
theorem dL_act_218 : decode cL_act 218 = .ok (.aload_n 1, 1) := by decide +kernel
theorem dL_act_219 : decode cL_act 219 = .ok (.aload_n 1, 1) := by decide +kernel
theorem dL_act_220 : decode cL_act 220 = .ok (.getfield 9, 3) := by decide +kernel
theorem dL_act_223 : decode cL_act 223 = .ok (.iconst 4, 1) := by decide +kernel
theorem dL_act_224 : decode cL_act 224 = .ok (.newarray .int, 2) := by decide +kernel
theorem dL_act_226 : decode cL_act 226 = .ok (.dup, 1) := by decide +kernel
theorem dL_act_227 : decode cL_act 227 = .ok (.iconst 0, 1) := by decide +kernel
theorem dL_act_228 : decode cL_act 228 = .ok (.iload 7, 2) := by decide +kernel
theorem dL_act_230 : decode cL_act 230 = .ok (.iastore, 1) := by decide +kernel
theorem dL_act_231 : decode cL_act 231 = .ok (.dup, 1) := by decide +kernel
theorem dL_act_232 : decode cL_act 232 = .ok (.iconst 1, 1) := by decide +kernel
theorem dL_act_233 : decode cL_act 233 = .ok (.iconst 0, 1) := by decide +kernel
theorem dL_act_234 : decode cL_act 234 = .ok (.iastore, 1) := by decide +kernel
theorem dL_act_235 : decode cL_act 235 = .ok (.dup, 1) := by decide +kernel
theorem dL_act_236 : decode cL_act 236 = .ok (.iconst 2, 1) := by decide +kernel
theorem dL_act_237 : decode cL_act 237 = .ok (.iconst 0, 1) := by decide +kernel
theorem dL_act_238 : decode cL_act 238 = .ok (.iastore, 1) := by decide +kernel
theorem dL_act_239 : decode cL_act 239 = .ok (.dup, 1) := by decide +kernel
theorem dL_act_240 : decode cL_act 240 = .ok (.iconst 3, 1) := by decide +kernel
theorem dL_act_241 : decode cL_act 241 = .ok (.iconst 0, 1) := by decide +kernel
theorem dL_act_242 : decode cL_act 242 = .ok (.iastore, 1) := by decide +kernel
theorem dL_act_243 : decode cL_act 243 = .ok (.invokestatic 38, 3) := by decide +kernel
theorem dL_act_246 : decode cL_act 246 = .ok (.putfield 9, 3) := by decide +kernel
theorem dL_act_249 : decode cL_act 249 = .ok (.aload_n 0, 1) := by decide +kernel
theorem dL_act_250 : decode cL_act 250 = .ok (.iload 7, 2) := by decide +kernel
theorem dL_act_252 : decode cL_act 252 = .ok (.invokevirtual 32, 3) := by decide +kernel
theorem dL_act_255 : decode cL_act 255 = .ok (.aload_n 1, 1) := by decide +kernel
theorem dL_act_256 : decode cL_act 256 = .ok (.getfield 9, 3) := by decide +kernel
theorem dL_act_259 : decode cL_act 259 = .ok (.arraylength, 1) := by decide +kernel
theorem dL_act_260 : decode cL_act 260 = .ok (.iconst 1, 1) := by decide +kernel
theorem dL_act_261 : decode cL_act 261 = .ok (.isub, 1) := by decide +kernel
theorem dL_act_262 : decode cL_act 262 = .ok (.if_icmp .ne 7, 3) := by decide +kernel
theorem dL_act_265 : decode cL_act 265 = .ok (.iconst 1, 1) := by decide +kernel
theorem dL_act_266 : decode cL_act 266 = .ok (.goto 4, 3) := by decide +kernel
theorem dL_act_269 : decode cL_act 269 = .ok (.iconst 0, 1) := by decide +kernel
theorem dL_act_270 : decode cL_act 270 = .ok (.ireturn, 1) := by decide +kernel
theorem dL_act_271 : decode cL_act 271 = .ok (.iload_n 2, 1) := by decide +kernel
theorem dL_act_272 : decode cL_act 272 = .ok (.bipush 7, 2) := by decide +kernel
theorem dL_act_274 : decode cL_act 274 = .ok (.ishr, 1) := by decide +kernel
theorem dL_act_275 : decode cL_act 275 = .ok (.aload_n 1, 1) := by decide +kernel
theorem dL_act_276 : decode cL_act 276 = .ok (.getfield 9, 3) := by decide +kernel
theorem dL_act_279 : decode cL_act 279 = .ok (.iload_n 3, 1) := by decide +kernel
theorem dL_act_280 : decode cL_act 280 = .ok (.aaload, 1) := by decide +kernel
theorem dL_act_281 : decode cL_act 281 = .ok (.iconst 0, 1) := by decide +kernel
theorem dL_act_282 : decode cL_act 282 = .ok (.iaload, 1) := by decide +kernel
theorem dL_act_283 : decode cL_act 283 = .ok (.invokestatic 15, 3) := by decide +kernel
theorem dL_act_286 : decode cL_act 286 = .ok (.istore 7, 2) := by decide +kernel
theorem dL_act_288 : decode cL_act 288 = .ok (.iload_n 2, 1) := by decide +kernel
theorem dL_act_289 : decode cL_act 289 = .ok (.bipush 9, 2) := by decide +kernel
theorem dL_act_291 : decode cL_act 291 = .ok (.ishr, 1) := by decide +kernel
theorem dL_act_292 : decode cL_act 292 = .ok (.iconst 3, 1) := by decide +kernel
theorem dL_act_293 : decode cL_act 293 = .ok (.invokestatic 15, 3) := by decide +kernel
theorem dL_act_296 : decode cL_act 296 = .ok (.ifCond .le 7, 3) := by decide +kernel
theorem dL_act_299 : decode cL_act 299 = .ok (.iconst 1, 1) := by decide +kernel
theorem dL_act_300 : decode cL_act 300 = .ok (.goto 4, 3) := by decide +kernel
theorem dL_act_303 : decode cL_act 303 = .ok (.iconst 0, 1) := by decide +kernel
theorem dL_act_304 : decode cL_act 304 = .ok (.istore 8, 2) := by decide +kernel
theorem dL_act_306 : decode cL_act 306 = .ok (.iload 6, 2) := by decide +kernel
theorem dL_act_308 : decode cL_act 308 = .ok (.ifCond .eq 15, 3) := by decide +kernel
theorem dL_act_311 : decode cL_act 311 = .ok (.aload_n 0, 1) := by decide +kernel
theorem dL_act_312 : decode cL_act 312 = .ok (.iload_n 3, 1) := by decide +kernel
theorem dL_act_313 : decode cL_act 313 = .ok (.iload 7, 2) := by decide +kernel
theorem dL_act_315 : decode cL_act 315 = .ok (.iload 8, 2) := by decide +kernel
theorem dL_act_317 : decode cL_act 317 = .ok (.invokevirtual 42, 3) := by decide +kernel
theorem dL_act_320 : decode cL_act 320 = .ok (.pop, 1) := by decide +kernel
theorem dL_act_321 : decode cL_act 321 = .ok (.iconst 0, 1) := by decide +kernel
theorem dL_act_322 : decode cL_act 322 = .ok (.ireturn, 1) := by decide +kernel
theorem dL_act_323 : decode cL_act 323 = .ok (.aload_n 1, 1) := by decide +kernel
theorem dL_act_324 : decode cL_act 324 = .ok (.aload_n 1, 1) := by decide +kernel
theorem dL_act_325 : decode cL_act 325 = .ok (.getfield 25, 3) := by decide +kernel
theorem dL_act_328 : decode cL_act 328 = .ok (.iconst 5, 1) := by decide +kernel
theorem dL_act_329 : decode cL_act 329 = .ok (.newarray .int, 2) := by decide +kernel
theorem dL_act_331 : decode cL_act 331 = .ok (.dup, 1) := by decide +kernel
theorem dL_act_332 : decode cL_act 332 = .ok (.iconst 0, 1) := by decide +kernel
theorem dL_act_333 : decode cL_act 333 = .ok (.iload_n 3, 1) := by decide +kernel
theorem dL_act_334 : decode cL_act 334 = .ok (.iastore, 1) := by decide +kernel
theorem dL_act_335 : decode cL_act 335 = .ok (.dup, 1) := by decide +kernel
theorem dL_act_336 : decode cL_act 336 = .ok (.iconst 1, 1) := by decide +kernel
theorem dL_act_337 : decode cL_act 337 = .ok (.iload 7, 2) := by decide +kernel
theorem dL_act_339 : decode cL_act 339 = .ok (.iastore, 1) := by decide +kernel
theorem dL_act_340 : decode cL_act 340 = .ok (.dup, 1) := by decide +kernel
theorem dL_act_341 : decode cL_act 341 = .ok (.iconst 2, 1) := by decide +kernel
theorem dL_act_342 : decode cL_act 342 = .ok (.iload 8, 2) := by decide +kernel
theorem dL_act_344 : decode cL_act 344 = .ok (.ifCond .eq 7, 3) := by decide +kernel
theorem dL_act_347 : decode cL_act 347 = .ok (.iconst 1, 1) := by decide +kernel
theorem dL_act_348 : decode cL_act 348 = .ok (.goto 4, 3) := by decide +kernel
theorem dL_act_351 : decode cL_act 351 = .ok (.iconst 0, 1) := by decide +kernel
theorem dL_act_352 : decode cL_act 352 = .ok (.iastore, 1) := by decide +kernel
theorem dL_act_353 : decode cL_act 353 = .ok (.dup, 1) := by decide +kernel
theorem dL_act_354 : decode cL_act 354 = .ok (.iconst 3, 1) := by decide +kernel
theorem dL_act_355 : decode cL_act 355 = .ok (.iconst 0, 1) := by decide +kernel
theorem dL_act_356 : decode cL_act 356 = .ok (.iastore, 1) := by decide +kernel
theorem dL_act_357 : decode cL_act 357 = .ok (.dup, 1) := by decide +kernel
theorem dL_act_358 : decode cL_act 358 = .ok (.iconst 4, 1) := by decide +kernel
theorem dL_act_359 : decode cL_act 359 = .ok (.iconst 0, 1) := by decide +kernel
theorem dL_act_360 : decode cL_act 360 = .ok (.iastore, 1) := by decide +kernel
theorem dL_act_361 : decode cL_act 361 = .ok (.invokestatic 38, 3) := by decide +kernel
theorem dL_act_364 : decode cL_act 364 = .ok (.putfield 25, 3) := by decide +kernel
theorem dL_act_367 : decode cL_act 367 = .ok (.aload_n 0, 1) := by decide +kernel
theorem dL_act_368 : decode cL_act 368 = .ok (.iload_n 3, 1) := by decide +kernel
theorem dL_act_369 : decode cL_act 369 = .ok (.iload 7, 2) := by decide +kernel
theorem dL_act_371 : decode cL_act 371 = .ok (.iload 8, 2) := by decide +kernel
theorem dL_act_373 : decode cL_act 373 = .ok (.invokevirtual 42, 3) := by decide +kernel
theorem dL_act_376 : decode cL_act 376 = .ok (.aload_n 1, 1) := by decide +kernel
theorem dL_act_377 : decode cL_act 377 = .ok (.getfield 25, 3) := by decide +kernel
theorem dL_act_380 : decode cL_act 380 = .ok (.arraylength, 1) := by decide +kernel
theorem dL_act_381 : decode cL_act 381 = .ok (.iconst 1, 1) := by decide +kernel
theorem dL_act_382 : decode cL_act 382 = .ok (.isub, 1) := by decide +kernel
theorem dL_act_383 : decode cL_act 383 = .ok (.if_icmp .ne 7, 3) := by decide +kernel
theorem dL_act_386 : decode cL_act 386 = .ok (.iconst 1, 1) := by decide +kernel
theorem dL_act_387 : decode cL_act 387 = .ok (.goto 4, 3) := by decide +kernel
theorem dL_act_390 : decode cL_act 390 = .ok (.iconst 0, 1) := by decide +kernel
theorem dL_act_391 : decode cL_act 391 = .ok (.ireturn, 1) := by decide +kernel
theorem dL_act_392 : decode cL_act 392 = .ok (.iload 6, 2) := by decide +kernel
theorem dL_act_394 : decode cL_act 394 = .ok (.ifCond .eq 10, 3) := by decide +kernel
theorem dL_act_397 : decode cL_act 397 = .ok (.aload_n 0, 1) := by decide +kernel
theorem dL_act_398 : decode cL_act 398 = .ok (.invokevirtual 46, 3) := by decide +kernel
theorem dL_act_401 : decode cL_act 401 = .ok (.pop, 1) := by decide +kernel
theorem dL_act_402 : decode cL_act 402 = .ok (.iconst 0, 1) := by decide +kernel
theorem dL_act_403 : decode cL_act 403 = .ok (.ireturn, 1) := by decide +kernel
theorem dL_act_404 : decode cL_act 404 = .ok (.aload_n 1, 1) := by decide +kernel
theorem dL_act_405 : decode cL_act 405 = .ok (.getfield 21, 3) := by decide +kernel
theorem dL_act_408 : decode cL_act 408 = .ok (.arraylength, 1) := by decide +kernel
theorem dL_act_409 : decode cL_act 409 = .ok (.iconst 1, 1) := by decide +kernel
theorem dL_act_410 : decode cL_act 410 = .ok (.iadd, 1) := by decide +kernel
theorem dL_act_411 : decode cL_act 411 = .ok (.newarray .int, 2) := by decide +kernel
theorem dL_act_413 : decode cL_act 413 = .ok (.astore 7, 2) := by decide +kernel
theorem dL_act_415 : decode cL_act 415 = .ok (.iconst 0, 1) := by decide +kernel
theorem dL_act_416 : decode cL_act 416 = .ok (.istore 8, 2) := by decide +kernel
theorem dL_act_418 : decode cL_act 418 = .ok (.iload 8, 2) := by decide +kernel
theorem dL_act_420 : decode cL_act 420 = .ok (.aload_n 1, 1) := by decide +kernel
theorem dL_act_421 : decode cL_act 421 = .ok (.getfield 21, 3) := by decide +kernel
theorem dL_act_424 : decode cL_act 424 = .ok (.arraylength, 1) := by decide +kernel
theorem dL_act_425 : decode cL_act 425 = .ok (.if_icmp .ge 21, 3) := by decide +kernel
theorem dL_act_428 : decode cL_act 428 = .ok (.aload 7, 2) := by decide +kernel
theorem dL_act_430 : decode cL_act 430 = .ok (.iload 8, 2) := by decide +kernel
theorem dL_act_432 : decode cL_act 432 = .ok (.aload_n 1, 1) := by decide +kernel
theorem dL_act_433 : decode cL_act 433 = .ok (.getfield 21, 3) := by decide +kernel
theorem dL_act_436 : decode cL_act 436 = .ok (.iload 8, 2) := by decide +kernel
theorem dL_act_438 : decode cL_act 438 = .ok (.iaload, 1) := by decide +kernel
theorem dL_act_439 : decode cL_act 439 = .ok (.iastore, 1) := by decide +kernel
theorem dL_act_440 : decode cL_act 440 = .ok (.iinc 8 1, 3) := by decide +kernel
theorem dL_act_443 : decode cL_act 443 = .ok (.goto (-25), 3) := by decide +kernel
theorem dL_act_446 : decode cL_act 446 = .ok (.aload 7, 2) := by decide +kernel
theorem dL_act_448 : decode cL_act 448 = .ok (.aload_n 1, 1) := by decide +kernel
theorem dL_act_449 : decode cL_act 449 = .ok (.getfield 21, 3) := by decide +kernel
theorem dL_act_452 : decode cL_act 452 = .ok (.arraylength, 1) := by decide +kernel
theorem dL_act_453 : decode cL_act 453 = .ok (.iconst 5, 1) := by decide +kernel
theorem dL_act_454 : decode cL_act 454 = .ok (.iastore, 1) := by decide +kernel
theorem dL_act_455 : decode cL_act 455 = .ok (.aload_n 1, 1) := by decide +kernel
theorem dL_act_456 : decode cL_act 456 = .ok (.aload 7, 2) := by decide +kernel
theorem dL_act_458 : decode cL_act 458 = .ok (.putfield 21, 3) := by decide +kernel
theorem dL_act_461 : decode cL_act 461 = .ok (.aload_n 0, 1) := by decide +kernel
theorem dL_act_462 : decode cL_act 462 = .ok (.invokevirtual 46, 3) := by decide +kernel
theorem dL_act_465 : decode cL_act 465 = .ok (.aload 7, 2) := by decide +kernel
theorem dL_act_467 : decode cL_act 467 = .ok (.arraylength, 1) := by decide +kernel
theorem dL_act_468 : decode cL_act 468 = .ok (.iconst 1, 1) := by decide +kernel
theorem dL_act_469 : decode cL_act 469 = .ok (.isub, 1) := by decide +kernel
theorem dL_act_470 : decode cL_act 470 = .ok (.if_icmp .ne 7, 3) := by decide +kernel
theorem dL_act_473 : decode cL_act 473 = .ok (.iconst 1, 1) := by decide +kernel
theorem dL_act_474 : decode cL_act 474 = .ok (.goto 4, 3) := by decide +kernel
theorem dL_act_477 : decode cL_act 477 = .ok (.iconst 0, 1) := by decide +kernel
theorem dL_act_478 : decode cL_act 478 = .ok (.ireturn, 1) := by decide +kernel
theorem dL_act_479 : decode cL_act 479 = .ok (.iconst 1, 1) := by decide +kernel
theorem dL_act_480 : decode cL_act 480 = .ok (.iload_n 2, 1) := by decide +kernel
theorem dL_act_481 : decode cL_act 481 = .ok (.bipush 7, 2) := by decide +kernel
theorem dL_act_483 : decode cL_act 483 = .ok (.ishr, 1) := by decide +kernel
theorem dL_act_484 : decode cL_act 484 = .ok (.iload_n 2, 1) := by decide +kernel
theorem dL_act_485 : decode cL_act 485 = .ok (.iconst 3, 1) := by decide +kernel
theorem dL_act_486 : decode cL_act 486 = .ok (.ishr, 1) := by decide +kernel
theorem dL_act_487 : decode cL_act 487 = .ok (.iconst 2, 1) := by decide +kernel
theorem dL_act_488 : decode cL_act 488 = .ok (.invokestatic 15, 3) := by decide +kernel
theorem dL_act_491 : decode cL_act 491 = .ok (.ifCond .ne 9, 3) := by decide +kernel
theorem dL_act_494 : decode cL_act 494 = .ok (.sipush 500, 3) := by decide +kernel
theorem dL_act_497 : decode cL_act 497 = .ok (.goto 5, 3) := by decide +kernel
theorem dL_act_500 : decode cL_act 500 = .ok (.bipush 40, 2) := by decide +kernel
theorem dL_act_502 : decode cL_act 502 = .ok (.invokestatic 15, 3) := by decide +kernel
theorem dL_act_505 : decode cL_act 505 = .ok (.iadd, 1) := by decide +kernel
theorem dL_act_506 : decode cL_act 506 = .ok (.istore 7, 2) := by decide +kernel
theorem dL_act_508 : decode cL_act 508 = .ok (.aload_n 1, 1) := by decide +kernel
theorem dL_act_509 : decode cL_act 509 = .ok (.dup, 1) := by decide +kernel
theorem dL_act_510 : decode cL_act 510 = .ok (.getfield 50, 3) := by decide +kernel
theorem dL_act_513 : decode cL_act 513 = .ok (.iload 7, 2) := by decide +kernel
theorem dL_act_515 : decode cL_act 515 = .ok (.iadd, 1) := by decide +kernel
theorem dL_act_516 : decode cL_act 516 = .ok (.putfield 50, 3) := by decide +kernel
theorem dL_act_519 : decode cL_act 519 = .ok (.aload_n 0, 1) := by decide +kernel
theorem dL_act_520 : decode cL_act 520 = .ok (.iload 7, 2) := by decide +kernel
theorem dL_act_522 : decode cL_act 522 = .ok (.invokevirtual 54, 3) := by decide +kernel
theorem dL_act_525 : decode cL_act 525 = .ok (.aload_n 1, 1) := by decide +kernel
theorem dL_act_526 : decode cL_act 526 = .ok (.getfield 50, 3) := by decide +kernel
theorem dL_act_529 : decode cL_act 529 = .ok (.if_icmp .ne 7, 3) := by decide +kernel
theorem dL_act_532 : decode cL_act 532 = .ok (.iconst 1, 1) := by decide +kernel
theorem dL_act_533 : decode cL_act 533 = .ok (.goto 4, 3) := by decide +kernel
theorem dL_act_536 : decode cL_act 536 = .ok (.iconst 0, 1) := by decide +kernel
theorem dL_act_537 : decode cL_act 537 = .ok (.ireturn, 1) := by decide +kernel
theorem dL_act_538 : decode cL_act 538 = .ok (.iload 6, 2) := by decide +kernel
theorem dL_act_540 : decode cL_act 540 = .ok (.ifCond .eq 11, 3) := by decide +kernel
theorem dL_act_543 : decode cL_act 543 = .ok (.aload_n 0, 1) := by decide +kernel
theorem dL_act_544 : decode cL_act 544 = .ok (.iload_n 3, 1) := by decide +kernel
theorem dL_act_545 : decode cL_act 545 = .ok (.invokevirtual 57, 3) := by decide +kernel
theorem dL_act_548 : decode cL_act 548 = .ok (.pop, 1) := by decide +kernel
theorem dL_act_549 : decode cL_act 549 = .ok (.iconst 0, 1) := by decide +kernel
theorem dL_act_550 : decode cL_act 550 = .ok (.ireturn, 1) := by decide +kernel
theorem dL_act_551 : decode cL_act 551 = .ok (.aload_n 1, 1) := by decide +kernel
theorem dL_act_552 : decode cL_act 552 = .ok (.getfield 9, 3) := by decide +kernel
theorem dL_act_555 : decode cL_act 555 = .ok (.iload_n 3, 1) := by decide +kernel
theorem dL_act_556 : decode cL_act 556 = .ok (.aaload, 1) := by decide +kernel
theorem dL_act_557 : decode cL_act 557 = .ok (.iconst 1, 1) := by decide +kernel
theorem dL_act_558 : decode cL_act 558 = .ok (.iconst 1, 1) := by decide +kernel
theorem dL_act_559 : decode cL_act 559 = .ok (.iastore, 1) := by decide +kernel
theorem dL_act_560 : decode cL_act 560 = .ok (.aload_n 1, 1) := by decide +kernel
theorem dL_act_561 : decode cL_act 561 = .ok (.getfield 9, 3) := by decide +kernel
theorem dL_act_564 : decode cL_act 564 = .ok (.iload_n 3, 1) := by decide +kernel
theorem dL_act_565 : decode cL_act 565 = .ok (.aaload, 1) := by decide +kernel
theorem dL_act_566 : decode cL_act 566 = .ok (.iconst 2, 1) := by decide +kernel
theorem dL_act_567 : decode cL_act 567 = .ok (.iconst 0, 1) := by decide +kernel
theorem dL_act_568 : decode cL_act 568 = .ok (.iastore, 1) := by decide +kernel
