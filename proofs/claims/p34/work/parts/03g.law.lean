theorem dL_areBeats_213 : decode cL_areBeats 213 = .ok (.aload_n 0, 1) := by decide +kernel
theorem dL_areBeats_214 : decode cL_areBeats 214 = .ok (.iload 8, 2) := by decide +kernel
theorem dL_areBeats_216 : decode cL_areBeats 216 = .ok (.iload 8, 2) := by decide +kernel
theorem dL_areBeats_218 : decode cL_areBeats 218 = .ok (.invokevirtual 91, 3) := by decide +kernel
theorem dL_areBeats_221 : decode cL_areBeats 221 = .ok (.iload 11, 2) := by decide +kernel
theorem dL_areBeats_223 : decode cL_areBeats 223 = .ok (.if_icmp .ne 7, 3) := by decide +kernel
theorem dL_areBeats_226 : decode cL_areBeats 226 = .ok (.iconst 1, 1) := by decide +kernel
theorem dL_areBeats_227 : decode cL_areBeats 227 = .ok (.goto 4, 3) := by decide +kernel
theorem dL_areBeats_230 : decode cL_areBeats 230 = .ok (.iconst 0, 1) := by decide +kernel
theorem dL_areBeats_231 : decode cL_areBeats 231 = .ok (.istore 6, 2) := by decide +kernel
theorem dL_areBeats_233 : decode cL_areBeats 233 = .ok (.goto 67, 3) := by decide +kernel
theorem dL_areBeats_236 : decode cL_areBeats 236 = .ok (.iload 10, 2) := by decide +kernel
theorem dL_areBeats_238 : decode cL_areBeats 238 = .ok (.ifCond .eq 62, 3) := by decide +kernel
theorem dL_areBeats_241 : decode cL_areBeats 241 = .ok (.iload 5, 2) := by decide +kernel
theorem dL_areBeats_243 : decode cL_areBeats 243 = .ok (.aload_n 3, 1) := by decide +kernel
theorem dL_areBeats_244 : decode cL_areBeats 244 = .ok (.iload 7, 2) := by decide +kernel
theorem dL_areBeats_246 : decode cL_areBeats 246 = .ok (.iaload, 1) := by decide +kernel
theorem dL_areBeats_247 : decode cL_areBeats 247 = .ok (.isub, 1) := by decide +kernel
theorem dL_areBeats_248 : decode cL_areBeats 248 = .ok (.istore 13, 2) := by decide +kernel
theorem dL_areBeats_250 : decode cL_areBeats 250 = .ok (.iload 6, 2) := by decide +kernel
theorem dL_areBeats_252 : decode cL_areBeats 252 = .ok (.ifCond .eq 45, 3) := by decide +kernel
theorem dL_areBeats_255 : decode cL_areBeats 255 = .ok (.aload_n 0, 1) := by decide +kernel
theorem dL_areBeats_256 : decode cL_areBeats 256 = .ok (.iload 8, 2) := by decide +kernel
theorem dL_areBeats_258 : decode cL_areBeats 258 = .ok (.iload 9, 2) := by decide +kernel
theorem dL_areBeats_260 : decode cL_areBeats 260 = .ok (.invokevirtual 100, 3) := by decide +kernel
theorem dL_areBeats_263 : decode cL_areBeats 263 = .ok (.iload 13, 2) := by decide +kernel
theorem dL_areBeats_265 : decode cL_areBeats 265 = .ok (.aload 4, 2) := by decide +kernel
theorem dL_areBeats_267 : decode cL_areBeats 267 = .ok (.iconst 2, 1) := by decide +kernel
theorem dL_areBeats_268 : decode cL_areBeats 268 = .ok (.iaload, 1) := by decide +kernel
theorem dL_areBeats_269 : decode cL_areBeats 269 = .ok (.if_icmp .le 7, 3) := by decide +kernel
theorem dL_areBeats_272 : decode cL_areBeats 272 = .ok (.iconst 2, 1) := by decide +kernel
theorem dL_areBeats_273 : decode cL_areBeats 273 = .ok (.goto 17, 3) := by decide +kernel
theorem dL_areBeats_276 : decode cL_areBeats 276 = .ok (.iload 13, 2) := by decide +kernel
theorem dL_areBeats_278 : decode cL_areBeats 278 = .ok (.aload 4, 2) := by decide +kernel
theorem dL_areBeats_280 : decode cL_areBeats 280 = .ok (.iconst 1, 1) := by decide +kernel
theorem dL_areBeats_281 : decode cL_areBeats 281 = .ok (.iaload, 1) := by decide +kernel
theorem dL_areBeats_282 : decode cL_areBeats 282 = .ok (.if_icmp .le 7, 3) := by decide +kernel
theorem dL_areBeats_285 : decode cL_areBeats 285 = .ok (.iconst 1, 1) := by decide +kernel
theorem dL_areBeats_286 : decode cL_areBeats 286 = .ok (.goto 4, 3) := by decide +kernel
theorem dL_areBeats_289 : decode cL_areBeats 289 = .ok (.iconst 0, 1) := by decide +kernel
theorem dL_areBeats_290 : decode cL_areBeats 290 = .ok (.if_icmp .ne 7, 3) := by decide +kernel
theorem dL_areBeats_293 : decode cL_areBeats 293 = .ok (.iconst 1, 1) := by decide +kernel
theorem dL_areBeats_294 : decode cL_areBeats 294 = .ok (.goto 4, 3) := by decide +kernel
theorem dL_areBeats_297 : decode cL_areBeats 297 = .ok (.iconst 0, 1) := by decide +kernel
theorem dL_areBeats_298 : decode cL_areBeats 298 = .ok (.istore 6, 2) := by decide +kernel
theorem dL_areBeats_300 : decode cL_areBeats 300 = .ok (.aload_n 0, 1) := by decide +kernel
theorem dL_areBeats_301 : decode cL_areBeats 301 = .ok (.iload 8, 2) := by decide +kernel
theorem dL_areBeats_303 : decode cL_areBeats 303 = .ok (.iload 9, 2) := by decide +kernel
theorem dL_areBeats_305 : decode cL_areBeats 305 = .ok (.invokevirtual 91, 3) := by decide +kernel
theorem dL_areBeats_308 : decode cL_areBeats 308 = .ok (.ifCond .le 7, 3) := by decide +kernel
theorem dL_areBeats_311 : decode cL_areBeats 311 = .ok (.iconst 1, 1) := by decide +kernel
theorem dL_areBeats_312 : decode cL_areBeats 312 = .ok (.goto 4, 3) := by decide +kernel
theorem dL_areBeats_315 : decode cL_areBeats 315 = .ok (.iconst 0, 1) := by decide +kernel
theorem dL_areBeats_316 : decode cL_areBeats 316 = .ok (.istore 13, 2) := by decide +kernel
theorem dL_areBeats_318 : decode cL_areBeats 318 = .ok (.iload 6, 2) := by decide +kernel
theorem dL_areBeats_320 : decode cL_areBeats 320 = .ok (.ifCond .eq 138, 3) := by decide +kernel
theorem dL_areBeats_323 : decode cL_areBeats 323 = .ok (.aload_n 0, 1) := by decide +kernel
theorem dL_areBeats_324 : decode cL_areBeats 324 = .ok (.iload 8, 2) := by decide +kernel
theorem dL_areBeats_326 : decode cL_areBeats 326 = .ok (.iload 9, 2) := by decide +kernel
theorem dL_areBeats_328 : decode cL_areBeats 328 = .ok (.invokevirtual 88, 3) := by decide +kernel
theorem dL_areBeats_331 : decode cL_areBeats 331 = .ok (.ifCond .lt 7, 3) := by decide +kernel
theorem dL_areBeats_334 : decode cL_areBeats 334 = .ok (.iconst 1, 1) := by decide +kernel
theorem dL_areBeats_335 : decode cL_areBeats 335 = .ok (.goto 4, 3) := by decide +kernel
theorem dL_areBeats_338 : decode cL_areBeats 338 = .ok (.iconst 0, 1) := by decide +kernel
theorem dL_areBeats_339 : decode cL_areBeats 339 = .ok (.iload 13, 2) := by decide +kernel
theorem dL_areBeats_341 : decode cL_areBeats 341 = .ok (.if_icmp .ne 117, 3) := by decide +kernel
theorem dL_areBeats_344 : decode cL_areBeats 344 = .ok (.aload_n 0, 1) := by decide +kernel
theorem dL_areBeats_345 : decode cL_areBeats 345 = .ok (.iload 8, 2) := by decide +kernel
theorem dL_areBeats_347 : decode cL_areBeats 347 = .ok (.iload 9, 2) := by decide +kernel
theorem dL_areBeats_349 : decode cL_areBeats 349 = .ok (.invokevirtual 94, 3) := by decide +kernel
theorem dL_areBeats_352 : decode cL_areBeats 352 = .ok (.ifCond .lt 7, 3) := by decide +kernel
theorem dL_areBeats_355 : decode cL_areBeats 355 = .ok (.iconst 1, 1) := by decide +kernel
theorem dL_areBeats_356 : decode cL_areBeats 356 = .ok (.goto 4, 3) := by decide +kernel
theorem dL_areBeats_359 : decode cL_areBeats 359 = .ok (.iconst 0, 1) := by decide +kernel
theorem dL_areBeats_360 : decode cL_areBeats 360 = .ok (.iload 13, 2) := by decide +kernel
theorem dL_areBeats_362 : decode cL_areBeats 362 = .ok (.if_icmp .ne 96, 3) := by decide +kernel
theorem dL_areBeats_365 : decode cL_areBeats 365 = .ok (.aload_n 0, 1) := by decide +kernel
theorem dL_areBeats_366 : decode cL_areBeats 366 = .ok (.iload 8, 2) := by decide +kernel
theorem dL_areBeats_368 : decode cL_areBeats 368 = .ok (.iload 9, 2) := by decide +kernel
theorem dL_areBeats_370 : decode cL_areBeats 370 = .ok (.invokevirtual 94, 3) := by decide +kernel
theorem dL_areBeats_373 : decode cL_areBeats 373 = .ok (.iload 5, 2) := by decide +kernel
theorem dL_areBeats_375 : decode cL_areBeats 375 = .ok (.if_icmp .gt 83, 3) := by decide +kernel
theorem dL_areBeats_378 : decode cL_areBeats 378 = .ok (.aload_n 0, 1) := by decide +kernel
theorem dL_areBeats_379 : decode cL_areBeats 379 = .ok (.iload 8, 2) := by decide +kernel
theorem dL_areBeats_381 : decode cL_areBeats 381 = .ok (.iload 9, 2) := by decide +kernel
theorem dL_areBeats_383 : decode cL_areBeats 383 = .ok (.invokevirtual 91, 3) := by decide +kernel
theorem dL_areBeats_386 : decode cL_areBeats 386 = .ok (.aload_n 0, 1) := by decide +kernel
theorem dL_areBeats_387 : decode cL_areBeats 387 = .ok (.iload 9, 2) := by decide +kernel
theorem dL_areBeats_389 : decode cL_areBeats 389 = .ok (.iload 9, 2) := by decide +kernel
theorem dL_areBeats_391 : decode cL_areBeats 391 = .ok (.invokevirtual 91, 3) := by decide +kernel
theorem dL_areBeats_394 : decode cL_areBeats 394 = .ok (.if_icmp .gt 64, 3) := by decide +kernel
theorem dL_areBeats_397 : decode cL_areBeats 397 = .ok (.aload_n 0, 1) := by decide +kernel
theorem dL_areBeats_398 : decode cL_areBeats 398 = .ok (.iload 8, 2) := by decide +kernel
theorem dL_areBeats_400 : decode cL_areBeats 400 = .ok (.iload 9, 2) := by decide +kernel
theorem dL_areBeats_402 : decode cL_areBeats 402 = .ok (.invokevirtual 91, 3) := by decide +kernel
theorem dL_areBeats_405 : decode cL_areBeats 405 = .ok (.aload_n 0, 1) := by decide +kernel
theorem dL_areBeats_406 : decode cL_areBeats 406 = .ok (.iload 9, 2) := by decide +kernel
theorem dL_areBeats_408 : decode cL_areBeats 408 = .ok (.iload 9, 2) := by decide +kernel
theorem dL_areBeats_410 : decode cL_areBeats 410 = .ok (.invokevirtual 91, 3) := by decide +kernel
theorem dL_areBeats_413 : decode cL_areBeats 413 = .ok (.if_icmp .ne 41, 3) := by decide +kernel
theorem dL_areBeats_416 : decode cL_areBeats 416 = .ok (.aload_n 0, 1) := by decide +kernel
theorem dL_areBeats_417 : decode cL_areBeats 417 = .ok (.iload 8, 2) := by decide +kernel
theorem dL_areBeats_419 : decode cL_areBeats 419 = .ok (.iload 9, 2) := by decide +kernel
theorem dL_areBeats_421 : decode cL_areBeats 421 = .ok (.invokevirtual 88, 3) := by decide +kernel
theorem dL_areBeats_424 : decode cL_areBeats 424 = .ok (.aload_n 0, 1) := by decide +kernel
theorem dL_areBeats_425 : decode cL_areBeats 425 = .ok (.iload 9, 2) := by decide +kernel
theorem dL_areBeats_427 : decode cL_areBeats 427 = .ok (.iload 9, 2) := by decide +kernel
theorem dL_areBeats_429 : decode cL_areBeats 429 = .ok (.invokevirtual 88, 3) := by decide +kernel
theorem dL_areBeats_432 : decode cL_areBeats 432 = .ok (.if_icmp .ne 26, 3) := by decide +kernel
theorem dL_areBeats_435 : decode cL_areBeats 435 = .ok (.aload_n 0, 1) := by decide +kernel
theorem dL_areBeats_436 : decode cL_areBeats 436 = .ok (.iload 8, 2) := by decide +kernel
theorem dL_areBeats_438 : decode cL_areBeats 438 = .ok (.iload 9, 2) := by decide +kernel
theorem dL_areBeats_440 : decode cL_areBeats 440 = .ok (.invokevirtual 94, 3) := by decide +kernel
theorem dL_areBeats_443 : decode cL_areBeats 443 = .ok (.aload_n 0, 1) := by decide +kernel
theorem dL_areBeats_444 : decode cL_areBeats 444 = .ok (.iload 9, 2) := by decide +kernel
theorem dL_areBeats_446 : decode cL_areBeats 446 = .ok (.iload 9, 2) := by decide +kernel
theorem dL_areBeats_448 : decode cL_areBeats 448 = .ok (.invokevirtual 94, 3) := by decide +kernel
theorem dL_areBeats_451 : decode cL_areBeats 451 = .ok (.if_icmp .ne 7, 3) := by decide +kernel
theorem dL_areBeats_454 : decode cL_areBeats 454 = .ok (.iconst 1, 1) := by decide +kernel
theorem dL_areBeats_455 : decode cL_areBeats 455 = .ok (.goto 4, 3) := by decide +kernel
theorem dL_areBeats_458 : decode cL_areBeats 458 = .ok (.iconst 0, 1) := by decide +kernel
theorem dL_areBeats_459 : decode cL_areBeats 459 = .ok (.istore 6, 2) := by decide +kernel
theorem dL_areBeats_461 : decode cL_areBeats 461 = .ok (.iinc 7 1, 3) := by decide +kernel
theorem dL_areBeats_464 : decode cL_areBeats 464 = .ok (.goto (-452), 3) := by decide +kernel
theorem dL_areBeats_467 : decode cL_areBeats 467 = .ok (.iload 6, 2) := by decide +kernel
theorem dL_areBeats_469 : decode cL_areBeats 469 = .ok (.ireturn, 1) := by decide +kernel
set_option maxRecDepth 20000 in
theorem ggL_areGates_X3_believed : GoodIn wsL_areGates wsX3_believed := goodIn_ca (goodIn_r _ [5, 6, 7, 8, 9, 4, 10, 11, 12, 13, 14, 15, 16, 17, 18, 19, 20, 21, 39, 40, 41, 42, 43, 44, 45, 46, 47, 48, 49, 50, 51, 52, 53, 54] (by decide +kernel) (by decide +kernel)) (goodIn_sub (fun _ h => List.mem_cons_of_mem _ (List.mem_append_right _ h)) (by decide +kernel))
set_option maxRecDepth 20000 in
theorem gL_areGates_X3_believed : GoodIn wsL_areGates (wsV RL 88 RX3 yX3_believed wsX3_believed) := goodIn_app (goodIn_of _ (by decide +kernel)) ggL_areGates_X3_believed
set_option maxRecDepth 20000 in
theorem ggL_areGates_X3_age : GoodIn wsL_areGates wsX3_age := goodIn_ca (goodIn_r _ [25, 6, 26, 27, 8, 9, 4, 10, 11, 12, 13, 14, 15, 16, 17, 18, 19, 20, 21, 39, 40, 41, 42, 43, 44, 45, 46, 47, 48, 49, 50, 51, 52, 53, 54] (by decide +kernel) (by decide +kernel)) (goodIn_sub (fun _ h => List.mem_cons_of_mem _ (List.mem_append_right _ h)) (by decide +kernel))
set_option maxRecDepth 20000 in
theorem gL_areGates_X3_age : GoodIn wsL_areGates (wsV RL 94 RX3 yX3_age wsX3_age) := goodIn_app (goodIn_of _ (by decide +kernel)) ggL_areGates_X3_age
set_option maxRecDepth 20000 in
theorem ggL_areGates_X3_opening : GoodIn wsL_areGates wsX3_opening := goodIn_ca (goodIn_r _ [31, 32, 33, 8, 9, 4, 10, 11, 12, 13, 14, 15, 39, 40, 41, 42, 55, 56, 57, 58, 59, 60, 61, 62] (by decide +kernel) (by decide +kernel)) (goodIn_sub (fun _ h => List.mem_cons_of_mem _ (List.mem_append_right _ h)) (by decide +kernel))
set_option maxRecDepth 20000 in
theorem gL_areGates_X3_opening : GoodIn wsL_areGates (wsV RL 73 RX3 yX3_opening wsX3_opening) := goodIn_app (goodIn_of _ (by decide +kernel)) ggL_areGates_X3_opening
set_option maxRecDepth 20000 in
theorem ggL_areGates_X3_safety : GoodIn wsL_areGates wsX3_safety := goodIn_ca (goodIn_r _ [37, 32, 38, 8, 9, 4, 10, 11, 12, 13, 14, 15, 39, 40, 41, 42, 55, 56, 57, 58, 59, 60, 61, 62] (by decide +kernel) (by decide +kernel)) (goodIn_sub (fun _ h => List.mem_cons_of_mem _ (List.mem_append_right _ h)) (by decide +kernel))
set_option maxRecDepth 20000 in
theorem gL_areGates_X3_safety : GoodIn wsL_areGates (wsV RL 76 RX3 yX3_safety wsX3_safety) := goodIn_app (goodIn_of _ (by decide +kernel)) ggL_areGates_X3_safety
theorem dL_areGates_0 : decode cL_areGates 0 = .ok (.iconst 1, 1) := by decide +kernel
theorem dL_areGates_1 : decode cL_areGates 1 = .ok (.istore 4, 2) := by decide +kernel
theorem dL_areGates_3 : decode cL_areGates 3 = .ok (.iconst 0, 1) := by decide +kernel
theorem dL_areGates_4 : decode cL_areGates 4 = .ok (.istore 5, 2) := by decide +kernel
theorem dL_areGates_6 : decode cL_areGates 6 = .ok (.iload 5, 2) := by decide +kernel
theorem dL_areGates_8 : decode cL_areGates 8 = .ok (.bipush 8, 2) := by decide +kernel
theorem dL_areGates_10 : decode cL_areGates 10 = .ok (.if_icmp .ge 306, 3) := by decide +kernel
theorem dL_areGates_13 : decode cL_areGates 13 = .ok (.iload 4, 2) := by decide +kernel
theorem dL_areGates_15 : decode cL_areGates 15 = .ok (.ifCond .eq 301, 3) := by decide +kernel
theorem dL_areGates_18 : decode cL_areGates 18 = .ok (.aload_n 2, 1) := by decide +kernel
theorem dL_areGates_19 : decode cL_areGates 19 = .ok (.bipush 8, 2) := by decide +kernel
theorem dL_areGates_21 : decode cL_areGates 21 = .ok (.iload 5, 2) := by decide +kernel
theorem dL_areGates_23 : decode cL_areGates 23 = .ok (.imul, 1) := by decide +kernel
theorem dL_areGates_24 : decode cL_areGates 24 = .ok (.bipush 7, 2) := by decide +kernel
theorem dL_areGates_26 : decode cL_areGates 26 = .ok (.iadd, 1) := by decide +kernel
theorem dL_areGates_27 : decode cL_areGates 27 = .ok (.iaload, 1) := by decide +kernel
theorem dL_areGates_28 : decode cL_areGates 28 = .ok (.istore 6, 2) := by decide +kernel
theorem dL_areGates_30 : decode cL_areGates 30 = .ok (.iload 6, 2) := by decide +kernel
theorem dL_areGates_32 : decode cL_areGates 32 = .ok (.istore 7, 2) := by decide +kernel
theorem dL_areGates_34 : decode cL_areGates 34 = .ok (.aload_n 2, 1) := by decide +kernel
theorem dL_areGates_35 : decode cL_areGates 35 = .ok (.bipush 8, 2) := by decide +kernel
theorem dL_areGates_37 : decode cL_areGates 37 = .ok (.iload 5, 2) := by decide +kernel
theorem dL_areGates_39 : decode cL_areGates 39 = .ok (.imul, 1) := by decide +kernel
theorem dL_areGates_40 : decode cL_areGates 40 = .ok (.iaload, 1) := by decide +kernel
theorem dL_areGates_41 : decode cL_areGates 41 = .ok (.ifCond .ne 19, 3) := by decide +kernel
theorem dL_areGates_44 : decode cL_areGates 44 = .ok (.aload_n 2, 1) := by decide +kernel
theorem dL_areGates_45 : decode cL_areGates 45 = .ok (.bipush 8, 2) := by decide +kernel
theorem dL_areGates_47 : decode cL_areGates 47 = .ok (.iload 5, 2) := by decide +kernel
theorem dL_areGates_49 : decode cL_areGates 49 = .ok (.imul, 1) := by decide +kernel
theorem dL_areGates_50 : decode cL_areGates 50 = .ok (.iconst 1, 1) := by decide +kernel
theorem dL_areGates_51 : decode cL_areGates 51 = .ok (.iadd, 1) := by decide +kernel
theorem dL_areGates_52 : decode cL_areGates 52 = .ok (.iaload, 1) := by decide +kernel
theorem dL_areGates_53 : decode cL_areGates 53 = .ok (.ifCond .ne 7, 3) := by decide +kernel
theorem dL_areGates_56 : decode cL_areGates 56 = .ok (.iconst 1, 1) := by decide +kernel
theorem dL_areGates_57 : decode cL_areGates 57 = .ok (.goto 4, 3) := by decide +kernel
theorem dL_areGates_60 : decode cL_areGates 60 = .ok (.iconst 0, 1) := by decide +kernel
theorem dL_areGates_61 : decode cL_areGates 61 = .ok (.istore 8, 2) := by decide +kernel
theorem dL_areGates_63 : decode cL_areGates 63 = .ok (.iload 5, 2) := by decide +kernel
theorem dL_areGates_65 : decode cL_areGates 65 = .ok (.bipush 7, 2) := by decide +kernel
theorem dL_areGates_67 : decode cL_areGates 67 = .ok (.if_icmp .ge 54, 3) := by decide +kernel
theorem dL_areGates_70 : decode cL_areGates 70 = .ok (.aload_n 0, 1) := by decide +kernel
theorem dL_areGates_71 : decode cL_areGates 71 = .ok (.iload 5, 2) := by decide +kernel
theorem dL_areGates_73 : decode cL_areGates 73 = .ok (.iload 5, 2) := by decide +kernel
theorem dL_areGates_75 : decode cL_areGates 75 = .ok (.bipush 7, 2) := by decide +kernel
theorem dL_areGates_77 : decode cL_areGates 77 = .ok (.if_icmp .ge 10, 3) := by decide +kernel
theorem dL_areGates_80 : decode cL_areGates 80 = .ok (.iload 5, 2) := by decide +kernel
theorem dL_areGates_82 : decode cL_areGates 82 = .ok (.iconst 1, 1) := by decide +kernel
theorem dL_areGates_83 : decode cL_areGates 83 = .ok (.iadd, 1) := by decide +kernel
theorem dL_areGates_84 : decode cL_areGates 84 = .ok (.goto 4, 3) := by decide +kernel
theorem dL_areGates_87 : decode cL_areGates 87 = .ok (.iconst 0, 1) := by decide +kernel
theorem dL_areGates_88 : decode cL_areGates 88 = .ok (.invokevirtual 88, 3) := by decide +kernel
theorem dL_areGates_91 : decode cL_areGates 91 = .ok (.ifCond .lt 26, 3) := by decide +kernel
theorem dL_areGates_94 : decode cL_areGates 94 = .ok (.aload_n 0, 1) := by decide +kernel
theorem dL_areGates_95 : decode cL_areGates 95 = .ok (.iload 5, 2) := by decide +kernel
theorem dL_areGates_97 : decode cL_areGates 97 = .ok (.iload 5, 2) := by decide +kernel
theorem dL_areGates_99 : decode cL_areGates 99 = .ok (.iconst 1, 1) := by decide +kernel
theorem dL_areGates_100 : decode cL_areGates 100 = .ok (.iadd, 1) := by decide +kernel
theorem dL_areGates_101 : decode cL_areGates 101 = .ok (.invokevirtual 94, 3) := by decide +kernel
theorem dL_areGates_104 : decode cL_areGates 104 = .ok (.aload_n 1, 1) := by decide +kernel
theorem dL_areGates_105 : decode cL_areGates 105 = .ok (.bipush 8, 2) := by decide +kernel
theorem dL_areGates_107 : decode cL_areGates 107 = .ok (.iload 5, 2) := by decide +kernel
theorem dL_areGates_109 : decode cL_areGates 109 = .ok (.imul, 1) := by decide +kernel
theorem dL_areGates_110 : decode cL_areGates 110 = .ok (.bipush 7, 2) := by decide +kernel
theorem dL_areGates_112 : decode cL_areGates 112 = .ok (.iadd, 1) := by decide +kernel
theorem dL_areGates_113 : decode cL_areGates 113 = .ok (.iaload, 1) := by decide +kernel
theorem dL_areGates_114 : decode cL_areGates 114 = .ok (.if_icmp .le 7, 3) := by decide +kernel
theorem dL_areGates_117 : decode cL_areGates 117 = .ok (.iconst 1, 1) := by decide +kernel
theorem dL_areGates_118 : decode cL_areGates 118 = .ok (.goto 4, 3) := by decide +kernel
theorem dL_areGates_121 : decode cL_areGates 121 = .ok (.iconst 0, 1) := by decide +kernel
theorem dL_areGates_122 : decode cL_areGates 122 = .ok (.istore 9, 2) := by decide +kernel
theorem dL_areGates_124 : decode cL_areGates 124 = .ok (.iload 8, 2) := by decide +kernel
theorem dL_areGates_126 : decode cL_areGates 126 = .ok (.ifCond .eq 37, 3) := by decide +kernel
theorem dL_areGates_129 : decode cL_areGates 129 = .ok (.iload 9, 2) := by decide +kernel
theorem dL_areGates_131 : decode cL_areGates 131 = .ok (.ifCond .eq 32, 3) := by decide +kernel
theorem dL_areGates_134 : decode cL_areGates 134 = .ok (.iload 6, 2) := by decide +kernel
theorem dL_areGates_136 : decode cL_areGates 136 = .ok (.bipush 8, 2) := by decide +kernel
theorem dL_areGates_138 : decode cL_areGates 138 = .ok (.if_icmp .le 8, 3) := by decide +kernel
theorem dL_areGates_141 : decode cL_areGates 141 = .ok (.bipush 10, 2) := by decide +kernel
theorem dL_areGates_143 : decode cL_areGates 143 = .ok (.goto 7, 3) := by decide +kernel
theorem dL_areGates_146 : decode cL_areGates 146 = .ok (.iload 6, 2) := by decide +kernel
theorem dL_areGates_148 : decode cL_areGates 148 = .ok (.iconst 2, 1) := by decide +kernel
theorem dL_areGates_149 : decode cL_areGates 149 = .ok (.iadd, 1) := by decide +kernel
theorem dL_areGates_150 : decode cL_areGates 150 = .ok (.istore 7, 2) := by decide +kernel
theorem dL_areGates_152 : decode cL_areGates 152 = .ok (.aload_n 3, 1) := by decide +kernel
theorem dL_areGates_153 : decode cL_areGates 153 = .ok (.iload 5, 2) := by decide +kernel
theorem dL_areGates_155 : decode cL_areGates 155 = .ok (.dup2, 1) := by decide +kernel
theorem dL_areGates_156 : decode cL_areGates 156 = .ok (.iaload, 1) := by decide +kernel
theorem dL_areGates_157 : decode cL_areGates 157 = .ok (.iconst 1, 1) := by decide +kernel
theorem dL_areGates_158 : decode cL_areGates 158 = .ok (.iadd, 1) := by decide +kernel
theorem dL_areGates_159 : decode cL_areGates 159 = .ok (.iastore, 1) := by decide +kernel
theorem dL_areGates_160 : decode cL_areGates 160 = .ok (.goto 119, 3) := by decide +kernel
theorem dL_areGates_163 : decode cL_areGates 163 = .ok (.iload 8, 2) := by decide +kernel
theorem dL_areGates_165 : decode cL_areGates 165 = .ok (.ifCond .eq 74, 3) := by decide +kernel
theorem dL_areGates_168 : decode cL_areGates 168 = .ok (.aload_n 0, 1) := by decide +kernel
theorem dL_areGates_169 : decode cL_areGates 169 = .ok (.iload 5, 2) := by decide +kernel
theorem dL_areGates_171 : decode cL_areGates 171 = .ok (.iload 5, 2) := by decide +kernel
theorem dL_areGates_173 : decode cL_areGates 173 = .ok (.invokevirtual 88, 3) := by decide +kernel
theorem dL_areGates_176 : decode cL_areGates 176 = .ok (.aload_n 1, 1) := by decide +kernel
theorem dL_areGates_177 : decode cL_areGates 177 = .ok (.bipush 8, 2) := by decide +kernel
theorem dL_areGates_179 : decode cL_areGates 179 = .ok (.iload 5, 2) := by decide +kernel
theorem dL_areGates_181 : decode cL_areGates 181 = .ok (.imul, 1) := by decide +kernel
theorem dL_areGates_182 : decode cL_areGates 182 = .ok (.iconst 5, 1) := by decide +kernel
theorem dL_areGates_183 : decode cL_areGates 183 = .ok (.iadd, 1) := by decide +kernel
theorem dL_areGates_184 : decode cL_areGates 184 = .ok (.iaload, 1) := by decide +kernel
theorem dL_areGates_185 : decode cL_areGates 185 = .ok (.if_icmp .le 54, 3) := by decide +kernel
theorem dL_areGates_188 : decode cL_areGates 188 = .ok (.iload 5, 2) := by decide +kernel
theorem dL_areGates_190 : decode cL_areGates 190 = .ok (.bipush 7, 2) := by decide +kernel
theorem dL_areGates_192 : decode cL_areGates 192 = .ok (.if_icmp .eq 26, 3) := by decide +kernel
theorem dL_areGates_195 : decode cL_areGates 195 = .ok (.aload_n 0, 1) := by decide +kernel
theorem dL_areGates_196 : decode cL_areGates 196 = .ok (.iload 5, 2) := by decide +kernel
theorem dL_areGates_198 : decode cL_areGates 198 = .ok (.iload 5, 2) := by decide +kernel
theorem dL_areGates_200 : decode cL_areGates 200 = .ok (.iconst 1, 1) := by decide +kernel
theorem dL_areGates_201 : decode cL_areGates 201 = .ok (.iadd, 1) := by decide +kernel
theorem dL_areGates_202 : decode cL_areGates 202 = .ok (.invokevirtual 88, 3) := by decide +kernel
theorem dL_areGates_205 : decode cL_areGates 205 = .ok (.aload_n 1, 1) := by decide +kernel
theorem dL_areGates_206 : decode cL_areGates 206 = .ok (.bipush 8, 2) := by decide +kernel
theorem dL_areGates_208 : decode cL_areGates 208 = .ok (.iload 5, 2) := by decide +kernel
theorem dL_areGates_210 : decode cL_areGates 210 = .ok (.imul, 1) := by decide +kernel
theorem dL_areGates_211 : decode cL_areGates 211 = .ok (.bipush 6, 2) := by decide +kernel
theorem dL_areGates_213 : decode cL_areGates 213 = .ok (.iadd, 1) := by decide +kernel
theorem dL_areGates_214 : decode cL_areGates 214 = .ok (.iaload, 1) := by decide +kernel
theorem dL_areGates_215 : decode cL_areGates 215 = .ok (.if_icmp .ge 24, 3) := by decide +kernel
theorem dL_areGates_218 : decode cL_areGates 218 = .ok (.iload 6, 2) := by decide +kernel
theorem dL_areGates_220 : decode cL_areGates 220 = .ok (.bipush 10, 2) := by decide +kernel
theorem dL_areGates_222 : decode cL_areGates 222 = .ok (.if_icmp .ge 10, 3) := by decide +kernel
theorem dL_areGates_225 : decode cL_areGates 225 = .ok (.iload 6, 2) := by decide +kernel
theorem dL_areGates_227 : decode cL_areGates 227 = .ok (.iconst 1, 1) := by decide +kernel
theorem dL_areGates_228 : decode cL_areGates 228 = .ok (.iadd, 1) := by decide +kernel
theorem dL_areGates_229 : decode cL_areGates 229 = .ok (.goto 5, 3) := by decide +kernel
theorem dL_areGates_232 : decode cL_areGates 232 = .ok (.bipush 10, 2) := by decide +kernel
theorem dL_areGates_234 : decode cL_areGates 234 = .ok (.istore 7, 2) := by decide +kernel
theorem dL_areGates_236 : decode cL_areGates 236 = .ok (.goto 43, 3) := by decide +kernel
theorem dL_areGates_239 : decode cL_areGates 239 = .ok (.iload 8, 2) := by decide +kernel
theorem dL_areGates_241 : decode cL_areGates 241 = .ok (.ifCond .eq 38, 3) := by decide +kernel
theorem dL_areGates_244 : decode cL_areGates 244 = .ok (.aload_n 0, 1) := by decide +kernel
theorem dL_areGates_245 : decode cL_areGates 245 = .ok (.iload 5, 2) := by decide +kernel
theorem dL_areGates_247 : decode cL_areGates 247 = .ok (.iload 5, 2) := by decide +kernel
theorem dL_areGates_249 : decode cL_areGates 249 = .ok (.invokevirtual 88, 3) := by decide +kernel
theorem dL_areGates_252 : decode cL_areGates 252 = .ok (.aload_n 1, 1) := by decide +kernel
theorem dL_areGates_253 : decode cL_areGates 253 = .ok (.bipush 8, 2) := by decide +kernel
theorem dL_areGates_255 : decode cL_areGates 255 = .ok (.iload 5, 2) := by decide +kernel
theorem dL_areGates_257 : decode cL_areGates 257 = .ok (.imul, 1) := by decide +kernel
theorem dL_areGates_258 : decode cL_areGates 258 = .ok (.iconst 4, 1) := by decide +kernel
theorem dL_areGates_259 : decode cL_areGates 259 = .ok (.iadd, 1) := by decide +kernel
theorem dL_areGates_260 : decode cL_areGates 260 = .ok (.iaload, 1) := by decide +kernel
theorem dL_areGates_261 : decode cL_areGates 261 = .ok (.if_icmp .ge 18, 3) := by decide +kernel
theorem dL_areGates_264 : decode cL_areGates 264 = .ok (.iload 6, 2) := by decide +kernel
theorem dL_areGates_266 : decode cL_areGates 266 = .ok (.ifCond .le 10, 3) := by decide +kernel
theorem dL_areGates_269 : decode cL_areGates 269 = .ok (.iload 6, 2) := by decide +kernel
theorem dL_areGates_271 : decode cL_areGates 271 = .ok (.iconst 1, 1) := by decide +kernel
theorem dL_areGates_272 : decode cL_areGates 272 = .ok (.isub, 1) := by decide +kernel
theorem dL_areGates_273 : decode cL_areGates 273 = .ok (.goto 4, 3) := by decide +kernel
theorem dL_areGates_276 : decode cL_areGates 276 = .ok (.iconst 0, 1) := by decide +kernel
theorem dL_areGates_277 : decode cL_areGates 277 = .ok (.istore 7, 2) := by decide +kernel
theorem dL_areGates_279 : decode cL_areGates 279 = .ok (.aload_n 0, 1) := by decide +kernel
theorem dL_areGates_280 : decode cL_areGates 280 = .ok (.iload 5, 2) := by decide +kernel
theorem dL_areGates_282 : decode cL_areGates 282 = .ok (.invokevirtual 73, 3) := by decide +kernel
theorem dL_areGates_285 : decode cL_areGates 285 = .ok (.iload 7, 2) := by decide +kernel
theorem dL_areGates_287 : decode cL_areGates 287 = .ok (.if_icmp .ne 20, 3) := by decide +kernel
theorem dL_areGates_290 : decode cL_areGates 290 = .ok (.aload_n 0, 1) := by decide +kernel
theorem dL_areGates_291 : decode cL_areGates 291 = .ok (.iload 5, 2) := by decide +kernel
theorem dL_areGates_293 : decode cL_areGates 293 = .ok (.invokevirtual 76, 3) := by decide +kernel
theorem dL_areGates_296 : decode cL_areGates 296 = .ok (.aload_n 3, 1) := by decide +kernel
theorem dL_areGates_297 : decode cL_areGates 297 = .ok (.iload 5, 2) := by decide +kernel
theorem dL_areGates_299 : decode cL_areGates 299 = .ok (.iaload, 1) := by decide +kernel
theorem dL_areGates_300 : decode cL_areGates 300 = .ok (.if_icmp .ne 7, 3) := by decide +kernel
theorem dL_areGates_303 : decode cL_areGates 303 = .ok (.iconst 1, 1) := by decide +kernel
theorem dL_areGates_304 : decode cL_areGates 304 = .ok (.goto 4, 3) := by decide +kernel
theorem dL_areGates_307 : decode cL_areGates 307 = .ok (.iconst 0, 1) := by decide +kernel
theorem dL_areGates_308 : decode cL_areGates 308 = .ok (.istore 4, 2) := by decide +kernel
theorem dL_areGates_310 : decode cL_areGates 310 = .ok (.iinc 5 1, 3) := by decide +kernel
theorem dL_areGates_313 : decode cL_areGates 313 = .ok (.goto (-307), 3) := by decide +kernel
theorem dL_areGates_316 : decode cL_areGates 316 = .ok (.iload 4, 2) := by decide +kernel
theorem dL_areGates_318 : decode cL_areGates 318 = .ok (.ireturn, 1) := by decide +kernel
set_option maxRecDepth 20000 in
theorem ggL_areMembers_X3_believed : GoodIn wsL_areMembers wsX3_believed := goodIn_ca (goodIn_r _ [5, 6, 7, 8, 9, 4, 10, 11, 12, 13, 14, 15, 16, 17, 18, 19, 20, 21, 102, 103, 104, 105, 106, 107, 108, 109, 110, 111, 112, 113, 114, 115, 116, 117] (by decide +kernel) (by decide +kernel)) (goodIn_sub (fun _ h => List.mem_cons_of_mem _ (List.mem_append_right _ h)) (by decide +kernel))
set_option maxRecDepth 20000 in
theorem gL_areMembers_X3_believed : GoodIn wsL_areMembers (wsV RL 88 RX3 yX3_believed wsX3_believed) := goodIn_app (goodIn_of _ (by decide +kernel)) ggL_areMembers_X3_believed
set_option maxRecDepth 20000 in
theorem ggL_areMembers_X3_level : GoodIn wsL_areMembers wsX3_level := goodIn_ca (goodIn_r _ [25, 26, 8, 9, 4, 10, 11, 12, 13, 14, 15, 27, 28, 29, 30, 31, 32, 33, 102, 103, 104, 105, 118, 119, 120, 121, 122, 123, 124, 125] (by decide +kernel) (by decide +kernel)) (goodIn_sub (fun _ h => List.mem_cons_of_mem _ (List.mem_append_right _ h)) (by decide +kernel))
set_option maxRecDepth 20000 in
theorem gL_areMembers_X3_level : GoodIn wsL_areMembers (wsV RL 64 RX3 yX3_level wsX3_level) := goodIn_app (goodIn_of _ (by decide +kernel)) ggL_areMembers_X3_level
set_option maxRecDepth 20000 in
theorem ggL_areMembers_X3_version : GoodIn wsL_areMembers wsX3_version := goodIn_ca (goodIn_r _ [37, 6, 38, 8, 9, 4, 10, 11, 12, 13, 14, 15, 102, 103, 104, 105, 106, 107, 108, 109, 110, 111, 112, 113, 114, 115, 116, 117] (by decide +kernel) (by decide +kernel)) (goodIn_sub (fun _ h => List.mem_cons_of_mem _ (List.mem_append_right _ h)) (by decide +kernel))
set_option maxRecDepth 20000 in
theorem gL_areMembers_X3_version : GoodIn wsL_areMembers (wsV RL 91 RX3 yX3_version wsX3_version) := goodIn_app (goodIn_of _ (by decide +kernel)) ggL_areMembers_X3_version
set_option maxRecDepth 20000 in
theorem ggL_areMembers_X3_status : GoodIn wsL_areMembers wsX3_status := goodIn_ca (goodIn_r _ [42, 6, 43, 8, 9, 4, 10, 11, 12, 13, 14, 15, 102, 103, 104, 105, 106, 107, 108, 109, 110, 111, 112, 113, 114, 115, 116, 117] (by decide +kernel) (by decide +kernel)) (goodIn_sub (fun _ h => List.mem_cons_of_mem _ (List.mem_append_right _ h)) (by decide +kernel))
set_option maxRecDepth 20000 in
theorem gL_areMembers_X3_status : GoodIn wsL_areMembers (wsV RL 100 RX3 yX3_status wsX3_status) := goodIn_app (goodIn_of _ (by decide +kernel)) ggL_areMembers_X3_status
set_option maxRecDepth 20000 in
theorem ggL_areMembers_X3_partner : GoodIn wsL_areMembers wsX3_partner := goodIn_ca (goodIn_r _ [47, 6, 48, 49, 8, 9, 4, 10, 11, 12, 13, 14, 15, 50, 51, 52, 19, 53, 54, 55, 56, 57, 58, 102, 103, 104, 105, 106, 107, 108, 109, 110, 111, 112, 113, 114, 115, 116, 117] (by decide +kernel) (by decide +kernel)) (goodIn_sub (fun _ h => List.mem_cons_of_mem _ (List.mem_append_right _ h)) (by decide +kernel))
set_option maxRecDepth 20000 in
theorem gL_areMembers_X3_partner : GoodIn wsL_areMembers (wsV RL 79 RX3 yX3_partner wsX3_partner) := goodIn_app (goodIn_of _ (by decide +kernel)) ggL_areMembers_X3_partner
set_option maxRecDepth 20000 in
theorem ggL_areMembers_X3_agree : GoodIn wsL_areMembers wsX3_agree := goodIn_ca (goodIn_r _ [62, 6, 26, 8, 9, 4, 10, 11, 12, 13, 14, 15, 27, 28, 29, 30, 31, 32, 33, 63, 64, 65, 19, 66, 67, 68, 69, 17, 18, 20, 21, 102, 103, 104, 105, 118, 119, 120, 121, 122, 123, 124, 125, 106, 107, 108, 109, 110, 111, 112, 113, 114, 115, 116, 117] (by decide +kernel) (by decide +kernel)) (goodIn_sub (fun _ h => List.mem_cons_of_mem _ (List.mem_append_right _ h)) (by decide +kernel))
set_option maxRecDepth 20000 in
theorem gL_areMembers_X3_agree : GoodIn wsL_areMembers (wsV RL 85 RX3 yX3_agree wsX3_agree) := goodIn_app (goodIn_of _ (by decide +kernel)) ggL_areMembers_X3_agree
set_option maxRecDepth 20000 in
theorem ggL_areMembers_X3_freshest : GoodIn wsL_areMembers wsX3_freshest := goodIn_ca (goodIn_r _ [73, 6, 8, 9, 4, 10, 11, 12, 13, 14, 15, 74, 75, 76, 19, 77, 21, 102, 103, 104, 105, 106, 107, 108, 109, 110, 111, 112, 113, 114, 115, 116, 117] (by decide +kernel) (by decide +kernel)) (goodIn_sub (fun _ h => List.mem_cons_of_mem _ (List.mem_append_right _ h)) (by decide +kernel))
set_option maxRecDepth 20000 in
theorem gL_areMembers_X3_freshest : GoodIn wsL_areMembers (wsV RL 82 RX3 yX3_freshest wsX3_freshest) := goodIn_app (goodIn_of _ (by decide +kernel)) ggL_areMembers_X3_freshest
set_option maxRecDepth 20000 in
theorem ggL_areMembers_X3_time : GoodIn wsL_areMembers wsX3_time := goodIn_r _ [81, 49, 102, 103, 104, 105] (by decide +kernel) (by decide +kernel)
set_option maxRecDepth 20000 in
theorem gL_areMembers_X3_time : GoodIn wsL_areMembers (wsV RL 103 RX3 yX3_time wsX3_time) := goodIn_app (goodIn_of _ (by decide +kernel)) ggL_areMembers_X3_time
set_option maxRecDepth 20000 in
theorem ggL_areMembers_X3_unnoticed : GoodIn wsL_areMembers wsX3_unnoticed := goodIn_r _ [85, 6, 86, 87, 88, 19, 89, 67, 90, 91, 92, 93, 58, 102, 103, 104, 105, 106, 107, 108, 109, 110, 111, 112, 113, 114, 115, 116, 117] (by decide +kernel) (by decide +kernel)
set_option maxRecDepth 20000 in
theorem gL_areMembers_X3_unnoticed : GoodIn wsL_areMembers (wsV RL 114 RX3 yX3_unnoticed wsX3_unnoticed) := goodIn_app (goodIn_of _ (by decide +kernel)) ggL_areMembers_X3_unnoticed
set_option maxRecDepth 20000 in
theorem ggL_areMembers_X3_mistaken : GoodIn wsL_areMembers wsX3_mistaken := goodIn_r _ [97, 6, 98, 99, 100, 19, 101, 67, 90, 91, 92, 93, 58, 102, 103, 104, 105, 106, 107, 108, 109, 110, 111, 112, 113, 114, 115, 116, 117] (by decide +kernel) (by decide +kernel)
set_option maxRecDepth 20000 in
theorem gL_areMembers_X3_mistaken : GoodIn wsL_areMembers (wsV RL 119 RX3 yX3_mistaken wsX3_mistaken) := goodIn_app (goodIn_of _ (by decide +kernel)) ggL_areMembers_X3_mistaken
theorem dL_areMembers_0 : decode cL_areMembers 0 = .ok (.iconst 0, 1) := by decide +kernel
theorem dL_areMembers_1 : decode cL_areMembers 1 = .ok (.istore_n 2, 1) := by decide +kernel
theorem dL_areMembers_2 : decode cL_areMembers 2 = .ok (.iconst 0, 1) := by decide +kernel
theorem dL_areMembers_3 : decode cL_areMembers 3 = .ok (.istore_n 3, 1) := by decide +kernel
theorem dL_areMembers_4 : decode cL_areMembers 4 = .ok (.iconst 1, 1) := by decide +kernel
theorem dL_areMembers_5 : decode cL_areMembers 5 = .ok (.istore 4, 2) := by decide +kernel
theorem dL_areMembers_7 : decode cL_areMembers 7 = .ok (.iconst 0, 1) := by decide +kernel
theorem dL_areMembers_8 : decode cL_areMembers 8 = .ok (.istore 5, 2) := by decide +kernel
theorem dL_areMembers_10 : decode cL_areMembers 10 = .ok (.iload 5, 2) := by decide +kernel
theorem dL_areMembers_12 : decode cL_areMembers 12 = .ok (.bipush 8, 2) := by decide +kernel
theorem dL_areMembers_14 : decode cL_areMembers 14 = .ok (.if_icmp .ge 321, 3) := by decide +kernel
theorem dL_areMembers_17 : decode cL_areMembers 17 = .ok (.iload 4, 2) := by decide +kernel
theorem dL_areMembers_19 : decode cL_areMembers 19 = .ok (.ifCond .eq 316, 3) := by decide +kernel
theorem dL_areMembers_22 : decode cL_areMembers 22 = .ok (.iconst 0, 1) := by decide +kernel
theorem dL_areMembers_23 : decode cL_areMembers 23 = .ok (.istore 6, 2) := by decide +kernel
theorem dL_areMembers_25 : decode cL_areMembers 25 = .ok (.iconst 0, 1) := by decide +kernel
theorem dL_areMembers_26 : decode cL_areMembers 26 = .ok (.istore 7, 2) := by decide +kernel
theorem dL_areMembers_28 : decode cL_areMembers 28 = .ok (.iconst 0, 1) := by decide +kernel
theorem dL_areMembers_29 : decode cL_areMembers 29 = .ok (.istore 8, 2) := by decide +kernel
theorem dL_areMembers_31 : decode cL_areMembers 31 = .ok (.iconst 0, 1) := by decide +kernel
theorem dL_areMembers_32 : decode cL_areMembers 32 = .ok (.istore 9, 2) := by decide +kernel
theorem dL_areMembers_34 : decode cL_areMembers 34 = .ok (.iload 9, 2) := by decide +kernel
theorem dL_areMembers_36 : decode cL_areMembers 36 = .ok (.bipush 8, 2) := by decide +kernel
theorem dL_areMembers_38 : decode cL_areMembers 38 = .ok (.if_icmp .ge 153, 3) := by decide +kernel
theorem dL_areMembers_41 : decode cL_areMembers 41 = .ok (.aload_n 1, 1) := by decide +kernel
theorem dL_areMembers_42 : decode cL_areMembers 42 = .ok (.bipush 8, 2) := by decide +kernel
theorem dL_areMembers_44 : decode cL_areMembers 44 = .ok (.iload 9, 2) := by decide +kernel
theorem dL_areMembers_46 : decode cL_areMembers 46 = .ok (.imul, 1) := by decide +kernel
theorem dL_areMembers_47 : decode cL_areMembers 47 = .ok (.iconst 1, 1) := by decide +kernel
theorem dL_areMembers_48 : decode cL_areMembers 48 = .ok (.iadd, 1) := by decide +kernel
theorem dL_areMembers_49 : decode cL_areMembers 49 = .ok (.iaload, 1) := by decide +kernel
theorem dL_areMembers_50 : decode cL_areMembers 50 = .ok (.ifCond .ne 7, 3) := by decide +kernel
theorem dL_areMembers_53 : decode cL_areMembers 53 = .ok (.iconst 1, 1) := by decide +kernel
theorem dL_areMembers_54 : decode cL_areMembers 54 = .ok (.goto 4, 3) := by decide +kernel
theorem dL_areMembers_57 : decode cL_areMembers 57 = .ok (.iconst 0, 1) := by decide +kernel
theorem dL_areMembers_58 : decode cL_areMembers 58 = .ok (.istore 10, 2) := by decide +kernel
theorem dL_areMembers_60 : decode cL_areMembers 60 = .ok (.iload 6, 2) := by decide +kernel
theorem dL_areMembers_62 : decode cL_areMembers 62 = .ok (.iload 10, 2) := by decide +kernel
theorem dL_areMembers_64 : decode cL_areMembers 64 = .ok (.ifCond .eq 24, 3) := by decide +kernel
theorem dL_areMembers_67 : decode cL_areMembers 67 = .ok (.aload_n 0, 1) := by decide +kernel
theorem dL_areMembers_68 : decode cL_areMembers 68 = .ok (.iload 9, 2) := by decide +kernel
theorem dL_areMembers_70 : decode cL_areMembers 70 = .ok (.iload 5, 2) := by decide +kernel
theorem dL_areMembers_72 : decode cL_areMembers 72 = .ok (.invokevirtual 88, 3) := by decide +kernel
theorem dL_areMembers_75 : decode cL_areMembers 75 = .ok (.aload_n 0, 1) := by decide +kernel
theorem dL_areMembers_76 : decode cL_areMembers 76 = .ok (.iload 5, 2) := by decide +kernel
theorem dL_areMembers_78 : decode cL_areMembers 78 = .ok (.invokevirtual 64, 3) := by decide +kernel
theorem dL_areMembers_81 : decode cL_areMembers 81 = .ok (.if_icmp .ne 7, 3) := by decide +kernel
theorem dL_areMembers_84 : decode cL_areMembers 84 = .ok (.iconst 1, 1) := by decide +kernel
theorem dL_areMembers_85 : decode cL_areMembers 85 = .ok (.goto 4, 3) := by decide +kernel
theorem dL_areMembers_88 : decode cL_areMembers 88 = .ok (.iconst 0, 1) := by decide +kernel
theorem dL_areMembers_89 : decode cL_areMembers 89 = .ok (.iadd, 1) := by decide +kernel
theorem dL_areMembers_90 : decode cL_areMembers 90 = .ok (.istore 6, 2) := by decide +kernel
theorem dL_areMembers_92 : decode cL_areMembers 92 = .ok (.aload_n 0, 1) := by decide +kernel
theorem dL_areMembers_93 : decode cL_areMembers 93 = .ok (.iload 9, 2) := by decide +kernel
theorem dL_areMembers_95 : decode cL_areMembers 95 = .ok (.iload 5, 2) := by decide +kernel
theorem dL_areMembers_97 : decode cL_areMembers 97 = .ok (.invokevirtual 91, 3) := by decide +kernel
theorem dL_areMembers_100 : decode cL_areMembers 100 = .ok (.aload_n 0, 1) := by decide +kernel
theorem dL_areMembers_101 : decode cL_areMembers 101 = .ok (.iload 7, 2) := by decide +kernel
theorem dL_areMembers_103 : decode cL_areMembers 103 = .ok (.iload 5, 2) := by decide +kernel
theorem dL_areMembers_105 : decode cL_areMembers 105 = .ok (.invokevirtual 91, 3) := by decide +kernel
theorem dL_areMembers_108 : decode cL_areMembers 108 = .ok (.if_icmp .le 8, 3) := by decide +kernel
theorem dL_areMembers_111 : decode cL_areMembers 111 = .ok (.iload 9, 2) := by decide +kernel
theorem dL_areMembers_113 : decode cL_areMembers 113 = .ok (.goto 5, 3) := by decide +kernel
theorem dL_areMembers_116 : decode cL_areMembers 116 = .ok (.iload 7, 2) := by decide +kernel
theorem dL_areMembers_118 : decode cL_areMembers 118 = .ok (.istore 7, 2) := by decide +kernel
theorem dL_areMembers_120 : decode cL_areMembers 120 = .ok (.iload 8, 2) := by decide +kernel
theorem dL_areMembers_122 : decode cL_areMembers 122 = .ok (.ifCond .ne 19, 3) := by decide +kernel
theorem dL_areMembers_125 : decode cL_areMembers 125 = .ok (.iload 10, 2) := by decide +kernel
theorem dL_areMembers_127 : decode cL_areMembers 127 = .ok (.ifCond .eq 18, 3) := by decide +kernel
theorem dL_areMembers_130 : decode cL_areMembers 130 = .ok (.aload_n 0, 1) := by decide +kernel
theorem dL_areMembers_131 : decode cL_areMembers 131 = .ok (.iload 9, 2) := by decide +kernel
theorem dL_areMembers_133 : decode cL_areMembers 133 = .ok (.iload 5, 2) := by decide +kernel
theorem dL_areMembers_135 : decode cL_areMembers 135 = .ok (.invokevirtual 100, 3) := by decide +kernel
theorem dL_areMembers_138 : decode cL_areMembers 138 = .ok (.ifCond .ne 7, 3) := by decide +kernel
theorem dL_areMembers_141 : decode cL_areMembers 141 = .ok (.iconst 1, 1) := by decide +kernel
theorem dL_areMembers_142 : decode cL_areMembers 142 = .ok (.goto 4, 3) := by decide +kernel
theorem dL_areMembers_145 : decode cL_areMembers 145 = .ok (.iconst 0, 1) := by decide +kernel
theorem dL_areMembers_146 : decode cL_areMembers 146 = .ok (.istore 8, 2) := by decide +kernel
theorem dL_areMembers_148 : decode cL_areMembers 148 = .ok (.iload_n 3, 1) := by decide +kernel
theorem dL_areMembers_149 : decode cL_areMembers 149 = .ok (.iload 10, 2) := by decide +kernel
theorem dL_areMembers_151 : decode cL_areMembers 151 = .ok (.ifCond .eq 31, 3) := by decide +kernel
theorem dL_areMembers_154 : decode cL_areMembers 154 = .ok (.aload_n 1, 1) := by decide +kernel
theorem dL_areMembers_155 : decode cL_areMembers 155 = .ok (.bipush 8, 2) := by decide +kernel
theorem dL_areMembers_157 : decode cL_areMembers 157 = .ok (.iload 5, 2) := by decide +kernel
theorem dL_areMembers_159 : decode cL_areMembers 159 = .ok (.imul, 1) := by decide +kernel
theorem dL_areMembers_160 : decode cL_areMembers 160 = .ok (.iconst 1, 1) := by decide +kernel
theorem dL_areMembers_161 : decode cL_areMembers 161 = .ok (.iadd, 1) := by decide +kernel
theorem dL_areMembers_162 : decode cL_areMembers 162 = .ok (.iaload, 1) := by decide +kernel
theorem dL_areMembers_163 : decode cL_areMembers 163 = .ok (.ifCond .ne 19, 3) := by decide +kernel
theorem dL_areMembers_166 : decode cL_areMembers 166 = .ok (.aload_n 0, 1) := by decide +kernel
theorem dL_areMembers_167 : decode cL_areMembers 167 = .ok (.iload 9, 2) := by decide +kernel
theorem dL_areMembers_169 : decode cL_areMembers 169 = .ok (.iload 5, 2) := by decide +kernel
theorem dL_areMembers_171 : decode cL_areMembers 171 = .ok (.invokevirtual 100, 3) := by decide +kernel
theorem dL_areMembers_174 : decode cL_areMembers 174 = .ok (.iconst 2, 1) := by decide +kernel
theorem dL_areMembers_175 : decode cL_areMembers 175 = .ok (.if_icmp .ne 7, 3) := by decide +kernel
theorem dL_areMembers_178 : decode cL_areMembers 178 = .ok (.iconst 1, 1) := by decide +kernel
theorem dL_areMembers_179 : decode cL_areMembers 179 = .ok (.goto 4, 3) := by decide +kernel
theorem dL_areMembers_182 : decode cL_areMembers 182 = .ok (.iconst 0, 1) := by decide +kernel
theorem dL_areMembers_183 : decode cL_areMembers 183 = .ok (.iadd, 1) := by decide +kernel
theorem dL_areMembers_184 : decode cL_areMembers 184 = .ok (.istore_n 3, 1) := by decide +kernel
theorem dL_areMembers_185 : decode cL_areMembers 185 = .ok (.iinc 9 1, 3) := by decide +kernel
theorem dL_areMembers_188 : decode cL_areMembers 188 = .ok (.goto (-154), 3) := by decide +kernel
theorem dL_areMembers_191 : decode cL_areMembers 191 = .ok (.iload_n 2, 1) := by decide +kernel
theorem dL_areMembers_192 : decode cL_areMembers 192 = .ok (.iload 8, 2) := by decide +kernel
theorem dL_areMembers_194 : decode cL_areMembers 194 = .ok (.ifCond .eq 20, 3) := by decide +kernel
theorem dL_areMembers_197 : decode cL_areMembers 197 = .ok (.aload_n 1, 1) := by decide +kernel
theorem dL_areMembers_198 : decode cL_areMembers 198 = .ok (.bipush 8, 2) := by decide +kernel
theorem dL_areMembers_200 : decode cL_areMembers 200 = .ok (.iload 5, 2) := by decide +kernel
theorem dL_areMembers_202 : decode cL_areMembers 202 = .ok (.imul, 1) := by decide +kernel
theorem dL_areMembers_203 : decode cL_areMembers 203 = .ok (.iconst 1, 1) := by decide +kernel
theorem dL_areMembers_204 : decode cL_areMembers 204 = .ok (.iadd, 1) := by decide +kernel
theorem dL_areMembers_205 : decode cL_areMembers 205 = .ok (.iaload, 1) := by decide +kernel
theorem dL_areMembers_206 : decode cL_areMembers 206 = .ok (.iconst 1, 1) := by decide +kernel
theorem dL_areMembers_207 : decode cL_areMembers 207 = .ok (.if_icmp .ne 7, 3) := by decide +kernel
theorem dL_areMembers_210 : decode cL_areMembers 210 = .ok (.iconst 1, 1) := by decide +kernel
theorem dL_areMembers_211 : decode cL_areMembers 211 = .ok (.goto 4, 3) := by decide +kernel
theorem dL_areMembers_214 : decode cL_areMembers 214 = .ok (.iconst 0, 1) := by decide +kernel
theorem dL_areMembers_215 : decode cL_areMembers 215 = .ok (.iadd, 1) := by decide +kernel
theorem dL_areMembers_216 : decode cL_areMembers 216 = .ok (.istore_n 2, 1) := by decide +kernel
theorem dL_areMembers_217 : decode cL_areMembers 217 = .ok (.aload_n 0, 1) := by decide +kernel
theorem dL_areMembers_218 : decode cL_areMembers 218 = .ok (.iload 5, 2) := by decide +kernel
theorem dL_areMembers_220 : decode cL_areMembers 220 = .ok (.invokevirtual 79, 3) := by decide +kernel
theorem dL_areMembers_223 : decode cL_areMembers 223 = .ok (.istore 9, 2) := by decide +kernel
theorem dL_areMembers_225 : decode cL_areMembers 225 = .ok (.aload_n 0, 1) := by decide +kernel
theorem dL_areMembers_226 : decode cL_areMembers 226 = .ok (.iload 5, 2) := by decide +kernel
theorem dL_areMembers_228 : decode cL_areMembers 228 = .ok (.invokevirtual 85, 3) := by decide +kernel
theorem dL_areMembers_231 : decode cL_areMembers 231 = .ok (.iload 6, 2) := by decide +kernel
theorem dL_areMembers_233 : decode cL_areMembers 233 = .ok (.if_icmp .ne 93, 3) := by decide +kernel
theorem dL_areMembers_236 : decode cL_areMembers 236 = .ok (.aload_n 0, 1) := by decide +kernel
theorem dL_areMembers_237 : decode cL_areMembers 237 = .ok (.iload 5, 2) := by decide +kernel
theorem dL_areMembers_239 : decode cL_areMembers 239 = .ok (.invokevirtual 82, 3) := by decide +kernel
theorem dL_areMembers_242 : decode cL_areMembers 242 = .ok (.aload_n 0, 1) := by decide +kernel
theorem dL_areMembers_243 : decode cL_areMembers 243 = .ok (.iload 7, 2) := by decide +kernel
theorem dL_areMembers_245 : decode cL_areMembers 245 = .ok (.iload 5, 2) := by decide +kernel
theorem dL_areMembers_247 : decode cL_areMembers 247 = .ok (.invokevirtual 91, 3) := by decide +kernel
theorem dL_areMembers_250 : decode cL_areMembers 250 = .ok (.ifCond .le 8, 3) := by decide +kernel
theorem dL_areMembers_253 : decode cL_areMembers 253 = .ok (.iload 7, 2) := by decide +kernel
theorem dL_areMembers_255 : decode cL_areMembers 255 = .ok (.goto 4, 3) := by decide +kernel
theorem dL_areMembers_258 : decode cL_areMembers 258 = .ok (.iconst (-1), 1) := by decide +kernel
theorem dL_areMembers_259 : decode cL_areMembers 259 = .ok (.if_icmp .ne 67, 3) := by decide +kernel
theorem dL_areMembers_262 : decode cL_areMembers 262 = .ok (.iload 9, 2) := by decide +kernel
theorem dL_areMembers_264 : decode cL_areMembers 264 = .ok (.iconst (-1), 1) := by decide +kernel
theorem dL_areMembers_265 : decode cL_areMembers 265 = .ok (.if_icmp .lt 61, 3) := by decide +kernel
theorem dL_areMembers_268 : decode cL_areMembers 268 = .ok (.iload 9, 2) := by decide +kernel
theorem dL_areMembers_270 : decode cL_areMembers 270 = .ok (.bipush 8, 2) := by decide +kernel
theorem dL_areMembers_272 : decode cL_areMembers 272 = .ok (.if_icmp .ge 54, 3) := by decide +kernel
theorem dL_areMembers_275 : decode cL_areMembers 275 = .ok (.iload 9, 2) := by decide +kernel
theorem dL_areMembers_277 : decode cL_areMembers 277 = .ok (.iload 5, 2) := by decide +kernel
theorem dL_areMembers_279 : decode cL_areMembers 279 = .ok (.if_icmp .eq 47, 3) := by decide +kernel
theorem dL_areMembers_282 : decode cL_areMembers 282 = .ok (.iload 9, 2) := by decide +kernel
theorem dL_areMembers_284 : decode cL_areMembers 284 = .ok (.ifCond .lt 38, 3) := by decide +kernel
theorem dL_areMembers_287 : decode cL_areMembers 287 = .ok (.aload_n 1, 1) := by decide +kernel
theorem dL_areMembers_288 : decode cL_areMembers 288 = .ok (.bipush 8, 2) := by decide +kernel
theorem dL_areMembers_290 : decode cL_areMembers 290 = .ok (.iload 5, 2) := by decide +kernel
theorem dL_areMembers_292 : decode cL_areMembers 292 = .ok (.imul, 1) := by decide +kernel
theorem dL_areMembers_293 : decode cL_areMembers 293 = .ok (.iconst 1, 1) := by decide +kernel
theorem dL_areMembers_294 : decode cL_areMembers 294 = .ok (.iadd, 1) := by decide +kernel
theorem dL_areMembers_295 : decode cL_areMembers 295 = .ok (.iaload, 1) := by decide +kernel
theorem dL_areMembers_296 : decode cL_areMembers 296 = .ok (.ifCond .ne 30, 3) := by decide +kernel
theorem dL_areMembers_299 : decode cL_areMembers 299 = .ok (.aload_n 0, 1) := by decide +kernel
theorem dL_areMembers_300 : decode cL_areMembers 300 = .ok (.invokevirtual 103, 3) := by decide +kernel
theorem dL_areMembers_303 : decode cL_areMembers 303 = .ok (.iconst 1, 1) := by decide +kernel
theorem dL_areMembers_304 : decode cL_areMembers 304 = .ok (.iadd, 1) := by decide +kernel
theorem dL_areMembers_305 : decode cL_areMembers 305 = .ok (.iconst 4, 1) := by decide +kernel
theorem dL_areMembers_306 : decode cL_areMembers 306 = .ok (.irem, 1) := by decide +kernel
theorem dL_areMembers_307 : decode cL_areMembers 307 = .ok (.ifCond .eq 15, 3) := by decide +kernel
theorem dL_areMembers_310 : decode cL_areMembers 310 = .ok (.aload_n 0, 1) := by decide +kernel
theorem dL_areMembers_311 : decode cL_areMembers 311 = .ok (.iload 5, 2) := by decide +kernel
theorem dL_areMembers_313 : decode cL_areMembers 313 = .ok (.iload 9, 2) := by decide +kernel
theorem dL_areMembers_315 : decode cL_areMembers 315 = .ok (.invokevirtual 100, 3) := by decide +kernel
theorem dL_areMembers_318 : decode cL_areMembers 318 = .ok (.iconst 2, 1) := by decide +kernel
theorem dL_areMembers_319 : decode cL_areMembers 319 = .ok (.if_icmp .ge 7, 3) := by decide +kernel
theorem dL_areMembers_322 : decode cL_areMembers 322 = .ok (.iconst 1, 1) := by decide +kernel
theorem dL_areMembers_323 : decode cL_areMembers 323 = .ok (.goto 4, 3) := by decide +kernel
theorem dL_areMembers_326 : decode cL_areMembers 326 = .ok (.iconst 0, 1) := by decide +kernel
theorem dL_areMembers_327 : decode cL_areMembers 327 = .ok (.istore 4, 2) := by decide +kernel
theorem dL_areMembers_329 : decode cL_areMembers 329 = .ok (.iinc 5 1, 3) := by decide +kernel
theorem dL_areMembers_332 : decode cL_areMembers 332 = .ok (.goto (-322), 3) := by decide +kernel
theorem dL_areMembers_335 : decode cL_areMembers 335 = .ok (.iload 4, 2) := by decide +kernel
theorem dL_areMembers_337 : decode cL_areMembers 337 = .ok (.ifCond .eq 23, 3) := by decide +kernel
theorem dL_areMembers_340 : decode cL_areMembers 340 = .ok (.aload_n 0, 1) := by decide +kernel
theorem dL_areMembers_341 : decode cL_areMembers 341 = .ok (.invokevirtual 114, 3) := by decide +kernel
theorem dL_areMembers_344 : decode cL_areMembers 344 = .ok (.iload_n 2, 1) := by decide +kernel
theorem dL_areMembers_345 : decode cL_areMembers 345 = .ok (.if_icmp .ne 15, 3) := by decide +kernel
theorem dL_areMembers_348 : decode cL_areMembers 348 = .ok (.aload_n 0, 1) := by decide +kernel
theorem dL_areMembers_349 : decode cL_areMembers 349 = .ok (.invokevirtual 119, 3) := by decide +kernel
theorem dL_areMembers_352 : decode cL_areMembers 352 = .ok (.iload_n 3, 1) := by decide +kernel
theorem dL_areMembers_353 : decode cL_areMembers 353 = .ok (.if_icmp .ne 7, 3) := by decide +kernel
theorem dL_areMembers_356 : decode cL_areMembers 356 = .ok (.iconst 1, 1) := by decide +kernel
theorem dL_areMembers_357 : decode cL_areMembers 357 = .ok (.goto 4, 3) := by decide +kernel
theorem dL_areMembers_360 : decode cL_areMembers 360 = .ok (.iconst 0, 1) := by decide +kernel
theorem dL_areMembers_361 : decode cL_areMembers 361 = .ok (.ireturn, 1) := by decide +kernel
set_option maxRecDepth 20000 in
theorem ggL_isTicked_L_keeps : GoodIn wsL_isTicked wsL_keeps := goodIn_ca (goodIn_r _ [4, 5, 6, 7, 8, 9, 10, 11, 12, 13, 14, 15, 16, 17, 18, 19, 20, 21, 22, 23, 24, 25, 26, 27, 28, 29, 30, 31, 32, 33, 34, 35, 36, 37, 38, 39, 40, 41, 285, 286, 287, 288, 289, 290, 291, 292, 293, 294, 295, 296, 297, 298, 299, 300, 301, 302, 303, 304, 305, 306, 307, 308, 309, 310, 311, 312, 313, 314, 315, 316] (by decide +kernel) (by decide +kernel)) (goodIn_sub (fun _ h => List.mem_cons_of_mem _ (List.mem_append_left _ (List.mem_append_right _ h))) (by decide +kernel))
set_option maxRecDepth 20000 in
theorem gL_isTicked_L_keeps : GoodIn wsL_isTicked (va_wsS RL 132 yL_keeps wsL_keeps) := goodIn_app (goodIn_of _ (by decide +kernel)) ggL_isTicked_L_keeps
set_option maxRecDepth 20000 in
theorem ggL_isTicked_X3_time : GoodIn wsL_isTicked wsX3_time := goodIn_r _ [45, 46, 285, 286, 287, 288] (by decide +kernel) (by decide +kernel)
set_option maxRecDepth 20000 in
theorem gL_isTicked_X3_time : GoodIn wsL_isTicked (wsV RL 103 RX3 yX3_time wsX3_time) := goodIn_app (goodIn_of _ (by decide +kernel)) ggL_isTicked_X3_time
set_option maxRecDepth 20000 in
theorem ggL_isTicked_X3_vain : GoodIn wsL_isTicked wsX3_vain := goodIn_r _ [50, 40, 51, 285, 286, 287, 288, 305, 306, 307, 308, 309, 310, 311, 312, 313, 314, 315, 316] (by decide +kernel) (by decide +kernel)
set_option maxRecDepth 20000 in
theorem gL_isTicked_X3_vain : GoodIn wsL_isTicked (wsV RL 109 RX3 yX3_vain wsX3_vain) := goodIn_app (goodIn_of _ (by decide +kernel)) ggL_isTicked_X3_vain
set_option maxRecDepth 20000 in
theorem ggL_isTicked_L_act : GoodIn wsL_isTicked wsL_act := goodIn_ca (goodIn_ca (goodIn_r _ [54, 55, 56, 57, 58, 59, 8, 60, 34, 61, 12, 13, 14, 15, 16, 17, 18, 19, 62, 63, 64, 65, 10, 66, 67, 68, 69, 70, 71, 72, 73, 74, 75, 76, 77, 78, 35, 79, 80, 81, 82, 40, 83, 84, 85, 86, 87, 88, 89, 90, 91, 92, 46, 93, 94, 95, 96, 97, 98, 99, 100, 101, 102, 103, 104, 105, 106, 107, 108, 109, 110, 111, 112, 113, 114, 115, 116, 117, 118, 119, 120, 121, 122, 123, 124, 125, 126, 127, 128, 129, 130, 131, 132, 133, 134, 135, 136, 137, 138, 139, 140, 141, 142, 143, 144, 145, 146, 147, 148, 149, 150, 151, 152, 153, 154, 155, 156, 157, 158, 159, 160, 161, 162, 163, 164, 165, 166, 167, 168, 169, 170, 171, 172, 173, 174, 175, 176, 177, 178, 179, 180, 181, 182, 183, 184, 185, 186, 187, 188, 189, 190, 191, 192, 193, 194, 195, 196, 197, 198, 199, 200, 201, 202, 203, 204, 205, 206, 207, 208, 209, 210, 211, 212, 213, 214, 215, 216, 217, 218, 219, 220, 221, 222, 223, 224, 225, 226, 227, 228, 229, 230, 231, 232, 233, 234, 235, 236, 237, 285, 286, 287, 288, 297, 298, 299, 300, 301, 302, 303, 304, 289, 290, 291, 292, 293, 294, 295, 296, 305, 306, 307, 308, 309, 310, 311, 312, 313, 314, 315, 316] (by decide +kernel) (by decide +kernel)) (goodIn_sub (fun _ h => List.mem_cons_of_mem _ (List.mem_append_left _ (List.mem_append_right _ h))) (by decide +kernel))) (goodIn_sub (fun _ h => List.mem_cons_of_mem _ (List.mem_append_right _ h)) (by decide +kernel))
set_option maxRecDepth 20000 in
theorem gL_isTicked_L_act : GoodIn wsL_isTicked (va_wsS RL 138 yL_act wsL_act) := goodIn_app (goodIn_of _ (by decide +kernel)) ggL_isTicked_L_act
set_option maxRecDepth 20000 in
theorem ggL_isTicked_L_isWater : GoodIn wsL_isTicked wsL_isWater := goodIn_ca (goodIn_r _ [240, 20, 21, 22, 8, 23, 10, 24, 12, 13, 14, 15, 16, 17, 18, 19, 25, 26, 27, 28, 29, 5, 6, 7, 9, 11, 241, 242, 243, 244, 245, 246, 247, 100, 248, 109, 118, 139, 249, 250, 251, 252, 253, 147, 148, 149, 134, 108, 285, 286, 287, 288, 289, 290, 291, 292, 293, 294, 295, 296] (by decide +kernel) (by decide +kernel)) (goodIn_sub (fun _ h => List.mem_cons_of_mem _ (List.mem_append_left _ (List.mem_append_right _ h))) (by decide +kernel))
set_option maxRecDepth 20000 in
theorem gL_isTicked_L_isWater : GoodIn wsL_isTicked (va_wsS RL 142 yL_isWater wsL_isWater) := goodIn_app (goodIn_of _ (by decide +kernel)) ggL_isTicked_L_isWater
set_option maxRecDepth 20000 in
theorem ggL_isTicked_L_areBeats : GoodIn wsL_isTicked wsL_areBeats := goodIn_ca (goodIn_r _ [256, 42, 43, 44, 8, 45, 46, 36, 37, 38, 39, 40, 41, 12, 13, 14, 15, 16, 17, 18, 19, 257, 258, 259, 260, 261, 262, 263, 264, 265, 266, 267, 268, 269, 270, 215, 271, 222, 223, 143, 224, 157, 272, 273, 274, 275, 276, 285, 286, 287, 288, 305, 306, 307, 308, 309, 310, 311, 312, 313, 314, 315, 316] (by decide +kernel) (by decide +kernel)) (goodIn_sub (fun _ h => List.mem_cons_of_mem _ (List.mem_append_left _ (List.mem_append_right _ h))) (by decide +kernel))
set_option maxRecDepth 20000 in
theorem gL_isTicked_L_areBeats : GoodIn wsL_isTicked (va_wsS RL 146 yL_areBeats wsL_areBeats) := goodIn_app (goodIn_of _ (by decide +kernel)) ggL_isTicked_L_areBeats
set_option maxRecDepth 20000 in
theorem ggL_isTicked_L_areGates : GoodIn wsL_isTicked wsL_areGates := goodIn_ca (goodIn_r _ [279, 267, 268, 269, 8, 270, 40, 215, 12, 13, 14, 15, 16, 17, 18, 19, 271, 222, 223, 143, 224, 157, 272, 273, 274, 275, 46, 276, 30, 31, 32, 33, 34, 35, 280, 281, 282, 283, 284, 285, 286, 287, 288, 305, 306, 307, 308, 309, 310, 311, 312, 313, 314, 315, 316, 297, 298, 299, 300, 301, 302, 303, 304] (by decide +kernel) (by decide +kernel)) (goodIn_sub (fun _ h => List.mem_cons_of_mem _ (List.mem_append_left _ (List.mem_append_right _ h))) (by decide +kernel))
set_option maxRecDepth 20000 in
theorem gL_isTicked_L_areGates : GoodIn wsL_isTicked (va_wsS RL 150 yL_areGates wsL_areGates) := goodIn_app (goodIn_of _ (by decide +kernel)) ggL_isTicked_L_areGates
theorem dL_isTicked_0 : decode cL_isTicked 0 = .ok (.aload_n 0, 1) := by decide +kernel
theorem dL_isTicked_1 : decode cL_isTicked 1 = .ok (.aload_n 2, 1) := by decide +kernel
theorem dL_isTicked_2 : decode cL_isTicked 2 = .ok (.aload_n 3, 1) := by decide +kernel
theorem dL_isTicked_3 : decode cL_isTicked 3 = .ok (.invokestatic 132, 3) := by decide +kernel
theorem dL_isTicked_6 : decode cL_isTicked 6 = .ok (.aload_n 0, 1) := by decide +kernel
theorem dL_isTicked_7 : decode cL_isTicked 7 = .ok (.invokevirtual 103, 3) := by decide +kernel
theorem dL_isTicked_10 : decode cL_isTicked 10 = .ok (.istore 7, 2) := by decide +kernel
theorem dL_isTicked_12 : decode cL_isTicked 12 = .ok (.aload_n 0, 1) := by decide +kernel
theorem dL_isTicked_13 : decode cL_isTicked 13 = .ok (.invokevirtual 109, 3) := by decide +kernel
theorem dL_isTicked_16 : decode cL_isTicked 16 = .ok (.istore 8, 2) := by decide +kernel
theorem dL_isTicked_18 : decode cL_isTicked 18 = .ok (.iconst 0, 1) := by decide +kernel
theorem dL_isTicked_19 : decode cL_isTicked 19 = .ok (.istore 9, 2) := by decide +kernel
theorem dL_isTicked_21 : decode cL_isTicked 21 = .ok (.iconst 0, 1) := by decide +kernel
theorem dL_isTicked_22 : decode cL_isTicked 22 = .ok (.istore 10, 2) := by decide +kernel
theorem dL_isTicked_24 : decode cL_isTicked 24 = .ok (.iload 10, 2) := by decide +kernel
theorem dL_isTicked_26 : decode cL_isTicked 26 = .ok (.bipush 8, 2) := by decide +kernel
theorem dL_isTicked_28 : decode cL_isTicked 28 = .ok (.if_icmp .ge 31, 3) := by decide +kernel
theorem dL_isTicked_31 : decode cL_isTicked 31 = .ok (.iload 9, 2) := by decide +kernel
theorem dL_isTicked_33 : decode cL_isTicked 33 = .ok (.aload_n 2, 1) := by decide +kernel
theorem dL_isTicked_34 : decode cL_isTicked 34 = .ok (.bipush 8, 2) := by decide +kernel
theorem dL_isTicked_36 : decode cL_isTicked 36 = .ok (.iload 10, 2) := by decide +kernel
theorem dL_isTicked_38 : decode cL_isTicked 38 = .ok (.imul, 1) := by decide +kernel
theorem dL_isTicked_39 : decode cL_isTicked 39 = .ok (.iconst 1, 1) := by decide +kernel
theorem dL_isTicked_40 : decode cL_isTicked 40 = .ok (.iadd, 1) := by decide +kernel
theorem dL_isTicked_41 : decode cL_isTicked 41 = .ok (.iaload, 1) := by decide +kernel
theorem dL_isTicked_42 : decode cL_isTicked 42 = .ok (.ifCond .ne 7, 3) := by decide +kernel
theorem dL_isTicked_45 : decode cL_isTicked 45 = .ok (.iconst 1, 1) := by decide +kernel
theorem dL_isTicked_46 : decode cL_isTicked 46 = .ok (.goto 4, 3) := by decide +kernel
theorem dL_isTicked_49 : decode cL_isTicked 49 = .ok (.iconst 0, 1) := by decide +kernel
theorem dL_isTicked_50 : decode cL_isTicked 50 = .ok (.iadd, 1) := by decide +kernel
theorem dL_isTicked_51 : decode cL_isTicked 51 = .ok (.istore 9, 2) := by decide +kernel
theorem dL_isTicked_53 : decode cL_isTicked 53 = .ok (.iinc 10 1, 3) := by decide +kernel
theorem dL_isTicked_56 : decode cL_isTicked 56 = .ok (.goto (-32), 3) := by decide +kernel
theorem dL_isTicked_59 : decode cL_isTicked 59 = .ok (.aload_n 0, 1) := by decide +kernel
theorem dL_isTicked_60 : decode cL_isTicked 60 = .ok (.bipush 6, 2) := by decide +kernel
theorem dL_isTicked_62 : decode cL_isTicked 62 = .ok (.iconst 1, 1) := by decide +kernel
theorem dL_isTicked_63 : decode cL_isTicked 63 = .ok (.iconst 0, 1) := by decide +kernel
theorem dL_isTicked_64 : decode cL_isTicked 64 = .ok (.invokestatic 138, 3) := by decide +kernel
theorem dL_isTicked_67 : decode cL_isTicked 67 = .ok (.istore 10, 2) := by decide +kernel
theorem dL_isTicked_69 : decode cL_isTicked 69 = .ok (.iload 10, 2) := by decide +kernel
theorem dL_isTicked_71 : decode cL_isTicked 71 = .ok (.ifCond .lt 76, 3) := by decide +kernel
theorem dL_isTicked_74 : decode cL_isTicked 74 = .ok (.aload_n 0, 1) := by decide +kernel
theorem dL_isTicked_75 : decode cL_isTicked 75 = .ok (.invokevirtual 103, 3) := by decide +kernel
theorem dL_isTicked_78 : decode cL_isTicked 78 = .ok (.iload 7, 2) := by decide +kernel
theorem dL_isTicked_80 : decode cL_isTicked 80 = .ok (.iconst 1, 1) := by decide +kernel
theorem dL_isTicked_81 : decode cL_isTicked 81 = .ok (.iadd, 1) := by decide +kernel
theorem dL_isTicked_82 : decode cL_isTicked 82 = .ok (.if_icmp .ne 65, 3) := by decide +kernel
theorem dL_isTicked_85 : decode cL_isTicked 85 = .ok (.aload_n 0, 1) := by decide +kernel
theorem dL_isTicked_86 : decode cL_isTicked 86 = .ok (.invokevirtual 109, 3) := by decide +kernel
theorem dL_isTicked_89 : decode cL_isTicked 89 = .ok (.iload 8, 2) := by decide +kernel
theorem dL_isTicked_91 : decode cL_isTicked 91 = .ok (.if_icmp .lt 56, 3) := by decide +kernel
theorem dL_isTicked_94 : decode cL_isTicked 94 = .ok (.aload_n 0, 1) := by decide +kernel
theorem dL_isTicked_95 : decode cL_isTicked 95 = .ok (.invokevirtual 109, 3) := by decide +kernel
theorem dL_isTicked_98 : decode cL_isTicked 98 = .ok (.iload 8, 2) := by decide +kernel
theorem dL_isTicked_100 : decode cL_isTicked 100 = .ok (.iload 9, 2) := by decide +kernel
theorem dL_isTicked_102 : decode cL_isTicked 102 = .ok (.iadd, 1) := by decide +kernel
theorem dL_isTicked_103 : decode cL_isTicked 103 = .ok (.if_icmp .gt 44, 3) := by decide +kernel
theorem dL_isTicked_106 : decode cL_isTicked 106 = .ok (.aload_n 0, 1) := by decide +kernel
theorem dL_isTicked_107 : decode cL_isTicked 107 = .ok (.aload_n 1, 1) := by decide +kernel
theorem dL_isTicked_108 : decode cL_isTicked 108 = .ok (.aload_n 2, 1) := by decide +kernel
theorem dL_isTicked_109 : decode cL_isTicked 109 = .ok (.aload 6, 2) := by decide +kernel
theorem dL_isTicked_111 : decode cL_isTicked 111 = .ok (.iload 10, 2) := by decide +kernel
theorem dL_isTicked_113 : decode cL_isTicked 113 = .ok (.invokestatic 142, 3) := by decide +kernel
theorem dL_isTicked_116 : decode cL_isTicked 116 = .ok (.ifCond .eq 31, 3) := by decide +kernel
theorem dL_isTicked_119 : decode cL_isTicked 119 = .ok (.aload_n 0, 1) := by decide +kernel
theorem dL_isTicked_120 : decode cL_isTicked 120 = .ok (.aload_n 2, 1) := by decide +kernel
theorem dL_isTicked_121 : decode cL_isTicked 121 = .ok (.aload_n 3, 1) := by decide +kernel
theorem dL_isTicked_122 : decode cL_isTicked 122 = .ok (.aload 4, 2) := by decide +kernel
theorem dL_isTicked_124 : decode cL_isTicked 124 = .ok (.aload 6, 2) := by decide +kernel
theorem dL_isTicked_126 : decode cL_isTicked 126 = .ok (.invokestatic 146, 3) := by decide +kernel
theorem dL_isTicked_129 : decode cL_isTicked 129 = .ok (.ifCond .eq 18, 3) := by decide +kernel
theorem dL_isTicked_132 : decode cL_isTicked 132 = .ok (.aload_n 0, 1) := by decide +kernel
theorem dL_isTicked_133 : decode cL_isTicked 133 = .ok (.aload_n 1, 1) := by decide +kernel
theorem dL_isTicked_134 : decode cL_isTicked 134 = .ok (.aload_n 2, 1) := by decide +kernel
theorem dL_isTicked_135 : decode cL_isTicked 135 = .ok (.aload 5, 2) := by decide +kernel
theorem dL_isTicked_137 : decode cL_isTicked 137 = .ok (.invokestatic 150, 3) := by decide +kernel
theorem dL_isTicked_140 : decode cL_isTicked 140 = .ok (.ifCond .eq 7, 3) := by decide +kernel
theorem dL_isTicked_143 : decode cL_isTicked 143 = .ok (.iconst 1, 1) := by decide +kernel
theorem dL_isTicked_144 : decode cL_isTicked 144 = .ok (.goto 4, 3) := by decide +kernel
theorem dL_isTicked_147 : decode cL_isTicked 147 = .ok (.iconst 0, 1) := by decide +kernel
theorem dL_isTicked_148 : decode cL_isTicked 148 = .ok (.ireturn, 1) := by decide +kernel
set_option maxRecDepth 20000 in
theorem ggL_isRefused_L_all : GoodIn wsL_isRefused wsL_all := goodIn_ca (goodIn_r _ [4, 5, 6, 7, 8, 9, 10, 11, 12, 13, 14, 15, 16, 17, 18, 19, 20, 21, 22, 23, 24, 25, 26, 27, 28, 29, 30, 31, 32, 33, 34, 35, 36, 37, 38, 39, 40, 41, 42, 43, 44, 45, 46, 47, 48, 49, 50, 51, 52, 53, 54, 55, 56, 57, 58, 59, 60, 61, 62, 63, 64, 65, 66, 67, 68, 69, 70, 71, 72, 73, 74, 75, 76, 77, 78, 79, 80, 81, 82, 83, 84, 85, 86, 87, 88, 89, 90, 91, 92, 93, 94, 95, 96, 97, 98, 99, 100, 101, 102, 103, 104, 105, 106, 107, 108, 109, 110, 111, 112, 113, 114, 115, 116, 117, 118, 119, 120, 121, 122, 123, 124, 125, 126, 127, 374, 375, 376, 377, 378, 379, 380, 381, 382, 383, 384, 385, 386, 387, 388, 389, 390, 391, 392, 393, 394, 395, 396, 397, 398, 399, 400, 401, 402, 403, 404, 405] (by decide +kernel) (by decide +kernel)) (goodIn_sub (fun _ h => List.mem_cons_of_mem _ (List.mem_append_left _ (List.mem_append_right _ h))) (by decide +kernel))
set_option maxRecDepth 20000 in
theorem gL_isRefused_L_all : GoodIn wsL_isRefused (va_wsS RL 154 yL_all wsL_all) := goodIn_app (goodIn_of _ (by decide +kernel)) ggL_isRefused_L_all
set_option maxRecDepth 20000 in
theorem ggL_isRefused_L_shaped : GoodIn wsL_isRefused wsL_shaped := goodIn_ca (goodIn_r _ [130, 131, 132, 133, 134, 16, 135, 52, 136, 137, 54, 55, 56, 57, 58, 59, 60, 61, 374, 375, 376, 377, 390, 391, 392, 393, 394, 395, 396, 397] (by decide +kernel) (by decide +kernel)) (goodIn_sub (fun _ h => List.mem_cons_of_mem _ (List.mem_append_left _ (List.mem_append_right _ h))) (by decide +kernel))
set_option maxRecDepth 20000 in
theorem gL_isRefused_L_shaped : GoodIn wsL_isRefused (va_wsS RL 158 yL_shaped wsL_shaped) := goodIn_app (goodIn_of _ (by decide +kernel)) ggL_isRefused_L_shaped
set_option maxRecDepth 20000 in
theorem ggL_isRefused_L_act : GoodIn wsL_isRefused wsL_act := goodIn_ca (goodIn_ca (goodIn_r _ [140, 131, 141, 142, 143, 144, 16, 145, 66, 146, 54, 55, 56, 57, 58, 59, 60, 61, 147, 148, 149, 150, 52, 151, 152, 153, 154, 155, 156, 157, 158, 159, 160, 161, 162, 163, 67, 164, 165, 166, 167, 23, 168, 169, 170, 171, 172, 173, 174, 175, 176, 177, 18, 178, 179, 180, 181, 182, 183, 184, 80, 185, 186, 187, 188, 189, 190, 191, 83, 192, 193, 194, 195, 196, 197, 198, 199, 200, 201, 202, 203, 204, 205, 206, 207, 208, 209, 210, 211, 212, 213, 214, 215, 216, 82, 217, 218, 219, 220, 221, 222, 223, 224, 32, 225, 34, 226, 78, 79, 81, 227, 228, 229, 230, 231, 88, 232, 93, 233, 234, 235, 236, 237, 238, 239, 240, 241, 242, 243, 244, 245, 100, 101, 102, 103, 104, 105, 106, 39, 246, 247, 248, 249, 250, 251, 252, 253, 254, 255, 256, 257, 258, 259, 260, 261, 262, 263, 264, 265, 266, 267, 268, 269, 270, 271, 272, 273, 274, 275, 98, 276, 277, 278, 279, 280, 126, 281, 282, 283, 284, 285, 89, 90, 91, 92, 286, 287, 288, 289, 290, 291, 292, 293, 294, 295, 296, 297, 298, 374, 375, 376, 377, 398, 399, 400, 401, 402, 403, 404, 405, 390, 391, 392, 393, 394, 395, 396, 397, 378, 379, 380, 381, 382, 383, 384, 385, 386, 387, 388, 389] (by decide +kernel) (by decide +kernel)) (goodIn_sub (fun _ h => List.mem_cons_of_mem _ (List.mem_append_left _ (List.mem_append_right _ h))) (by decide +kernel))) (goodIn_sub (fun _ h => List.mem_cons_of_mem _ (List.mem_append_right _ h)) (by decide +kernel))
set_option maxRecDepth 20000 in
theorem gL_isRefused_L_act : GoodIn wsL_isRefused (va_wsS RL 138 yL_act wsL_act) := goodIn_app (goodIn_of _ (by decide +kernel)) ggL_isRefused_L_act
set_option maxRecDepth 20000 in
theorem ggL_isRefused_L_ruled : GoodIn wsL_isRefused wsL_ruled := goodIn_ca (goodIn_r _ [301, 131, 302, 303, 304, 16, 305, 66, 306, 307, 281, 280, 54, 55, 56, 57, 58, 59, 60, 61, 374, 375, 376, 377, 398, 399, 400, 401, 402, 403, 404, 405] (by decide +kernel) (by decide +kernel)) (goodIn_sub (fun _ h => List.mem_cons_of_mem _ (List.mem_append_left _ (List.mem_append_right _ h))) (by decide +kernel))
set_option maxRecDepth 20000 in
theorem gL_isRefused_L_ruled : GoodIn wsL_isRefused (va_wsS RL 161 yL_ruled wsL_ruled) := goodIn_app (goodIn_of _ (by decide +kernel)) ggL_isRefused_L_ruled
set_option maxRecDepth 20000 in
theorem ggL_isRefused_L_timed : GoodIn wsL_isRefused wsL_timed := goodIn_ca (goodIn_r _ [310, 131, 311, 312, 313, 16, 314, 23, 315, 316, 57, 58, 59, 60, 61, 374, 375, 376, 377, 378, 379, 380, 381, 382, 383, 384, 385, 386, 387, 388, 389] (by decide +kernel) (by decide +kernel)) (goodIn_sub (fun _ h => List.mem_cons_of_mem _ (List.mem_append_left _ (List.mem_append_right _ h))) (by decide +kernel))
set_option maxRecDepth 20000 in
theorem gL_isRefused_L_timed : GoodIn wsL_isRefused (va_wsS RL 165 yL_timed wsL_timed) := goodIn_app (goodIn_of _ (by decide +kernel)) ggL_isRefused_L_timed
set_option maxRecDepth 20000 in
theorem ggL_isRefused_L_fallen : GoodIn wsL_isRefused wsL_fallen := goodIn_ca (goodIn_ca (goodIn_r _ [319, 131, 141, 320, 321, 322, 16, 323, 161, 162, 23, 98, 54, 55, 56, 57, 58, 59, 60, 61, 374, 375, 376, 377, 378, 379, 380, 381, 382, 383, 384, 385, 386, 387, 388, 389] (by decide +kernel) (by decide +kernel)) (goodIn_sub (fun _ h => List.mem_cons_of_mem _ (List.mem_append_right _ h)) (by decide +kernel))) (goodIn_sub (fun _ h => List.mem_cons_of_mem _ (List.mem_append_left _ (List.mem_append_right _ h))) (by decide +kernel))
set_option maxRecDepth 20000 in
theorem gL_isRefused_L_fallen : GoodIn wsL_isRefused (va_wsS RL 169 yL_fallen wsL_fallen) := goodIn_app (goodIn_of _ (by decide +kernel)) ggL_isRefused_L_fallen
set_option maxRecDepth 20000 in
theorem ggL_isRefused_L_risen : GoodIn wsL_isRefused wsL_risen := goodIn_ca (goodIn_ca (goodIn_r _ [326, 131, 141, 327, 328, 329, 16, 330, 161, 162, 23, 98, 331, 18, 54, 55, 56, 57, 58, 59, 60, 61, 332, 333, 334, 335, 374, 375, 376, 377, 378, 379, 380, 381, 382, 383, 384, 385, 386, 387, 388, 389] (by decide +kernel) (by decide +kernel)) (goodIn_sub (fun _ h => List.mem_cons_of_mem _ (List.mem_append_right _ h)) (by decide +kernel))) (goodIn_sub (fun _ h => List.mem_cons_of_mem _ (List.mem_append_left _ (List.mem_append_right _ h))) (by decide +kernel))
set_option maxRecDepth 20000 in
theorem gL_isRefused_L_risen : GoodIn wsL_isRefused (va_wsS RL 173 yL_risen wsL_risen) := goodIn_app (goodIn_of _ (by decide +kernel)) ggL_isRefused_L_risen
set_option maxRecDepth 20000 in
theorem ggL_isRefused_L_of : GoodIn wsL_isRefused wsL_of := goodIn_ca (goodIn_r _ [338, 131, 48, 49, 50, 16, 51, 52, 53, 54, 55, 56, 57, 58, 59, 60, 61, 339, 340, 341, 342, 343, 344, 345, 80, 346, 192, 201, 221, 347, 348, 349, 350, 77, 78, 79, 81, 82, 83, 351, 352, 353, 354, 355, 356, 357, 358, 359, 360, 62, 63, 64, 65, 66, 67, 68, 69, 70, 71, 72, 94, 95, 96, 97, 23, 98, 18, 99, 100, 101, 32, 102, 103, 104, 105, 106, 39, 361, 362, 363, 364, 365, 366, 367, 368, 93, 73, 74, 75, 76, 84, 85, 86, 87, 34, 88, 89, 90, 91, 92, 122, 123, 124, 125, 126, 127, 107, 108, 109, 110, 111, 369, 370, 371, 372, 373, 112, 113, 114, 115, 116, 117, 118, 119, 120, 121, 374, 375, 376, 377, 390, 391, 392, 393, 394, 395, 396, 397, 398, 399, 400, 401, 402, 403, 404, 405, 378, 379, 380, 381, 382, 383, 384, 385, 386, 387, 388, 389] (by decide +kernel) (by decide +kernel)) (goodIn_sub (fun _ h => List.mem_cons_of_mem _ (List.mem_append_left _ (List.mem_append_right _ h))) (by decide +kernel))
set_option maxRecDepth 20000 in
theorem gL_isRefused_L_of : GoodIn wsL_isRefused (va_wsS RL 176 yL_of wsL_of) := goodIn_app (goodIn_of _ (by decide +kernel)) ggL_isRefused_L_of
theorem dL_isRefused_0 : decode cL_isRefused 0 = .ok (.iload_n 2, 1) := by decide +kernel
theorem dL_isRefused_1 : decode cL_isRefused 1 = .ok (.iconst 2, 1) := by decide +kernel
theorem dL_isRefused_2 : decode cL_isRefused 2 = .ok (.irem, 1) := by decide +kernel
theorem dL_isRefused_3 : decode cL_isRefused 3 = .ok (.ifCond .ne 7, 3) := by decide +kernel
theorem dL_isRefused_6 : decode cL_isRefused 6 = .ok (.iconst 1, 1) := by decide +kernel
theorem dL_isRefused_7 : decode cL_isRefused 7 = .ok (.goto 4, 3) := by decide +kernel
theorem dL_isRefused_10 : decode cL_isRefused 10 = .ok (.iconst 0, 1) := by decide +kernel
theorem dL_isRefused_11 : decode cL_isRefused 11 = .ok (.istore_n 3, 1) := by decide +kernel
theorem dL_isRefused_12 : decode cL_isRefused 12 = .ok (.iload_n 3, 1) := by decide +kernel
theorem dL_isRefused_13 : decode cL_isRefused 13 = .ok (.ifCond .eq 12, 3) := by decide +kernel
theorem dL_isRefused_16 : decode cL_isRefused 16 = .ok (.iconst (-1), 1) := by decide +kernel
theorem dL_isRefused_17 : decode cL_isRefused 17 = .ok (.iload_n 2, 1) := by decide +kernel
theorem dL_isRefused_18 : decode cL_isRefused 18 = .ok (.bipush 30, 2) := by decide +kernel
theorem dL_isRefused_20 : decode cL_isRefused 20 = .ok (.irem, 1) := by decide +kernel
theorem dL_isRefused_21 : decode cL_isRefused 21 = .ok (.isub, 1) := by decide +kernel
theorem dL_isRefused_22 : decode cL_isRefused 22 = .ok (.goto 10, 3) := by decide +kernel
theorem dL_isRefused_25 : decode cL_isRefused 25 = .ok (.bipush 8, 2) := by decide +kernel
theorem dL_isRefused_27 : decode cL_isRefused 27 = .ok (.iload_n 2, 1) := by decide +kernel
theorem dL_isRefused_28 : decode cL_isRefused 28 = .ok (.bipush 30, 2) := by decide +kernel
theorem dL_isRefused_30 : decode cL_isRefused 30 = .ok (.irem, 1) := by decide +kernel
theorem dL_isRefused_31 : decode cL_isRefused 31 = .ok (.iadd, 1) := by decide +kernel
theorem dL_isRefused_32 : decode cL_isRefused 32 = .ok (.istore 4, 2) := by decide +kernel
theorem dL_isRefused_34 : decode cL_isRefused 34 = .ok (.iload_n 2, 1) := by decide +kernel
theorem dL_isRefused_35 : decode cL_isRefused 35 = .ok (.iconst 2, 1) := by decide +kernel
theorem dL_isRefused_36 : decode cL_isRefused 36 = .ok (.idiv, 1) := by decide +kernel
theorem dL_isRefused_37 : decode cL_isRefused 37 = .ok (.bipush 8, 2) := by decide +kernel
theorem dL_isRefused_39 : decode cL_isRefused 39 = .ok (.irem, 1) := by decide +kernel
theorem dL_isRefused_40 : decode cL_isRefused 40 = .ok (.istore 5, 2) := by decide +kernel
theorem dL_isRefused_42 : decode cL_isRefused 42 = .ok (.aload_n 0, 1) := by decide +kernel
theorem dL_isRefused_43 : decode cL_isRefused 43 = .ok (.invokestatic 154, 3) := by decide +kernel
theorem dL_isRefused_46 : decode cL_isRefused 46 = .ok (.lstore 6, 2) := by decide +kernel
theorem dL_isRefused_48 : decode cL_isRefused 48 = .ok (.aload_n 0, 1) := by decide +kernel
theorem dL_isRefused_49 : decode cL_isRefused 49 = .ok (.iload 4, 2) := by decide +kernel
theorem dL_isRefused_51 : decode cL_isRefused 51 = .ok (.iconst 5, 1) := by decide +kernel
theorem dL_isRefused_52 : decode cL_isRefused 52 = .ok (.iconst 5, 1) := by decide +kernel
theorem dL_isRefused_53 : decode cL_isRefused 53 = .ok (.invokestatic 158, 3) := by decide +kernel
theorem dL_isRefused_56 : decode cL_isRefused 56 = .ok (.sipush (-1232), 3) := by decide +kernel
theorem dL_isRefused_59 : decode cL_isRefused 59 = .ok (.if_icmp .ne 499, 3) := by decide +kernel
theorem dL_isRefused_62 : decode cL_isRefused 62 = .ok (.aload_n 0, 1) := by decide +kernel
theorem dL_isRefused_63 : decode cL_isRefused 63 = .ok (.iload 5, 2) := by decide +kernel
theorem dL_isRefused_65 : decode cL_isRefused 65 = .ok (.iload_n 3, 1) := by decide +kernel
theorem dL_isRefused_66 : decode cL_isRefused 66 = .ok (.ifCond .eq 12, 3) := by decide +kernel
theorem dL_isRefused_69 : decode cL_isRefused 69 = .ok (.iconst 0, 1) := by decide +kernel
theorem dL_isRefused_70 : decode cL_isRefused 70 = .ok (.iload_n 2, 1) := by decide +kernel
theorem dL_isRefused_71 : decode cL_isRefused 71 = .ok (.bipush 30, 2) := by decide +kernel
theorem dL_isRefused_73 : decode cL_isRefused 73 = .ok (.irem, 1) := by decide +kernel
theorem dL_isRefused_74 : decode cL_isRefused 74 = .ok (.isub, 1) := by decide +kernel
theorem dL_isRefused_75 : decode cL_isRefused 75 = .ok (.goto 5, 3) := by decide +kernel
theorem dL_isRefused_78 : decode cL_isRefused 78 = .ok (.bipush 101, 2) := by decide +kernel
theorem dL_isRefused_80 : decode cL_isRefused 80 = .ok (.iconst 5, 1) := by decide +kernel
theorem dL_isRefused_81 : decode cL_isRefused 81 = .ok (.invokestatic 158, 3) := by decide +kernel
theorem dL_isRefused_84 : decode cL_isRefused 84 = .ok (.sipush (-1232), 3) := by decide +kernel
theorem dL_isRefused_87 : decode cL_isRefused 87 = .ok (.if_icmp .ne 471, 3) := by decide +kernel
theorem dL_isRefused_90 : decode cL_isRefused 90 = .ok (.aload_n 0, 1) := by decide +kernel
theorem dL_isRefused_91 : decode cL_isRefused 91 = .ok (.iload 5, 2) := by decide +kernel
theorem dL_isRefused_93 : decode cL_isRefused 93 = .ok (.iconst 5, 1) := by decide +kernel
theorem dL_isRefused_94 : decode cL_isRefused 94 = .ok (.iload_n 3, 1) := by decide +kernel
theorem dL_isRefused_95 : decode cL_isRefused 95 = .ok (.ifCond .eq 12, 3) := by decide +kernel
theorem dL_isRefused_98 : decode cL_isRefused 98 = .ok (.iconst 0, 1) := by decide +kernel
theorem dL_isRefused_99 : decode cL_isRefused 99 = .ok (.iload_n 2, 1) := by decide +kernel
theorem dL_isRefused_100 : decode cL_isRefused 100 = .ok (.bipush 30, 2) := by decide +kernel
theorem dL_isRefused_102 : decode cL_isRefused 102 = .ok (.irem, 1) := by decide +kernel
theorem dL_isRefused_103 : decode cL_isRefused 103 = .ok (.isub, 1) := by decide +kernel
theorem dL_isRefused_104 : decode cL_isRefused 104 = .ok (.goto 6, 3) := by decide +kernel
theorem dL_isRefused_107 : decode cL_isRefused 107 = .ok (.sipush 1001, 3) := by decide +kernel
theorem dL_isRefused_110 : decode cL_isRefused 110 = .ok (.invokestatic 158, 3) := by decide +kernel
theorem dL_isRefused_113 : decode cL_isRefused 113 = .ok (.sipush (-1232), 3) := by decide +kernel
theorem dL_isRefused_116 : decode cL_isRefused 116 = .ok (.if_icmp .ne 442, 3) := by decide +kernel
theorem dL_isRefused_119 : decode cL_isRefused 119 = .ok (.aload_n 0, 1) := by decide +kernel
theorem dL_isRefused_120 : decode cL_isRefused 120 = .ok (.iconst 0, 1) := by decide +kernel
theorem dL_isRefused_121 : decode cL_isRefused 121 = .ok (.iload 4, 2) := by decide +kernel
theorem dL_isRefused_123 : decode cL_isRefused 123 = .ok (.iconst 5, 1) := by decide +kernel
theorem dL_isRefused_124 : decode cL_isRefused 124 = .ok (.invokestatic 138, 3) := by decide +kernel
theorem dL_isRefused_127 : decode cL_isRefused 127 = .ok (.sipush (-1232), 3) := by decide +kernel
theorem dL_isRefused_130 : decode cL_isRefused 130 = .ok (.if_icmp .ne 428, 3) := by decide +kernel
theorem dL_isRefused_133 : decode cL_isRefused 133 = .ok (.aload_n 0, 1) := by decide +kernel
theorem dL_isRefused_134 : decode cL_isRefused 134 = .ok (.iconst 0, 1) := by decide +kernel
theorem dL_isRefused_135 : decode cL_isRefused 135 = .ok (.iload 5, 2) := by decide +kernel
theorem dL_isRefused_137 : decode cL_isRefused 137 = .ok (.iload_n 3, 1) := by decide +kernel
theorem dL_isRefused_138 : decode cL_isRefused 138 = .ok (.ifCond .eq 12, 3) := by decide +kernel
theorem dL_isRefused_141 : decode cL_isRefused 141 = .ok (.iconst 0, 1) := by decide +kernel
theorem dL_isRefused_142 : decode cL_isRefused 142 = .ok (.iload_n 2, 1) := by decide +kernel
theorem dL_isRefused_143 : decode cL_isRefused 143 = .ok (.bipush 30, 2) := by decide +kernel
theorem dL_isRefused_145 : decode cL_isRefused 145 = .ok (.irem, 1) := by decide +kernel
theorem dL_isRefused_146 : decode cL_isRefused 146 = .ok (.isub, 1) := by decide +kernel
theorem dL_isRefused_147 : decode cL_isRefused 147 = .ok (.goto 5, 3) := by decide +kernel
theorem dL_isRefused_150 : decode cL_isRefused 150 = .ok (.bipush 51, 2) := by decide +kernel
theorem dL_isRefused_152 : decode cL_isRefused 152 = .ok (.invokestatic 138, 3) := by decide +kernel
theorem dL_isRefused_155 : decode cL_isRefused 155 = .ok (.sipush (-1232), 3) := by decide +kernel
theorem dL_isRefused_158 : decode cL_isRefused 158 = .ok (.if_icmp .ne 400, 3) := by decide +kernel
theorem dL_isRefused_161 : decode cL_isRefused 161 = .ok (.aload_n 0, 1) := by decide +kernel
theorem dL_isRefused_162 : decode cL_isRefused 162 = .ok (.iconst 1, 1) := by decide +kernel
theorem dL_isRefused_163 : decode cL_isRefused 163 = .ok (.iload_n 3, 1) := by decide +kernel
theorem dL_isRefused_164 : decode cL_isRefused 164 = .ok (.ifCond .eq 12, 3) := by decide +kernel
theorem dL_isRefused_167 : decode cL_isRefused 167 = .ok (.iconst (-1), 1) := by decide +kernel
theorem dL_isRefused_168 : decode cL_isRefused 168 = .ok (.iload_n 2, 1) := by decide +kernel
theorem dL_isRefused_169 : decode cL_isRefused 169 = .ok (.bipush 30, 2) := by decide +kernel
theorem dL_isRefused_171 : decode cL_isRefused 171 = .ok (.irem, 1) := by decide +kernel
theorem dL_isRefused_172 : decode cL_isRefused 172 = .ok (.isub, 1) := by decide +kernel
theorem dL_isRefused_173 : decode cL_isRefused 173 = .ok (.goto 6, 3) := by decide +kernel
theorem dL_isRefused_176 : decode cL_isRefused 176 = .ok (.sipush 1001, 3) := by decide +kernel
theorem dL_isRefused_179 : decode cL_isRefused 179 = .ok (.iconst 0, 1) := by decide +kernel
theorem dL_isRefused_180 : decode cL_isRefused 180 = .ok (.invokestatic 138, 3) := by decide +kernel
theorem dL_isRefused_183 : decode cL_isRefused 183 = .ok (.sipush (-1232), 3) := by decide +kernel
theorem dL_isRefused_186 : decode cL_isRefused 186 = .ok (.if_icmp .ne 372, 3) := by decide +kernel
theorem dL_isRefused_189 : decode cL_isRefused 189 = .ok (.aload_n 0, 1) := by decide +kernel
theorem dL_isRefused_190 : decode cL_isRefused 190 = .ok (.iconst 2, 1) := by decide +kernel
theorem dL_isRefused_191 : decode cL_isRefused 191 = .ok (.iload 4, 2) := by decide +kernel
theorem dL_isRefused_193 : decode cL_isRefused 193 = .ok (.iconst 5, 1) := by decide +kernel
theorem dL_isRefused_194 : decode cL_isRefused 194 = .ok (.invokestatic 138, 3) := by decide +kernel
theorem dL_isRefused_197 : decode cL_isRefused 197 = .ok (.sipush (-1232), 3) := by decide +kernel
theorem dL_isRefused_200 : decode cL_isRefused 200 = .ok (.if_icmp .ne 358, 3) := by decide +kernel
theorem dL_isRefused_203 : decode cL_isRefused 203 = .ok (.aload_n 0, 1) := by decide +kernel
theorem dL_isRefused_204 : decode cL_isRefused 204 = .ok (.iconst 2, 1) := by decide +kernel
theorem dL_isRefused_205 : decode cL_isRefused 205 = .ok (.iload 5, 2) := by decide +kernel
theorem dL_isRefused_207 : decode cL_isRefused 207 = .ok (.iload_n 3, 1) := by decide +kernel
theorem dL_isRefused_208 : decode cL_isRefused 208 = .ok (.ifCond .eq 12, 3) := by decide +kernel
theorem dL_isRefused_211 : decode cL_isRefused 211 = .ok (.iconst 0, 1) := by decide +kernel
theorem dL_isRefused_212 : decode cL_isRefused 212 = .ok (.iload_n 2, 1) := by decide +kernel
theorem dL_isRefused_213 : decode cL_isRefused 213 = .ok (.bipush 30, 2) := by decide +kernel
theorem dL_isRefused_215 : decode cL_isRefused 215 = .ok (.irem, 1) := by decide +kernel
theorem dL_isRefused_216 : decode cL_isRefused 216 = .ok (.isub, 1) := by decide +kernel
theorem dL_isRefused_217 : decode cL_isRefused 217 = .ok (.goto 6, 3) := by decide +kernel
theorem dL_isRefused_220 : decode cL_isRefused 220 = .ok (.sipush 10001, 3) := by decide +kernel
theorem dL_isRefused_223 : decode cL_isRefused 223 = .ok (.invokestatic 138, 3) := by decide +kernel
theorem dL_isRefused_226 : decode cL_isRefused 226 = .ok (.sipush (-1232), 3) := by decide +kernel
theorem dL_isRefused_229 : decode cL_isRefused 229 = .ok (.if_icmp .ne 329, 3) := by decide +kernel
theorem dL_isRefused_232 : decode cL_isRefused 232 = .ok (.aload_n 0, 1) := by decide +kernel
theorem dL_isRefused_233 : decode cL_isRefused 233 = .ok (.iconst 3, 1) := by decide +kernel
theorem dL_isRefused_234 : decode cL_isRefused 234 = .ok (.iload 4, 2) := by decide +kernel
theorem dL_isRefused_236 : decode cL_isRefused 236 = .ok (.iconst (-1), 1) := by decide +kernel
theorem dL_isRefused_237 : decode cL_isRefused 237 = .ok (.invokestatic 138, 3) := by decide +kernel
theorem dL_isRefused_240 : decode cL_isRefused 240 = .ok (.sipush (-1232), 3) := by decide +kernel
theorem dL_isRefused_243 : decode cL_isRefused 243 = .ok (.if_icmp .ne 315, 3) := by decide +kernel
theorem dL_isRefused_246 : decode cL_isRefused 246 = .ok (.aload_n 0, 1) := by decide +kernel
theorem dL_isRefused_247 : decode cL_isRefused 247 = .ok (.iconst 3, 1) := by decide +kernel
theorem dL_isRefused_248 : decode cL_isRefused 248 = .ok (.iload 5, 2) := by decide +kernel
theorem dL_isRefused_250 : decode cL_isRefused 250 = .ok (.iload_n 3, 1) := by decide +kernel
theorem dL_isRefused_251 : decode cL_isRefused 251 = .ok (.ifCond .eq 13, 3) := by decide +kernel
theorem dL_isRefused_254 : decode cL_isRefused 254 = .ok (.bipush (-2), 2) := by decide +kernel
theorem dL_isRefused_256 : decode cL_isRefused 256 = .ok (.iload_n 2, 1) := by decide +kernel
theorem dL_isRefused_257 : decode cL_isRefused 257 = .ok (.bipush 30, 2) := by decide +kernel
theorem dL_isRefused_259 : decode cL_isRefused 259 = .ok (.irem, 1) := by decide +kernel
theorem dL_isRefused_260 : decode cL_isRefused 260 = .ok (.isub, 1) := by decide +kernel
theorem dL_isRefused_261 : decode cL_isRefused 261 = .ok (.goto 5, 3) := by decide +kernel
theorem dL_isRefused_264 : decode cL_isRefused 264 = .ok (.bipush 11, 2) := by decide +kernel
theorem dL_isRefused_266 : decode cL_isRefused 266 = .ok (.invokestatic 138, 3) := by decide +kernel
theorem dL_isRefused_269 : decode cL_isRefused 269 = .ok (.sipush (-1232), 3) := by decide +kernel
theorem dL_isRefused_272 : decode cL_isRefused 272 = .ok (.if_icmp .ne 286, 3) := by decide +kernel
theorem dL_isRefused_275 : decode cL_isRefused 275 = .ok (.aload_n 0, 1) := by decide +kernel
theorem dL_isRefused_276 : decode cL_isRefused 276 = .ok (.iconst 4, 1) := by decide +kernel
theorem dL_isRefused_277 : decode cL_isRefused 277 = .ok (.iload 4, 2) := by decide +kernel
theorem dL_isRefused_279 : decode cL_isRefused 279 = .ok (.iconst 0, 1) := by decide +kernel
theorem dL_isRefused_280 : decode cL_isRefused 280 = .ok (.invokestatic 138, 3) := by decide +kernel
theorem dL_isRefused_283 : decode cL_isRefused 283 = .ok (.sipush (-1232), 3) := by decide +kernel
theorem dL_isRefused_286 : decode cL_isRefused 286 = .ok (.if_icmp .ne 272, 3) := by decide +kernel
theorem dL_isRefused_289 : decode cL_isRefused 289 = .ok (.aload_n 0, 1) := by decide +kernel
theorem dL_isRefused_290 : decode cL_isRefused 290 = .ok (.iconst 4, 1) := by decide +kernel
theorem dL_isRefused_291 : decode cL_isRefused 291 = .ok (.iload 5, 2) := by decide +kernel
theorem dL_isRefused_293 : decode cL_isRefused 293 = .ok (.iload_n 3, 1) := by decide +kernel
theorem dL_isRefused_294 : decode cL_isRefused 294 = .ok (.ifCond .eq 12, 3) := by decide +kernel
theorem dL_isRefused_297 : decode cL_isRefused 297 = .ok (.iconst (-1), 1) := by decide +kernel
theorem dL_isRefused_298 : decode cL_isRefused 298 = .ok (.iload_n 2, 1) := by decide +kernel
theorem dL_isRefused_299 : decode cL_isRefused 299 = .ok (.bipush 30, 2) := by decide +kernel
theorem dL_isRefused_301 : decode cL_isRefused 301 = .ok (.irem, 1) := by decide +kernel
theorem dL_isRefused_302 : decode cL_isRefused 302 = .ok (.isub, 1) := by decide +kernel
theorem dL_isRefused_303 : decode cL_isRefused 303 = .ok (.goto 4, 3) := by decide +kernel
theorem dL_isRefused_306 : decode cL_isRefused 306 = .ok (.iconst 4, 1) := by decide +kernel
theorem dL_isRefused_307 : decode cL_isRefused 307 = .ok (.invokestatic 138, 3) := by decide +kernel
theorem dL_isRefused_310 : decode cL_isRefused 310 = .ok (.sipush (-1232), 3) := by decide +kernel
theorem dL_isRefused_313 : decode cL_isRefused 313 = .ok (.if_icmp .ne 245, 3) := by decide +kernel
theorem dL_isRefused_316 : decode cL_isRefused 316 = .ok (.aload_n 0, 1) := by decide +kernel
theorem dL_isRefused_317 : decode cL_isRefused 317 = .ok (.iconst 5, 1) := by decide +kernel
theorem dL_isRefused_318 : decode cL_isRefused 318 = .ok (.iload 4, 2) := by decide +kernel
theorem dL_isRefused_320 : decode cL_isRefused 320 = .ok (.iconst 1, 1) := by decide +kernel
theorem dL_isRefused_321 : decode cL_isRefused 321 = .ok (.invokestatic 138, 3) := by decide +kernel
theorem dL_isRefused_324 : decode cL_isRefused 324 = .ok (.sipush (-1232), 3) := by decide +kernel
theorem dL_isRefused_327 : decode cL_isRefused 327 = .ok (.if_icmp .ne 231, 3) := by decide +kernel
theorem dL_isRefused_330 : decode cL_isRefused 330 = .ok (.aload_n 0, 1) := by decide +kernel
theorem dL_isRefused_331 : decode cL_isRefused 331 = .ok (.bipush 6, 2) := by decide +kernel
theorem dL_isRefused_333 : decode cL_isRefused 333 = .ok (.iload_n 3, 1) := by decide +kernel
theorem dL_isRefused_334 : decode cL_isRefused 334 = .ok (.ifCond .eq 12, 3) := by decide +kernel
theorem dL_isRefused_337 : decode cL_isRefused 337 = .ok (.iconst 0, 1) := by decide +kernel
theorem dL_isRefused_338 : decode cL_isRefused 338 = .ok (.iload_n 2, 1) := by decide +kernel
theorem dL_isRefused_339 : decode cL_isRefused 339 = .ok (.bipush 30, 2) := by decide +kernel
theorem dL_isRefused_341 : decode cL_isRefused 341 = .ok (.irem, 1) := by decide +kernel
theorem dL_isRefused_342 : decode cL_isRefused 342 = .ok (.isub, 1) := by decide +kernel
theorem dL_isRefused_343 : decode cL_isRefused 343 = .ok (.goto 5, 3) := by decide +kernel
theorem dL_isRefused_346 : decode cL_isRefused 346 = .ok (.bipush 101, 2) := by decide +kernel
theorem dL_isRefused_348 : decode cL_isRefused 348 = .ok (.iconst 0, 1) := by decide +kernel
theorem dL_isRefused_349 : decode cL_isRefused 349 = .ok (.invokestatic 138, 3) := by decide +kernel
theorem dL_isRefused_352 : decode cL_isRefused 352 = .ok (.sipush (-1232), 3) := by decide +kernel
theorem dL_isRefused_355 : decode cL_isRefused 355 = .ok (.if_icmp .ne 203, 3) := by decide +kernel
theorem dL_isRefused_358 : decode cL_isRefused 358 = .ok (.aload_n 0, 1) := by decide +kernel
theorem dL_isRefused_359 : decode cL_isRefused 359 = .ok (.iload 4, 2) := by decide +kernel
theorem dL_isRefused_361 : decode cL_isRefused 361 = .ok (.iconst 1, 1) := by decide +kernel
theorem dL_isRefused_362 : decode cL_isRefused 362 = .ok (.iconst 2, 1) := by decide +kernel
theorem dL_isRefused_363 : decode cL_isRefused 363 = .ok (.iconst 3, 1) := by decide +kernel
theorem dL_isRefused_364 : decode cL_isRefused 364 = .ok (.iconst 4, 1) := by decide +kernel
theorem dL_isRefused_365 : decode cL_isRefused 365 = .ok (.invokestatic 161, 3) := by decide +kernel
theorem dL_isRefused_368 : decode cL_isRefused 368 = .ok (.sipush (-1232), 3) := by decide +kernel
theorem dL_isRefused_371 : decode cL_isRefused 371 = .ok (.if_icmp .ne 187, 3) := by decide +kernel
theorem dL_isRefused_374 : decode cL_isRefused 374 = .ok (.aload_n 0, 1) := by decide +kernel
theorem dL_isRefused_375 : decode cL_isRefused 375 = .ok (.iload 5, 2) := by decide +kernel
theorem dL_isRefused_377 : decode cL_isRefused 377 = .ok (.iconst (-1), 1) := by decide +kernel
theorem dL_isRefused_378 : decode cL_isRefused 378 = .ok (.iload_n 2, 1) := by decide +kernel
theorem dL_isRefused_379 : decode cL_isRefused 379 = .ok (.bipush 30, 2) := by decide +kernel
theorem dL_isRefused_381 : decode cL_isRefused 381 = .ok (.irem, 1) := by decide +kernel
theorem dL_isRefused_382 : decode cL_isRefused 382 = .ok (.isub, 1) := by decide +kernel
theorem dL_isRefused_383 : decode cL_isRefused 383 = .ok (.iconst 2, 1) := by decide +kernel
theorem dL_isRefused_384 : decode cL_isRefused 384 = .ok (.iconst 3, 1) := by decide +kernel
theorem dL_isRefused_385 : decode cL_isRefused 385 = .ok (.iconst 4, 1) := by decide +kernel
theorem dL_isRefused_386 : decode cL_isRefused 386 = .ok (.invokestatic 161, 3) := by decide +kernel
theorem dL_isRefused_389 : decode cL_isRefused 389 = .ok (.sipush (-1232), 3) := by decide +kernel
theorem dL_isRefused_392 : decode cL_isRefused 392 = .ok (.if_icmp .ne 166, 3) := by decide +kernel
theorem dL_isRefused_395 : decode cL_isRefused 395 = .ok (.aload_n 0, 1) := by decide +kernel
theorem dL_isRefused_396 : decode cL_isRefused 396 = .ok (.iload 5, 2) := by decide +kernel
theorem dL_isRefused_398 : decode cL_isRefused 398 = .ok (.iconst 5, 1) := by decide +kernel
theorem dL_isRefused_399 : decode cL_isRefused 399 = .ok (.iload_n 3, 1) := by decide +kernel
theorem dL_isRefused_400 : decode cL_isRefused 400 = .ok (.ifCond .eq 7, 3) := by decide +kernel
theorem dL_isRefused_403 : decode cL_isRefused 403 = .ok (.iconst 4, 1) := by decide +kernel
theorem dL_isRefused_404 : decode cL_isRefused 404 = .ok (.goto 6, 3) := by decide +kernel
theorem dL_isRefused_407 : decode cL_isRefused 407 = .ok (.sipush 1001, 3) := by decide +kernel
theorem dL_isRefused_410 : decode cL_isRefused 410 = .ok (.iconst 3, 1) := by decide +kernel
theorem dL_isRefused_411 : decode cL_isRefused 411 = .ok (.iconst 4, 1) := by decide +kernel
theorem dL_isRefused_412 : decode cL_isRefused 412 = .ok (.invokestatic 161, 3) := by decide +kernel
theorem dL_isRefused_415 : decode cL_isRefused 415 = .ok (.sipush (-1232), 3) := by decide +kernel
theorem dL_isRefused_418 : decode cL_isRefused 418 = .ok (.if_icmp .ne 140, 3) := by decide +kernel
theorem dL_isRefused_421 : decode cL_isRefused 421 = .ok (.aload_n 0, 1) := by decide +kernel
theorem dL_isRefused_422 : decode cL_isRefused 422 = .ok (.iload 5, 2) := by decide +kernel
theorem dL_isRefused_424 : decode cL_isRefused 424 = .ok (.iconst 1, 1) := by decide +kernel
theorem dL_isRefused_425 : decode cL_isRefused 425 = .ok (.iconst 2, 1) := by decide +kernel
theorem dL_isRefused_426 : decode cL_isRefused 426 = .ok (.iload_n 3, 1) := by decide +kernel
theorem dL_isRefused_427 : decode cL_isRefused 427 = .ok (.ifCond .eq 12, 3) := by decide +kernel
theorem dL_isRefused_430 : decode cL_isRefused 430 = .ok (.iconst (-1), 1) := by decide +kernel
theorem dL_isRefused_431 : decode cL_isRefused 431 = .ok (.iload_n 2, 1) := by decide +kernel
theorem dL_isRefused_432 : decode cL_isRefused 432 = .ok (.bipush 30, 2) := by decide +kernel
theorem dL_isRefused_434 : decode cL_isRefused 434 = .ok (.irem, 1) := by decide +kernel
theorem dL_isRefused_435 : decode cL_isRefused 435 = .ok (.isub, 1) := by decide +kernel
theorem dL_isRefused_436 : decode cL_isRefused 436 = .ok (.goto 6, 3) := by decide +kernel
theorem dL_isRefused_439 : decode cL_isRefused 439 = .ok (.sipush 1001, 3) := by decide +kernel
theorem dL_isRefused_442 : decode cL_isRefused 442 = .ok (.iconst 4, 1) := by decide +kernel
theorem dL_isRefused_443 : decode cL_isRefused 443 = .ok (.invokestatic 161, 3) := by decide +kernel
theorem dL_isRefused_446 : decode cL_isRefused 446 = .ok (.sipush (-1232), 3) := by decide +kernel
theorem dL_isRefused_449 : decode cL_isRefused 449 = .ok (.if_icmp .ne 109, 3) := by decide +kernel
theorem dL_isRefused_452 : decode cL_isRefused 452 = .ok (.aload_n 0, 1) := by decide +kernel
theorem dL_isRefused_453 : decode cL_isRefused 453 = .ok (.iload 5, 2) := by decide +kernel
theorem dL_isRefused_455 : decode cL_isRefused 455 = .ok (.iconst 1, 1) := by decide +kernel
theorem dL_isRefused_456 : decode cL_isRefused 456 = .ok (.iconst 2, 1) := by decide +kernel
theorem dL_isRefused_457 : decode cL_isRefused 457 = .ok (.iconst 3, 1) := by decide +kernel
theorem dL_isRefused_458 : decode cL_isRefused 458 = .ok (.iload_n 3, 1) := by decide +kernel
theorem dL_isRefused_459 : decode cL_isRefused 459 = .ok (.ifCond .eq 12, 3) := by decide +kernel
theorem dL_isRefused_462 : decode cL_isRefused 462 = .ok (.iconst (-1), 1) := by decide +kernel
