theorem dL_act_275 : decode cL_act 275 = .ok (.invokevirtual 88, 3) := by decide +kernel
theorem dL_act_278 : decode cL_act 278 = .ok (.iload 6, 2) := by decide +kernel
theorem dL_act_280 : decode cL_act 280 = .ok (.if_icmp .ne 41, 3) := by decide +kernel
theorem dL_act_283 : decode cL_act 283 = .ok (.aload_n 0, 1) := by decide +kernel
theorem dL_act_284 : decode cL_act 284 = .ok (.iload 6, 2) := by decide +kernel
theorem dL_act_286 : decode cL_act 286 = .ok (.iconst 1, 1) := by decide +kernel
theorem dL_act_287 : decode cL_act 287 = .ok (.invokevirtual 67, 3) := by decide +kernel
theorem dL_act_290 : decode cL_act 290 = .ok (.iload 7, 2) := by decide +kernel
theorem dL_act_292 : decode cL_act 292 = .ok (.if_icmp .ne 29, 3) := by decide +kernel
theorem dL_act_295 : decode cL_act 295 = .ok (.aload_n 0, 1) := by decide +kernel
theorem dL_act_296 : decode cL_act 296 = .ok (.iload 6, 2) := by decide +kernel
theorem dL_act_298 : decode cL_act 298 = .ok (.iconst 0, 1) := by decide +kernel
theorem dL_act_299 : decode cL_act 299 = .ok (.invokevirtual 67, 3) := by decide +kernel
theorem dL_act_302 : decode cL_act 302 = .ok (.iload_n 2, 1) := by decide +kernel
theorem dL_act_303 : decode cL_act 303 = .ok (.if_icmp .ne 18, 3) := by decide +kernel
theorem dL_act_306 : decode cL_act 306 = .ok (.aload_n 0, 1) := by decide +kernel
theorem dL_act_307 : decode cL_act 307 = .ok (.iload 7, 2) := by decide +kernel
theorem dL_act_309 : decode cL_act 309 = .ok (.iconst 0, 1) := by decide +kernel
theorem dL_act_310 : decode cL_act 310 = .ok (.invokevirtual 82, 3) := by decide +kernel
theorem dL_act_313 : decode cL_act 313 = .ok (.iconst (-1), 1) := by decide +kernel
theorem dL_act_314 : decode cL_act 314 = .ok (.if_icmp .ne 7, 3) := by decide +kernel
theorem dL_act_317 : decode cL_act 317 = .ok (.iconst 1, 1) := by decide +kernel
theorem dL_act_318 : decode cL_act 318 = .ok (.goto 4, 3) := by decide +kernel
theorem dL_act_321 : decode cL_act 321 = .ok (.iconst 0, 1) := by decide +kernel
theorem dL_act_322 : decode cL_act 322 = .ok (.ireturn, 1) := by decide +kernel
theorem dL_act_323 : decode cL_act 323 = .ok (.iload_n 1, 1) := by decide +kernel
theorem dL_act_324 : decode cL_act 324 = .ok (.bipush 6, 2) := by decide +kernel
theorem dL_act_326 : decode cL_act 326 = .ok (.ishr, 1) := by decide +kernel
theorem dL_act_327 : decode cL_act 327 = .ok (.iconst 2, 1) := by decide +kernel
theorem dL_act_328 : decode cL_act 328 = .ok (.invokestatic 18, 3) := by decide +kernel
theorem dL_act_331 : decode cL_act 331 = .ok (.ifCond .ne 7, 3) := by decide +kernel
theorem dL_act_334 : decode cL_act 334 = .ok (.iconst 1, 1) := by decide +kernel
theorem dL_act_335 : decode cL_act 335 = .ok (.goto 4, 3) := by decide +kernel
theorem dL_act_338 : decode cL_act 338 = .ok (.iconst 0, 1) := by decide +kernel
theorem dL_act_339 : decode cL_act 339 = .ok (.istore 8, 2) := by decide +kernel
theorem dL_act_341 : decode cL_act 341 = .ok (.aload_n 0, 1) := by decide +kernel
theorem dL_act_342 : decode cL_act 342 = .ok (.iload_n 2, 1) := by decide +kernel
theorem dL_act_343 : decode cL_act 343 = .ok (.iload 8, 2) := by decide +kernel
theorem dL_act_345 : decode cL_act 345 = .ok (.invokevirtual 92, 3) := by decide +kernel
theorem dL_act_348 : decode cL_act 348 = .ok (.pop, 1) := by decide +kernel
theorem dL_act_349 : decode cL_act 349 = .ok (.aload_n 0, 1) := by decide +kernel
theorem dL_act_350 : decode cL_act 350 = .ok (.iload_n 2, 1) := by decide +kernel
theorem dL_act_351 : decode cL_act 351 = .ok (.iload 8, 2) := by decide +kernel
theorem dL_act_353 : decode cL_act 353 = .ok (.invokevirtual 92, 3) := by decide +kernel
theorem dL_act_356 : decode cL_act 356 = .ok (.iload 8, 2) := by decide +kernel
theorem dL_act_358 : decode cL_act 358 = .ok (.if_icmp .ne 7, 3) := by decide +kernel
theorem dL_act_361 : decode cL_act 361 = .ok (.iconst 1, 1) := by decide +kernel
theorem dL_act_362 : decode cL_act 362 = .ok (.goto 4, 3) := by decide +kernel
theorem dL_act_365 : decode cL_act 365 = .ok (.iconst 0, 1) := by decide +kernel
theorem dL_act_366 : decode cL_act 366 = .ok (.ireturn, 1) := by decide +kernel
theorem dL_act_367 : decode cL_act 367 = .ok (.aload_n 0, 1) := by decide +kernel
theorem dL_act_368 : decode cL_act 368 = .ok (.iload_n 1, 1) := by decide +kernel
theorem dL_act_369 : decode cL_act 369 = .ok (.iconst 4, 1) := by decide +kernel
theorem dL_act_370 : decode cL_act 370 = .ok (.ishr, 1) := by decide +kernel
theorem dL_act_371 : decode cL_act 371 = .ok (.iconst 3, 1) := by decide +kernel
theorem dL_act_372 : decode cL_act 372 = .ok (.invokestatic 18, 3) := by decide +kernel
theorem dL_act_375 : decode cL_act 375 = .ok (.iload_n 1, 1) := by decide +kernel
theorem dL_act_376 : decode cL_act 376 = .ok (.iconst 5, 1) := by decide +kernel
theorem dL_act_377 : decode cL_act 377 = .ok (.ishr, 1) := by decide +kernel
theorem dL_act_378 : decode cL_act 378 = .ok (.bipush 6, 2) := by decide +kernel
theorem dL_act_380 : decode cL_act 380 = .ok (.invokestatic 18, 3) := by decide +kernel
theorem dL_act_383 : decode cL_act 383 = .ok (.iconst 1, 1) := by decide +kernel
theorem dL_act_384 : decode cL_act 384 = .ok (.iload_n 1, 1) := by decide +kernel
theorem dL_act_385 : decode cL_act 385 = .ok (.bipush 6, 2) := by decide +kernel
theorem dL_act_387 : decode cL_act 387 = .ok (.ishr, 1) := by decide +kernel
theorem dL_act_388 : decode cL_act 388 = .ok (.bipush 20, 2) := by decide +kernel
theorem dL_act_390 : decode cL_act 390 = .ok (.invokestatic 18, 3) := by decide +kernel
theorem dL_act_393 : decode cL_act 393 = .ok (.iadd, 1) := by decide +kernel
theorem dL_act_394 : decode cL_act 394 = .ok (.iconst 1, 1) := by decide +kernel
theorem dL_act_395 : decode cL_act 395 = .ok (.invokevirtual 30, 3) := by decide +kernel
theorem dL_act_398 : decode cL_act 398 = .ok (.aload_n 0, 1) := by decide +kernel
theorem dL_act_399 : decode cL_act 399 = .ok (.iconst 1, 1) := by decide +kernel
theorem dL_act_400 : decode cL_act 400 = .ok (.invokevirtual 64, 3) := by decide +kernel
theorem dL_act_403 : decode cL_act 403 = .ok (.iconst 1, 1) := by decide +kernel
theorem dL_act_404 : decode cL_act 404 = .ok (.isub, 1) := by decide +kernel
theorem dL_act_405 : decode cL_act 405 = .ok (.if_icmp .ne 7, 3) := by decide +kernel
theorem dL_act_408 : decode cL_act 408 = .ok (.iconst 1, 1) := by decide +kernel
theorem dL_act_409 : decode cL_act 409 = .ok (.goto 4, 3) := by decide +kernel
theorem dL_act_412 : decode cL_act 412 = .ok (.iconst 0, 1) := by decide +kernel
theorem dL_act_413 : decode cL_act 413 = .ok (.ireturn, 1) := by decide +kernel
theorem dL_act_414 : decode cL_act 414 = .ok (.aload_n 0, 1) := by decide +kernel
theorem dL_act_415 : decode cL_act 415 = .ok (.iconst 4, 1) := by decide +kernel
theorem dL_act_416 : decode cL_act 416 = .ok (.invokevirtual 64, 3) := by decide +kernel
theorem dL_act_419 : decode cL_act 419 = .ok (.istore 9, 2) := by decide +kernel
theorem dL_act_421 : decode cL_act 421 = .ok (.aload_n 0, 1) := by decide +kernel
theorem dL_act_422 : decode cL_act 422 = .ok (.invokevirtual 38, 3) := by decide +kernel
theorem dL_act_425 : decode cL_act 425 = .ok (.istore 10, 2) := by decide +kernel
theorem dL_act_427 : decode cL_act 427 = .ok (.iload 10, 2) := by decide +kernel
theorem dL_act_429 : decode cL_act 429 = .ok (.ifCond .le 33, 3) := by decide +kernel
theorem dL_act_432 : decode cL_act 432 = .ok (.aload_n 0, 1) := by decide +kernel
theorem dL_act_433 : decode cL_act 433 = .ok (.iconst 4, 1) := by decide +kernel
theorem dL_act_434 : decode cL_act 434 = .ok (.invokevirtual 64, 3) := by decide +kernel
theorem dL_act_437 : decode cL_act 437 = .ok (.iload 9, 2) := by decide +kernel
theorem dL_act_439 : decode cL_act 439 = .ok (.if_icmp .ne 19, 3) := by decide +kernel
theorem dL_act_442 : decode cL_act 442 = .ok (.aload_n 0, 1) := by decide +kernel
theorem dL_act_443 : decode cL_act 443 = .ok (.iload 10, 2) := by decide +kernel
theorem dL_act_445 : decode cL_act 445 = .ok (.iconst 1, 1) := by decide +kernel
theorem dL_act_446 : decode cL_act 446 = .ok (.isub, 1) := by decide +kernel
theorem dL_act_447 : decode cL_act 447 = .ok (.iconst 0, 1) := by decide +kernel
theorem dL_act_448 : decode cL_act 448 = .ok (.invokevirtual 96, 3) := by decide +kernel
theorem dL_act_451 : decode cL_act 451 = .ok (.ifCond .le 7, 3) := by decide +kernel
theorem dL_act_454 : decode cL_act 454 = .ok (.iconst 1, 1) := by decide +kernel
theorem dL_act_455 : decode cL_act 455 = .ok (.goto 48, 3) := by decide +kernel
theorem dL_act_458 : decode cL_act 458 = .ok (.iconst 0, 1) := by decide +kernel
theorem dL_act_459 : decode cL_act 459 = .ok (.goto 44, 3) := by decide +kernel
theorem dL_act_462 : decode cL_act 462 = .ok (.aload_n 0, 1) := by decide +kernel
theorem dL_act_463 : decode cL_act 463 = .ok (.bipush 9, 2) := by decide +kernel
theorem dL_act_465 : decode cL_act 465 = .ok (.invokevirtual 64, 3) := by decide +kernel
theorem dL_act_468 : decode cL_act 468 = .ok (.iconst 1, 1) := by decide +kernel
theorem dL_act_469 : decode cL_act 469 = .ok (.if_icmp .ne 33, 3) := by decide +kernel
theorem dL_act_472 : decode cL_act 472 = .ok (.aload_n 0, 1) := by decide +kernel
theorem dL_act_473 : decode cL_act 473 = .ok (.bipush 7, 2) := by decide +kernel
theorem dL_act_475 : decode cL_act 475 = .ok (.invokevirtual 64, 3) := by decide +kernel
theorem dL_act_478 : decode cL_act 478 = .ok (.ifCond .ne 24, 3) := by decide +kernel
theorem dL_act_481 : decode cL_act 481 = .ok (.aload_n 0, 1) := by decide +kernel
theorem dL_act_482 : decode cL_act 482 = .ok (.iconst 5, 1) := by decide +kernel
theorem dL_act_483 : decode cL_act 483 = .ok (.invokevirtual 64, 3) := by decide +kernel
theorem dL_act_486 : decode cL_act 486 = .ok (.ifCond .ne 16, 3) := by decide +kernel
theorem dL_act_489 : decode cL_act 489 = .ok (.aload_n 0, 1) := by decide +kernel
theorem dL_act_490 : decode cL_act 490 = .ok (.bipush 6, 2) := by decide +kernel
theorem dL_act_492 : decode cL_act 492 = .ok (.invokevirtual 64, 3) := by decide +kernel
theorem dL_act_495 : decode cL_act 495 = .ok (.ifCond .ne 7, 3) := by decide +kernel
theorem dL_act_498 : decode cL_act 498 = .ok (.iconst 1, 1) := by decide +kernel
theorem dL_act_499 : decode cL_act 499 = .ok (.goto 4, 3) := by decide +kernel
theorem dL_act_502 : decode cL_act 502 = .ok (.iconst 0, 1) := by decide +kernel
theorem dL_act_503 : decode cL_act 503 = .ok (.ireturn, 1) := by decide +kernel
theorem dL_act_504 : decode cL_act 504 = .ok (.astore 5, 2) := by decide +kernel
theorem dL_act_506 : decode cL_act 506 = .ok (.aload_n 0, 1) := by decide +kernel
theorem dL_act_507 : decode cL_act 507 = .ok (.bipush 6, 2) := by decide +kernel
theorem dL_act_509 : decode cL_act 509 = .ok (.invokevirtual 64, 3) := by decide +kernel
theorem dL_act_512 : decode cL_act 512 = .ok (.iload 4, 2) := by decide +kernel
theorem dL_act_514 : decode cL_act 514 = .ok (.if_icmp .ne 7, 3) := by decide +kernel
theorem dL_act_517 : decode cL_act 517 = .ok (.iconst 1, 1) := by decide +kernel
theorem dL_act_518 : decode cL_act 518 = .ok (.goto 4, 3) := by decide +kernel
theorem dL_act_521 : decode cL_act 521 = .ok (.iconst 0, 1) := by decide +kernel
theorem dL_act_522 : decode cL_act 522 = .ok (.ireturn, 1) := by decide +kernel
theorem dL_act_523 : decode cL_act 523 = .ok (.astore 5, 2) := by decide +kernel
theorem dL_act_525 : decode cL_act 525 = .ok (.aload_n 0, 1) := by decide +kernel
theorem dL_act_526 : decode cL_act 526 = .ok (.bipush 6, 2) := by decide +kernel
theorem dL_act_528 : decode cL_act 528 = .ok (.invokevirtual 64, 3) := by decide +kernel
theorem dL_act_531 : decode cL_act 531 = .ok (.iload 4, 2) := by decide +kernel
theorem dL_act_533 : decode cL_act 533 = .ok (.if_icmp .ne 7, 3) := by decide +kernel
theorem dL_act_536 : decode cL_act 536 = .ok (.iconst 1, 1) := by decide +kernel
theorem dL_act_537 : decode cL_act 537 = .ok (.goto 4, 3) := by decide +kernel
theorem dL_act_540 : decode cL_act 540 = .ok (.iconst 0, 1) := by decide +kernel
theorem dL_act_541 : decode cL_act 541 = .ok (.ireturn, 1) := by decide +kernel
set_option maxRecDepth 20000 in
theorem ggL_areSymbolsRight_X7_many : GoodIn wsL_areSymbolsRight wsX7_many := goodIn_ca (goodIn_r _ [5, 6, 7, 8, 9, 4, 10, 11, 12, 13, 14, 15, 16, 17, 18, 19, 20, 21, 22, 23, 24, 25, 26, 27, 28, 29, 30, 31, 32, 33, 34, 35, 36, 37, 38, 39, 40, 41, 42, 43, 44, 45, 46, 47, 48, 49, 50, 51, 52, 53, 117, 118, 119, 120, 121, 122, 123, 124, 125, 126, 127, 128, 129, 130, 131, 132, 133, 134, 135, 136, 137, 138, 139, 140, 141, 142, 143, 144, 145, 146, 147, 148, 149, 150, 151, 152] (by decide +kernel) (by decide +kernel)) (goodIn_sub (fun _ h => List.mem_cons_of_mem _ (List.mem_append_left _ (List.mem_append_right _ h))) (by decide +kernel))
set_option maxRecDepth 20000 in
theorem gL_areSymbolsRight_X7_many : GoodIn wsL_areSymbolsRight (wsV RL 64 RX7 yX7_many wsX7_many) := goodIn_app (goodIn_of _ (by decide +kernel)) ggL_areSymbolsRight_X7_many
set_option maxRecDepth 20000 in
theorem ggL_areSymbolsRight_X7_ofPiece : GoodIn wsL_areSymbolsRight wsX7_ofPiece := goodIn_ca (goodIn_ca (goodIn_r _ [57, 58, 59, 6, 7, 15, 17, 8, 9, 4, 10, 60, 61, 62, 63, 64, 65, 66, 67, 68, 18, 19, 69, 22, 70, 51, 52, 29, 53, 31, 71, 72, 73, 35, 74, 75, 76, 77, 78, 37, 79, 80, 117, 118, 119, 120, 121, 122, 123, 124, 125, 126, 127, 128, 129, 130, 131, 132, 133, 134, 135, 136, 137, 138, 139, 140, 141, 142, 143, 144, 145, 150, 151, 152] (by decide +kernel) (by decide +kernel)) (goodIn_sub (fun _ h => List.mem_cons_of_mem _ (List.mem_append_right _ h)) (by decide +kernel))) (goodIn_sub (fun _ h => List.mem_cons_of_mem _ (List.mem_append_left _ (List.mem_append_right _ h))) (by decide +kernel))
set_option maxRecDepth 20000 in
theorem gL_areSymbolsRight_X7_ofPiece : GoodIn wsL_areSymbolsRight (wsV RL 82 RX7 yX7_ofPiece wsX7_ofPiece) := goodIn_app (goodIn_of _ (by decide +kernel)) ggL_areSymbolsRight_X7_ofPiece
set_option maxRecDepth 20000 in
theorem ggL_areSymbolsRight_X7_ofSymbol : GoodIn wsL_areSymbolsRight wsX7_ofSymbol := goodIn_ca (goodIn_ca (goodIn_r _ [84, 58, 59, 6, 7, 85, 86, 4, 87, 8, 9, 10, 88, 89, 90, 91, 18, 19, 92, 93, 23, 15, 70, 51, 52, 29, 53, 31, 94, 95, 96, 97, 98, 99, 100, 101, 102, 103, 104, 42, 105, 44, 106, 107, 45, 46, 47, 48, 49, 50, 117, 118, 119, 120, 121, 122, 123, 124, 135, 136, 137, 138, 139, 140, 141, 142, 143, 144, 145, 150, 146, 147, 148, 149, 125, 126, 127, 128, 129, 130, 131, 132, 133, 134] (by decide +kernel) (by decide +kernel)) (goodIn_sub (fun _ h => List.mem_cons_of_mem _ (List.mem_append_right _ h)) (by decide +kernel))) (goodIn_sub (fun _ h => List.mem_cons_of_mem _ (List.mem_append_left _ (List.mem_append_right _ h))) (by decide +kernel))
set_option maxRecDepth 20000 in
theorem gL_areSymbolsRight_X7_ofSymbol : GoodIn wsL_areSymbolsRight (wsV RL 76 RX7 yX7_ofSymbol wsX7_ofSymbol) := goodIn_app (goodIn_of _ (by decide +kernel)) ggL_areSymbolsRight_X7_ofSymbol
set_option maxRecDepth 20000 in
theorem ggL_areSymbolsRight_X7_map : GoodIn wsL_areSymbolsRight wsX7_map := goodIn_ca (goodIn_ca (goodIn_r _ [111, 58, 59, 6, 7, 8, 9, 4, 10, 112, 113, 114, 115, 18, 21, 116, 70, 51, 52, 29, 53, 31, 117, 118, 119, 120, 121, 122, 123, 124, 135, 136, 137, 138, 139, 150] (by decide +kernel) (by decide +kernel)) (goodIn_sub (fun _ h => List.mem_cons_of_mem _ (List.mem_append_right _ h)) (by decide +kernel))) (goodIn_sub (fun _ h => List.mem_cons_of_mem _ (List.mem_append_left _ (List.mem_append_right _ h))) (by decide +kernel))
set_option maxRecDepth 20000 in
theorem gL_areSymbolsRight_X7_map : GoodIn wsL_areSymbolsRight (wsV RL 103 RX7 yX7_map wsX7_map) := goodIn_app (goodIn_of _ (by decide +kernel)) ggL_areSymbolsRight_X7_map
theorem dL_areSymbolsRight_0 : decode cL_areSymbolsRight 0 = .ok (.iconst 0, 1) := by decide +kernel
theorem dL_areSymbolsRight_1 : decode cL_areSymbolsRight 1 = .ok (.istore_n 1, 1) := by decide +kernel
theorem dL_areSymbolsRight_2 : decode cL_areSymbolsRight 2 = .ok (.iconst 0, 1) := by decide +kernel
theorem dL_areSymbolsRight_3 : decode cL_areSymbolsRight 3 = .ok (.istore_n 2, 1) := by decide +kernel
theorem dL_areSymbolsRight_4 : decode cL_areSymbolsRight 4 = .ok (.iload_n 2, 1) := by decide +kernel
theorem dL_areSymbolsRight_5 : decode cL_areSymbolsRight 5 = .ok (.aload_n 0, 1) := by decide +kernel
theorem dL_areSymbolsRight_6 : decode cL_areSymbolsRight 6 = .ok (.iconst 1, 1) := by decide +kernel
theorem dL_areSymbolsRight_7 : decode cL_areSymbolsRight 7 = .ok (.invokevirtual 64, 3) := by decide +kernel
theorem dL_areSymbolsRight_10 : decode cL_areSymbolsRight 10 = .ok (.if_icmp .ge 52, 3) := by decide +kernel
theorem dL_areSymbolsRight_13 : decode cL_areSymbolsRight 13 = .ok (.iload_n 1, 1) := by decide +kernel
theorem dL_areSymbolsRight_14 : decode cL_areSymbolsRight 14 = .ok (.aload_n 0, 1) := by decide +kernel
theorem dL_areSymbolsRight_15 : decode cL_areSymbolsRight 15 = .ok (.iload_n 2, 1) := by decide +kernel
theorem dL_areSymbolsRight_16 : decode cL_areSymbolsRight 16 = .ok (.iconst 5, 1) := by decide +kernel
theorem dL_areSymbolsRight_17 : decode cL_areSymbolsRight 17 = .ok (.invokevirtual 82, 3) := by decide +kernel
theorem dL_areSymbolsRight_20 : decode cL_areSymbolsRight 20 = .ok (.ifCond .lt 12, 3) := by decide +kernel
theorem dL_areSymbolsRight_23 : decode cL_areSymbolsRight 23 = .ok (.aload_n 0, 1) := by decide +kernel
theorem dL_areSymbolsRight_24 : decode cL_areSymbolsRight 24 = .ok (.iload_n 2, 1) := by decide +kernel
theorem dL_areSymbolsRight_25 : decode cL_areSymbolsRight 25 = .ok (.iconst 2, 1) := by decide +kernel
theorem dL_areSymbolsRight_26 : decode cL_areSymbolsRight 26 = .ok (.invokevirtual 82, 3) := by decide +kernel
theorem dL_areSymbolsRight_29 : decode cL_areSymbolsRight 29 = .ok (.goto 4, 3) := by decide +kernel
theorem dL_areSymbolsRight_32 : decode cL_areSymbolsRight 32 = .ok (.iconst 0, 1) := by decide +kernel
theorem dL_areSymbolsRight_33 : decode cL_areSymbolsRight 33 = .ok (.iadd, 1) := by decide +kernel
theorem dL_areSymbolsRight_34 : decode cL_areSymbolsRight 34 = .ok (.istore_n 1, 1) := by decide +kernel
theorem dL_areSymbolsRight_35 : decode cL_areSymbolsRight 35 = .ok (.aload_n 0, 1) := by decide +kernel
theorem dL_areSymbolsRight_36 : decode cL_areSymbolsRight 36 = .ok (.iload_n 2, 1) := by decide +kernel
theorem dL_areSymbolsRight_37 : decode cL_areSymbolsRight 37 = .ok (.bipush 6, 2) := by decide +kernel
theorem dL_areSymbolsRight_39 : decode cL_areSymbolsRight 39 = .ok (.invokevirtual 82, 3) := by decide +kernel
theorem dL_areSymbolsRight_42 : decode cL_areSymbolsRight 42 = .ok (.ifCond .le 14, 3) := by decide +kernel
theorem dL_areSymbolsRight_45 : decode cL_areSymbolsRight 45 = .ok (.aload_n 0, 1) := by decide +kernel
theorem dL_areSymbolsRight_46 : decode cL_areSymbolsRight 46 = .ok (.iload_n 2, 1) := by decide +kernel
theorem dL_areSymbolsRight_47 : decode cL_areSymbolsRight 47 = .ok (.iconst 5, 1) := by decide +kernel
theorem dL_areSymbolsRight_48 : decode cL_areSymbolsRight 48 = .ok (.invokevirtual 82, 3) := by decide +kernel
theorem dL_areSymbolsRight_51 : decode cL_areSymbolsRight 51 = .ok (.ifCond .ge 5, 3) := by decide +kernel
theorem dL_areSymbolsRight_54 : decode cL_areSymbolsRight 54 = .ok (.iconst 0, 1) := by decide +kernel
theorem dL_areSymbolsRight_55 : decode cL_areSymbolsRight 55 = .ok (.ireturn, 1) := by decide +kernel
theorem dL_areSymbolsRight_56 : decode cL_areSymbolsRight 56 = .ok (.iinc 2 1, 3) := by decide +kernel
theorem dL_areSymbolsRight_59 : decode cL_areSymbolsRight 59 = .ok (.goto (-55), 3) := by decide +kernel
theorem dL_areSymbolsRight_62 : decode cL_areSymbolsRight 62 = .ok (.iconst 0, 1) := by decide +kernel
theorem dL_areSymbolsRight_63 : decode cL_areSymbolsRight 63 = .ok (.istore_n 2, 1) := by decide +kernel
theorem dL_areSymbolsRight_64 : decode cL_areSymbolsRight 64 = .ok (.iload_n 2, 1) := by decide +kernel
theorem dL_areSymbolsRight_65 : decode cL_areSymbolsRight 65 = .ok (.bipush 16, 2) := by decide +kernel
theorem dL_areSymbolsRight_67 : decode cL_areSymbolsRight 67 = .ok (.if_icmp .ge 162, 3) := by decide +kernel
theorem dL_areSymbolsRight_70 : decode cL_areSymbolsRight 70 = .ok (.aload_n 0, 1) := by decide +kernel
theorem dL_areSymbolsRight_71 : decode cL_areSymbolsRight 71 = .ok (.iload_n 2, 1) := by decide +kernel
theorem dL_areSymbolsRight_72 : decode cL_areSymbolsRight 72 = .ok (.iconst 0, 1) := by decide +kernel
theorem dL_areSymbolsRight_73 : decode cL_areSymbolsRight 73 = .ok (.invokevirtual 76, 3) := by decide +kernel
theorem dL_areSymbolsRight_76 : decode cL_areSymbolsRight 76 = .ok (.istore_n 3, 1) := by decide +kernel
theorem dL_areSymbolsRight_77 : decode cL_areSymbolsRight 77 = .ok (.aload_n 0, 1) := by decide +kernel
theorem dL_areSymbolsRight_78 : decode cL_areSymbolsRight 78 = .ok (.iload_n 2, 1) := by decide +kernel
theorem dL_areSymbolsRight_79 : decode cL_areSymbolsRight 79 = .ok (.iconst 1, 1) := by decide +kernel
theorem dL_areSymbolsRight_80 : decode cL_areSymbolsRight 80 = .ok (.invokevirtual 76, 3) := by decide +kernel
theorem dL_areSymbolsRight_83 : decode cL_areSymbolsRight 83 = .ok (.istore 4, 2) := by decide +kernel
theorem dL_areSymbolsRight_85 : decode cL_areSymbolsRight 85 = .ok (.aload_n 0, 1) := by decide +kernel
theorem dL_areSymbolsRight_86 : decode cL_areSymbolsRight 86 = .ok (.iload_n 2, 1) := by decide +kernel
theorem dL_areSymbolsRight_87 : decode cL_areSymbolsRight 87 = .ok (.iconst 2, 1) := by decide +kernel
theorem dL_areSymbolsRight_88 : decode cL_areSymbolsRight 88 = .ok (.invokevirtual 76, 3) := by decide +kernel
theorem dL_areSymbolsRight_91 : decode cL_areSymbolsRight 91 = .ok (.istore 5, 2) := by decide +kernel
theorem dL_areSymbolsRight_93 : decode cL_areSymbolsRight 93 = .ok (.iload_n 3, 1) := by decide +kernel
theorem dL_areSymbolsRight_94 : decode cL_areSymbolsRight 94 = .ok (.ifCond .ge 26, 3) := by decide +kernel
theorem dL_areSymbolsRight_97 : decode cL_areSymbolsRight 97 = .ok (.iload 4, 2) := by decide +kernel
theorem dL_areSymbolsRight_99 : decode cL_areSymbolsRight 99 = .ok (.iconst (-1), 1) := by decide +kernel
theorem dL_areSymbolsRight_100 : decode cL_areSymbolsRight 100 = .ok (.if_icmp .ne 18, 3) := by decide +kernel
theorem dL_areSymbolsRight_103 : decode cL_areSymbolsRight 103 = .ok (.iload 5, 2) := by decide +kernel
theorem dL_areSymbolsRight_105 : decode cL_areSymbolsRight 105 = .ok (.iconst (-1), 1) := by decide +kernel
theorem dL_areSymbolsRight_106 : decode cL_areSymbolsRight 106 = .ok (.if_icmp .ne 12, 3) := by decide +kernel
theorem dL_areSymbolsRight_109 : decode cL_areSymbolsRight 109 = .ok (.aload_n 0, 1) := by decide +kernel
theorem dL_areSymbolsRight_110 : decode cL_areSymbolsRight 110 = .ok (.iload_n 2, 1) := by decide +kernel
theorem dL_areSymbolsRight_111 : decode cL_areSymbolsRight 111 = .ok (.iconst 3, 1) := by decide +kernel
theorem dL_areSymbolsRight_112 : decode cL_areSymbolsRight 112 = .ok (.invokevirtual 76, 3) := by decide +kernel
theorem dL_areSymbolsRight_115 : decode cL_areSymbolsRight 115 = .ok (.ifCond .eq 5, 3) := by decide +kernel
theorem dL_areSymbolsRight_118 : decode cL_areSymbolsRight 118 = .ok (.iconst 0, 1) := by decide +kernel
theorem dL_areSymbolsRight_119 : decode cL_areSymbolsRight 119 = .ok (.ireturn, 1) := by decide +kernel
theorem dL_areSymbolsRight_120 : decode cL_areSymbolsRight 120 = .ok (.iload_n 3, 1) := by decide +kernel
theorem dL_areSymbolsRight_121 : decode cL_areSymbolsRight 121 = .ok (.ifCond .lt 73, 3) := by decide +kernel
theorem dL_areSymbolsRight_124 : decode cL_areSymbolsRight 124 = .ok (.aload_n 0, 1) := by decide +kernel
theorem dL_areSymbolsRight_125 : decode cL_areSymbolsRight 125 = .ok (.iload_n 3, 1) := by decide +kernel
theorem dL_areSymbolsRight_126 : decode cL_areSymbolsRight 126 = .ok (.iconst 1, 1) := by decide +kernel
theorem dL_areSymbolsRight_127 : decode cL_areSymbolsRight 127 = .ok (.invokevirtual 82, 3) := by decide +kernel
theorem dL_areSymbolsRight_130 : decode cL_areSymbolsRight 130 = .ok (.iload_n 2, 1) := by decide +kernel
theorem dL_areSymbolsRight_131 : decode cL_areSymbolsRight 131 = .ok (.if_icmp .ne 61, 3) := by decide +kernel
theorem dL_areSymbolsRight_134 : decode cL_areSymbolsRight 134 = .ok (.aload_n 0, 1) := by decide +kernel
theorem dL_areSymbolsRight_135 : decode cL_areSymbolsRight 135 = .ok (.iload_n 3, 1) := by decide +kernel
theorem dL_areSymbolsRight_136 : decode cL_areSymbolsRight 136 = .ok (.iconst 5, 1) := by decide +kernel
theorem dL_areSymbolsRight_137 : decode cL_areSymbolsRight 137 = .ok (.invokevirtual 82, 3) := by decide +kernel
theorem dL_areSymbolsRight_140 : decode cL_areSymbolsRight 140 = .ok (.iload 4, 2) := by decide +kernel
theorem dL_areSymbolsRight_142 : decode cL_areSymbolsRight 142 = .ok (.if_icmp .ne 50, 3) := by decide +kernel
theorem dL_areSymbolsRight_145 : decode cL_areSymbolsRight 145 = .ok (.iload 4, 2) := by decide +kernel
theorem dL_areSymbolsRight_147 : decode cL_areSymbolsRight 147 = .ok (.ifCond .lt 45, 3) := by decide +kernel
theorem dL_areSymbolsRight_150 : decode cL_areSymbolsRight 150 = .ok (.aload_n 0, 1) := by decide +kernel
theorem dL_areSymbolsRight_151 : decode cL_areSymbolsRight 151 = .ok (.iload 4, 2) := by decide +kernel
theorem dL_areSymbolsRight_153 : decode cL_areSymbolsRight 153 = .ok (.iconst 0, 1) := by decide +kernel
theorem dL_areSymbolsRight_154 : decode cL_areSymbolsRight 154 = .ok (.invokevirtual 103, 3) := by decide +kernel
theorem dL_areSymbolsRight_157 : decode cL_areSymbolsRight 157 = .ok (.iconst 1, 1) := by decide +kernel
theorem dL_areSymbolsRight_158 : decode cL_areSymbolsRight 158 = .ok (.if_icmp .ne 34, 3) := by decide +kernel
theorem dL_areSymbolsRight_161 : decode cL_areSymbolsRight 161 = .ok (.aload_n 0, 1) := by decide +kernel
theorem dL_areSymbolsRight_162 : decode cL_areSymbolsRight 162 = .ok (.iload 4, 2) := by decide +kernel
theorem dL_areSymbolsRight_164 : decode cL_areSymbolsRight 164 = .ok (.iconst 1, 1) := by decide +kernel
theorem dL_areSymbolsRight_165 : decode cL_areSymbolsRight 165 = .ok (.invokevirtual 103, 3) := by decide +kernel
theorem dL_areSymbolsRight_168 : decode cL_areSymbolsRight 168 = .ok (.iload_n 3, 1) := by decide +kernel
theorem dL_areSymbolsRight_169 : decode cL_areSymbolsRight 169 = .ok (.if_icmp .ne 23, 3) := by decide +kernel
theorem dL_areSymbolsRight_172 : decode cL_areSymbolsRight 172 = .ok (.aload_n 0, 1) := by decide +kernel
theorem dL_areSymbolsRight_173 : decode cL_areSymbolsRight 173 = .ok (.iload 4, 2) := by decide +kernel
theorem dL_areSymbolsRight_175 : decode cL_areSymbolsRight 175 = .ok (.aload_n 0, 1) := by decide +kernel
theorem dL_areSymbolsRight_176 : decode cL_areSymbolsRight 176 = .ok (.iload_n 3, 1) := by decide +kernel
theorem dL_areSymbolsRight_177 : decode cL_areSymbolsRight 177 = .ok (.iconst 2, 1) := by decide +kernel
theorem dL_areSymbolsRight_178 : decode cL_areSymbolsRight 178 = .ok (.invokevirtual 82, 3) := by decide +kernel
theorem dL_areSymbolsRight_181 : decode cL_areSymbolsRight 181 = .ok (.iadd, 1) := by decide +kernel
theorem dL_areSymbolsRight_182 : decode cL_areSymbolsRight 182 = .ok (.iconst 1, 1) := by decide +kernel
theorem dL_areSymbolsRight_183 : decode cL_areSymbolsRight 183 = .ok (.isub, 1) := by decide +kernel
theorem dL_areSymbolsRight_184 : decode cL_areSymbolsRight 184 = .ok (.iconst 1, 1) := by decide +kernel
theorem dL_areSymbolsRight_185 : decode cL_areSymbolsRight 185 = .ok (.invokevirtual 103, 3) := by decide +kernel
theorem dL_areSymbolsRight_188 : decode cL_areSymbolsRight 188 = .ok (.iload_n 3, 1) := by decide +kernel
theorem dL_areSymbolsRight_189 : decode cL_areSymbolsRight 189 = .ok (.if_icmp .eq 5, 3) := by decide +kernel
theorem dL_areSymbolsRight_192 : decode cL_areSymbolsRight 192 = .ok (.iconst 0, 1) := by decide +kernel
theorem dL_areSymbolsRight_193 : decode cL_areSymbolsRight 193 = .ok (.ireturn, 1) := by decide +kernel
theorem dL_areSymbolsRight_194 : decode cL_areSymbolsRight 194 = .ok (.iload 5, 2) := by decide +kernel
theorem dL_areSymbolsRight_196 : decode cL_areSymbolsRight 196 = .ok (.ifCond .lt 27, 3) := by decide +kernel
theorem dL_areSymbolsRight_199 : decode cL_areSymbolsRight 199 = .ok (.aload_n 0, 1) := by decide +kernel
