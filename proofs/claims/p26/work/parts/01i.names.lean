theorem dL_isLadderSo_369 : decode cL_isLadderSo 369 = .ok (.aload_n 0, 1) := by decide +kernel
theorem dL_isLadderSo_370 : decode cL_isLadderSo 370 = .ok (.iload_n 1, 1) := by decide +kernel
theorem dL_isLadderSo_371 : decode cL_isLadderSo 371 = .ok (.iload 8, 2) := by decide +kernel
theorem dL_isLadderSo_373 : decode cL_isLadderSo 373 = .ok (.iconst 1, 1) := by decide +kernel
theorem dL_isLadderSo_374 : decode cL_isLadderSo 374 = .ok (.iadd, 1) := by decide +kernel
theorem dL_isLadderSo_375 : decode cL_isLadderSo 375 = .ok (.invokevirtual 59, 3) := by decide +kernel
theorem dL_isLadderSo_378 : decode cL_isLadderSo 378 = .ok (.ifCond .le 7, 3) := by decide +kernel
theorem dL_isLadderSo_381 : decode cL_isLadderSo 381 = .ok (.iconst 1, 1) := by decide +kernel
theorem dL_isLadderSo_382 : decode cL_isLadderSo 382 = .ok (.goto 4, 3) := by decide +kernel
theorem dL_isLadderSo_385 : decode cL_isLadderSo 385 = .ok (.iconst 0, 1) := by decide +kernel
theorem dL_isLadderSo_386 : decode cL_isLadderSo 386 = .ok (.istore 5, 2) := by decide +kernel
theorem dL_isLadderSo_388 : decode cL_isLadderSo 388 = .ok (.iload 5, 2) := by decide +kernel
theorem dL_isLadderSo_390 : decode cL_isLadderSo 390 = .ok (.ifCond .eq 65, 3) := by decide +kernel
theorem dL_isLadderSo_393 : decode cL_isLadderSo 393 = .ok (.iload 9, 2) := by decide +kernel
theorem dL_isLadderSo_395 : decode cL_isLadderSo 395 = .ok (.iload 7, 2) := by decide +kernel
theorem dL_isLadderSo_397 : decode cL_isLadderSo 397 = .ok (.if_icmp .lt 58, 3) := by decide +kernel
theorem dL_isLadderSo_400 : decode cL_isLadderSo 400 = .ok (.iload 9, 2) := by decide +kernel
theorem dL_isLadderSo_402 : decode cL_isLadderSo 402 = .ok (.iload 8, 2) := by decide +kernel
theorem dL_isLadderSo_404 : decode cL_isLadderSo 404 = .ok (.if_icmp .gt 51, 3) := by decide +kernel
theorem dL_isLadderSo_407 : decode cL_isLadderSo 407 = .ok (.iload 9, 2) := by decide +kernel
theorem dL_isLadderSo_409 : decode cL_isLadderSo 409 = .ok (.ifCond .eq 27, 3) := by decide +kernel
theorem dL_isLadderSo_412 : decode cL_isLadderSo 412 = .ok (.iload 7, 2) := by decide +kernel
theorem dL_isLadderSo_414 : decode cL_isLadderSo 414 = .ok (.ifCond .le 10, 3) := by decide +kernel
theorem dL_isLadderSo_417 : decode cL_isLadderSo 417 = .ok (.iload 9, 2) := by decide +kernel
theorem dL_isLadderSo_419 : decode cL_isLadderSo 419 = .ok (.iload 7, 2) := by decide +kernel
theorem dL_isLadderSo_421 : decode cL_isLadderSo 421 = .ok (.if_icmp .eq 15, 3) := by decide +kernel
theorem dL_isLadderSo_424 : decode cL_isLadderSo 424 = .ok (.iload 8, 2) := by decide +kernel
theorem dL_isLadderSo_426 : decode cL_isLadderSo 426 = .ok (.ifCond .ge 29, 3) := by decide +kernel
theorem dL_isLadderSo_429 : decode cL_isLadderSo 429 = .ok (.iload 9, 2) := by decide +kernel
theorem dL_isLadderSo_431 : decode cL_isLadderSo 431 = .ok (.iload 8, 2) := by decide +kernel
theorem dL_isLadderSo_433 : decode cL_isLadderSo 433 = .ok (.if_icmp .ne 22, 3) := by decide +kernel
theorem dL_isLadderSo_436 : decode cL_isLadderSo 436 = .ok (.iload 7, 2) := by decide +kernel
theorem dL_isLadderSo_438 : decode cL_isLadderSo 438 = .ok (.ifCond .gt 13, 3) := by decide +kernel
theorem dL_isLadderSo_441 : decode cL_isLadderSo 441 = .ok (.iload 8, 2) := by decide +kernel
theorem dL_isLadderSo_443 : decode cL_isLadderSo 443 = .ok (.ifCond .lt 8, 3) := by decide +kernel
theorem dL_isLadderSo_446 : decode cL_isLadderSo 446 = .ok (.iload 9, 2) := by decide +kernel
theorem dL_isLadderSo_448 : decode cL_isLadderSo 448 = .ok (.ifCond .ne 7, 3) := by decide +kernel
theorem dL_isLadderSo_451 : decode cL_isLadderSo 451 = .ok (.iconst 1, 1) := by decide +kernel
theorem dL_isLadderSo_452 : decode cL_isLadderSo 452 = .ok (.goto 4, 3) := by decide +kernel
theorem dL_isLadderSo_455 : decode cL_isLadderSo 455 = .ok (.iconst 0, 1) := by decide +kernel
theorem dL_isLadderSo_456 : decode cL_isLadderSo 456 = .ok (.istore 5, 2) := by decide +kernel
theorem dL_isLadderSo_458 : decode cL_isLadderSo 458 = .ok (.iload 5, 2) := by decide +kernel
theorem dL_isLadderSo_460 : decode cL_isLadderSo 460 = .ok (.ifCond .eq 82, 3) := by decide +kernel
theorem dL_isLadderSo_463 : decode cL_isLadderSo 463 = .ok (.aload_n 0, 1) := by decide +kernel
theorem dL_isLadderSo_464 : decode cL_isLadderSo 464 = .ok (.iload_n 1, 1) := by decide +kernel
theorem dL_isLadderSo_465 : decode cL_isLadderSo 465 = .ok (.iconst 4, 1) := by decide +kernel
theorem dL_isLadderSo_466 : decode cL_isLadderSo 466 = .ok (.invokevirtual 56, 3) := by decide +kernel
theorem dL_isLadderSo_469 : decode cL_isLadderSo 469 = .ok (.aload_n 0, 1) := by decide +kernel
theorem dL_isLadderSo_470 : decode cL_isLadderSo 470 = .ok (.iload_n 1, 1) := by decide +kernel
theorem dL_isLadderSo_471 : decode cL_isLadderSo 471 = .ok (.bipush 8, 2) := by decide +kernel
theorem dL_isLadderSo_473 : decode cL_isLadderSo 473 = .ok (.invokevirtual 50, 3) := by decide +kernel
theorem dL_isLadderSo_476 : decode cL_isLadderSo 476 = .ok (.bipush 10, 2) := by decide +kernel
theorem dL_isLadderSo_478 : decode cL_isLadderSo 478 = .ok (.iload 9, 2) := by decide +kernel
theorem dL_isLadderSo_480 : decode cL_isLadderSo 480 = .ok (.imul, 1) := by decide +kernel
theorem dL_isLadderSo_481 : decode cL_isLadderSo 481 = .ok (.aload_n 0, 1) := by decide +kernel
theorem dL_isLadderSo_482 : decode cL_isLadderSo 482 = .ok (.iload_n 1, 1) := by decide +kernel
theorem dL_isLadderSo_483 : decode cL_isLadderSo 483 = .ok (.iconst 0, 1) := by decide +kernel
theorem dL_isLadderSo_484 : decode cL_isLadderSo 484 = .ok (.invokevirtual 50, 3) := by decide +kernel
theorem dL_isLadderSo_487 : decode cL_isLadderSo 487 = .ok (.imul, 1) := by decide +kernel
theorem dL_isLadderSo_488 : decode cL_isLadderSo 488 = .ok (.isub, 1) := by decide +kernel
theorem dL_isLadderSo_489 : decode cL_isLadderSo 489 = .ok (.if_icmp .ne 53, 3) := by decide +kernel
theorem dL_isLadderSo_492 : decode cL_isLadderSo 492 = .ok (.aload_n 0, 1) := by decide +kernel
theorem dL_isLadderSo_493 : decode cL_isLadderSo 493 = .ok (.iload_n 1, 1) := by decide +kernel
theorem dL_isLadderSo_494 : decode cL_isLadderSo 494 = .ok (.iconst 4, 1) := by decide +kernel
theorem dL_isLadderSo_495 : decode cL_isLadderSo 495 = .ok (.invokevirtual 56, 3) := by decide +kernel
theorem dL_isLadderSo_498 : decode cL_isLadderSo 498 = .ok (.ifCond .lt 44, 3) := by decide +kernel
theorem dL_isLadderSo_501 : decode cL_isLadderSo 501 = .ok (.aload_n 0, 1) := by decide +kernel
theorem dL_isLadderSo_502 : decode cL_isLadderSo 502 = .ok (.iload_n 1, 1) := by decide +kernel
theorem dL_isLadderSo_503 : decode cL_isLadderSo 503 = .ok (.iconst 5, 1) := by decide +kernel
theorem dL_isLadderSo_504 : decode cL_isLadderSo 504 = .ok (.invokevirtual 56, 3) := by decide +kernel
theorem dL_isLadderSo_507 : decode cL_isLadderSo 507 = .ok (.iload_n 3, 1) := by decide +kernel
theorem dL_isLadderSo_508 : decode cL_isLadderSo 508 = .ok (.iload 9, 2) := by decide +kernel
theorem dL_isLadderSo_510 : decode cL_isLadderSo 510 = .ok (.isub, 1) := by decide +kernel
theorem dL_isLadderSo_511 : decode cL_isLadderSo 511 = .ok (.if_icmp .ne 31, 3) := by decide +kernel
theorem dL_isLadderSo_514 : decode cL_isLadderSo 514 = .ok (.aload_n 0, 1) := by decide +kernel
theorem dL_isLadderSo_515 : decode cL_isLadderSo 515 = .ok (.iload_n 1, 1) := by decide +kernel
theorem dL_isLadderSo_516 : decode cL_isLadderSo 516 = .ok (.iconst 5, 1) := by decide +kernel
theorem dL_isLadderSo_517 : decode cL_isLadderSo 517 = .ok (.invokevirtual 56, 3) := by decide +kernel
theorem dL_isLadderSo_520 : decode cL_isLadderSo 520 = .ok (.ifCond .lt 22, 3) := by decide +kernel
theorem dL_isLadderSo_523 : decode cL_isLadderSo 523 = .ok (.aload_n 0, 1) := by decide +kernel
theorem dL_isLadderSo_524 : decode cL_isLadderSo 524 = .ok (.iload_n 1, 1) := by decide +kernel
theorem dL_isLadderSo_525 : decode cL_isLadderSo 525 = .ok (.iconst 4, 1) := by decide +kernel
theorem dL_isLadderSo_526 : decode cL_isLadderSo 526 = .ok (.invokevirtual 50, 3) := by decide +kernel
theorem dL_isLadderSo_529 : decode cL_isLadderSo 529 = .ok (.iconst 3, 1) := by decide +kernel
theorem dL_isLadderSo_530 : decode cL_isLadderSo 530 = .ok (.if_icmp .ne 8, 3) := by decide +kernel
theorem dL_isLadderSo_533 : decode cL_isLadderSo 533 = .ok (.iload 7, 2) := by decide +kernel
theorem dL_isLadderSo_535 : decode cL_isLadderSo 535 = .ok (.ifCond .lt 7, 3) := by decide +kernel
theorem dL_isLadderSo_538 : decode cL_isLadderSo 538 = .ok (.iconst 1, 1) := by decide +kernel
theorem dL_isLadderSo_539 : decode cL_isLadderSo 539 = .ok (.goto 4, 3) := by decide +kernel
theorem dL_isLadderSo_542 : decode cL_isLadderSo 542 = .ok (.iconst 0, 1) := by decide +kernel
theorem dL_isLadderSo_543 : decode cL_isLadderSo 543 = .ok (.ireturn, 1) := by decide +kernel
set_option maxRecDepth 20000 in
theorem ggL_areTrialsSo_X5_neededRope : GoodIn wsL_areTrialsSo wsX5_neededRope := goodIn_ca (goodIn_r _ [5, 6, 7, 8, 9, 10, 4, 11, 12, 13, 14, 15, 16, 17, 18, 19, 20, 21, 22, 23, 24, 25, 26, 27, 28, 29, 30, 31, 32, 33, 34, 35, 36, 37, 38, 39, 40, 41, 42, 43, 44, 45, 46, 47, 48, 49, 50, 51, 52, 53, 54, 55, 56, 57, 58, 59, 60, 61, 62, 63, 64, 65, 66, 67, 68, 69, 70, 71, 72, 73, 74, 138, 139, 140, 141, 142, 143, 144, 145, 146, 147, 148, 149, 150, 151, 152, 153, 154] (by decide +kernel) (by decide +kernel)) (goodIn_sub (fun _ h => List.mem_cons_of_mem _ (List.mem_append_left _ (List.mem_append_right _ h))) (by decide +kernel))
set_option maxRecDepth 20000 in
theorem gL_areTrialsSo_X5_neededRope : GoodIn wsL_areTrialsSo (wsV RL 62 RX5 yX5_neededRope wsX5_neededRope) := goodIn_app (goodIn_of _ (by decide +kernel)) ggL_areTrialsSo_X5_neededRope
set_option maxRecDepth 20000 in
theorem ggL_areTrialsSo_X5_walls : GoodIn wsL_areTrialsSo wsX5_walls := goodIn_ca (goodIn_r _ [78, 6, 79, 8, 9, 10, 4, 11, 12, 13, 14, 15, 16, 17, 18, 19, 20, 21, 22, 23, 24, 25, 26, 27, 28, 29, 30, 31, 32, 33, 34, 35, 36, 37, 38, 39, 40, 41, 42, 43, 44, 45, 46, 47, 48, 49, 50, 51, 52, 53, 54, 55, 56, 57, 58, 59, 60, 61, 62, 63, 64, 65, 66, 67, 68, 69, 70, 71, 72, 73, 74, 138, 139, 140, 141, 142, 143, 144, 145, 146, 147, 148, 149, 150, 151, 152, 153, 154] (by decide +kernel) (by decide +kernel)) (goodIn_sub (fun _ h => List.mem_cons_of_mem _ (List.mem_append_left _ (List.mem_append_right _ h))) (by decide +kernel))
set_option maxRecDepth 20000 in
theorem gL_areTrialsSo_X5_walls : GoodIn wsL_areTrialsSo (wsV RL 65 RX5 yX5_walls wsX5_walls) := goodIn_app (goodIn_of _ (by decide +kernel)) ggL_areTrialsSo_X5_walls
set_option maxRecDepth 20000 in
theorem ggL_areTrialsSo_X5_bestBase : GoodIn wsL_areTrialsSo wsX5_bestBase := goodIn_ca (goodIn_r _ [83, 6, 84, 8, 9, 10, 4, 11, 12, 13, 14, 15, 16, 17, 18, 19, 20, 21, 22, 23, 24, 25, 26, 27, 28, 29, 30, 85, 86, 87, 88, 39, 40, 41, 42, 71, 72, 73, 74, 47, 48, 49, 50, 51, 52, 53, 54, 55, 56, 57, 58, 35, 36, 37, 38, 43, 44, 45, 46, 59, 60, 61, 62, 63, 64, 65, 66, 67, 68, 69, 70, 138, 139, 140, 141, 142, 143, 144, 145, 146, 147, 148, 149, 150, 151, 152, 153, 154] (by decide +kernel) (by decide +kernel)) (goodIn_sub (fun _ h => List.mem_cons_of_mem _ (List.mem_append_left _ (List.mem_append_right _ h))) (by decide +kernel))
set_option maxRecDepth 20000 in
theorem gL_areTrialsSo_X5_bestBase : GoodIn wsL_areTrialsSo (wsV RL 68 RX5 yX5_bestBase wsX5_bestBase) := goodIn_app (goodIn_of _ (by decide +kernel)) ggL_areTrialsSo_X5_bestBase
set_option maxRecDepth 20000 in
theorem ggL_areTrialsSo_X5_ladder : GoodIn wsL_areTrialsSo wsX5_ladder := goodIn_ca (goodIn_ca (goodIn_r _ [92, 93, 94, 84, 95, 96, 97, 79, 7, 98, 99, 8, 9, 10, 4, 11, 12, 13, 14, 15, 100, 68, 69, 19, 70, 23, 29, 101, 52, 53, 54, 30, 21, 31, 32, 33, 34, 35, 36, 37, 38, 39, 40, 41, 42, 43, 44, 45, 46, 25, 22, 47, 48, 49, 50, 51, 55, 56, 57, 58, 59, 60, 61, 62, 26, 63, 64, 65, 66, 24, 67, 71, 72, 73, 74, 142, 143, 144, 145, 146, 147, 148, 149, 150, 151, 138, 139, 140, 141, 152, 153, 154] (by decide +kernel) (by decide +kernel)) (goodIn_sub (fun _ h => List.mem_cons_of_mem _ (List.mem_append_right _ h)) (by decide +kernel))) (goodIn_sub (fun _ h => List.mem_cons_of_mem _ (List.mem_append_left _ (List.mem_append_right _ h))) (by decide +kernel))
set_option maxRecDepth 20000 in
theorem gL_areTrialsSo_X5_ladder : GoodIn wsL_areTrialsSo (wsV RL 50 RX5 yX5_ladder wsX5_ladder) := goodIn_app (goodIn_of _ (by decide +kernel)) ggL_areTrialsSo_X5_ladder
set_option maxRecDepth 20000 in
theorem ggL_areTrialsSo_X5_riskiest : GoodIn wsL_areTrialsSo wsX5_riskiest := goodIn_ca (goodIn_r _ [105, 98, 6, 8, 9, 10, 4, 11, 12, 13, 14, 15, 16, 17, 18, 19, 20, 21, 22, 23, 24, 25, 26, 27, 28, 29, 30, 106, 107, 108, 109, 110, 111, 112, 113, 85, 86, 87, 88, 39, 40, 41, 42, 71, 72, 73, 74, 47, 48, 49, 50, 51, 52, 53, 54, 55, 56, 57, 58, 35, 36, 37, 38, 43, 44, 45, 46, 59, 60, 61, 62, 63, 64, 65, 66, 67, 68, 69, 70, 142, 143, 144, 145, 146, 147, 148, 149, 150, 151, 138, 139, 140, 141, 152, 153, 154] (by decide +kernel) (by decide +kernel)) (goodIn_sub (fun _ h => List.mem_cons_of_mem _ (List.mem_append_left _ (List.mem_append_right _ h))) (by decide +kernel))
set_option maxRecDepth 20000 in
theorem gL_areTrialsSo_X5_riskiest : GoodIn wsL_areTrialsSo (wsV RL 71 RX5 yX5_riskiest wsX5_riskiest) := goodIn_app (goodIn_of _ (by decide +kernel)) ggL_areTrialsSo_X5_riskiest
set_option maxRecDepth 20000 in
theorem ggL_areTrialsSo_X5_highest : GoodIn wsL_areTrialsSo wsX5_highest := goodIn_ca (goodIn_r _ [117, 6, 8, 9, 10, 4, 11, 12, 13, 14, 15, 118, 119, 120, 121, 111, 112, 19, 113, 28, 16, 17, 18, 20, 21, 22, 23, 24, 25, 26, 27, 29, 30, 122, 123, 124, 125, 110, 126, 127, 128, 129, 31, 32, 33, 34, 35, 36, 37, 38, 39, 40, 41, 42, 43, 44, 45, 46, 47, 48, 49, 50, 51, 52, 53, 54, 55, 56, 57, 58, 59, 60, 61, 62, 63, 64, 65, 66, 67, 68, 69, 70, 71, 72, 73, 74, 138, 139, 140, 141, 152, 153, 154, 142, 143, 144, 145, 146, 147, 148, 149, 150, 151] (by decide +kernel) (by decide +kernel)) (goodIn_sub (fun _ h => List.mem_cons_of_mem _ (List.mem_append_left _ (List.mem_append_right _ h))) (by decide +kernel))
set_option maxRecDepth 20000 in
theorem gL_areTrialsSo_X5_highest : GoodIn wsL_areTrialsSo (wsV RL 74 RX5 yX5_highest wsX5_highest) := goodIn_app (goodIn_of _ (by decide +kernel)) ggL_areTrialsSo_X5_highest
set_option maxRecDepth 20000 in
theorem ggL_areTrialsSo_X5_person : GoodIn wsL_areTrialsSo wsX5_person := goodIn_ca (goodIn_ca (goodIn_r _ [133, 93, 94, 8, 9, 10, 4, 11, 12, 13, 14, 15, 118, 119, 120, 121, 111, 112, 19, 113, 28, 134, 135, 136, 137, 29, 110, 122, 123, 124, 125, 30, 138, 139, 140, 141, 152, 153, 154, 142, 143, 144, 145, 146, 147, 148, 149, 150, 151] (by decide +kernel) (by decide +kernel)) (goodIn_sub (fun _ h => List.mem_cons_of_mem _ (List.mem_append_right _ h)) (by decide +kernel))) (goodIn_sub (fun _ h => List.mem_cons_of_mem _ (List.mem_append_left _ (List.mem_append_right _ h))) (by decide +kernel))
set_option maxRecDepth 20000 in
theorem gL_areTrialsSo_X5_person : GoodIn wsL_areTrialsSo (wsV RL 53 RX5 yX5_person wsX5_person) := goodIn_app (goodIn_of _ (by decide +kernel)) ggL_areTrialsSo_X5_person
theorem dL_areTrialsSo_0 : decode cL_areTrialsSo 0 = .ok (.aload_n 0, 1) := by decide +kernel
theorem dL_areTrialsSo_1 : decode cL_areTrialsSo 1 = .ok (.iload_n 1, 1) := by decide +kernel
theorem dL_areTrialsSo_2 : decode cL_areTrialsSo 2 = .ok (.invokevirtual 62, 3) := by decide +kernel
theorem dL_areTrialsSo_5 : decode cL_areTrialsSo 5 = .ok (.istore_n 2, 1) := by decide +kernel
theorem dL_areTrialsSo_6 : decode cL_areTrialsSo 6 = .ok (.aload_n 0, 1) := by decide +kernel
theorem dL_areTrialsSo_7 : decode cL_areTrialsSo 7 = .ok (.iload_n 1, 1) := by decide +kernel
theorem dL_areTrialsSo_8 : decode cL_areTrialsSo 8 = .ok (.invokevirtual 65, 3) := by decide +kernel
theorem dL_areTrialsSo_11 : decode cL_areTrialsSo 11 = .ok (.istore_n 3, 1) := by decide +kernel
theorem dL_areTrialsSo_12 : decode cL_areTrialsSo 12 = .ok (.aload_n 0, 1) := by decide +kernel
theorem dL_areTrialsSo_13 : decode cL_areTrialsSo 13 = .ok (.iload_n 1, 1) := by decide +kernel
theorem dL_areTrialsSo_14 : decode cL_areTrialsSo 14 = .ok (.invokevirtual 68, 3) := by decide +kernel
theorem dL_areTrialsSo_17 : decode cL_areTrialsSo 17 = .ok (.istore 4, 2) := by decide +kernel
theorem dL_areTrialsSo_19 : decode cL_areTrialsSo 19 = .ok (.aload_n 0, 1) := by decide +kernel
theorem dL_areTrialsSo_20 : decode cL_areTrialsSo 20 = .ok (.iload_n 1, 1) := by decide +kernel
theorem dL_areTrialsSo_21 : decode cL_areTrialsSo 21 = .ok (.bipush 6, 2) := by decide +kernel
theorem dL_areTrialsSo_23 : decode cL_areTrialsSo 23 = .ok (.invokevirtual 50, 3) := by decide +kernel
theorem dL_areTrialsSo_26 : decode cL_areTrialsSo 26 = .ok (.istore 5, 2) := by decide +kernel
theorem dL_areTrialsSo_28 : decode cL_areTrialsSo 28 = .ok (.aload_n 0, 1) := by decide +kernel
theorem dL_areTrialsSo_29 : decode cL_areTrialsSo 29 = .ok (.iload_n 1, 1) := by decide +kernel
theorem dL_areTrialsSo_30 : decode cL_areTrialsSo 30 = .ok (.invokevirtual 71, 3) := by decide +kernel
theorem dL_areTrialsSo_33 : decode cL_areTrialsSo 33 = .ok (.istore 6, 2) := by decide +kernel
theorem dL_areTrialsSo_35 : decode cL_areTrialsSo 35 = .ok (.aload_n 0, 1) := by decide +kernel
theorem dL_areTrialsSo_36 : decode cL_areTrialsSo 36 = .ok (.iload_n 1, 1) := by decide +kernel
theorem dL_areTrialsSo_37 : decode cL_areTrialsSo 37 = .ok (.bipush 10, 2) := by decide +kernel
theorem dL_areTrialsSo_39 : decode cL_areTrialsSo 39 = .ok (.invokevirtual 50, 3) := by decide +kernel
theorem dL_areTrialsSo_42 : decode cL_areTrialsSo 42 = .ok (.iconst 1, 1) := by decide +kernel
theorem dL_areTrialsSo_43 : decode cL_areTrialsSo 43 = .ok (.if_icmp .ne 7, 3) := by decide +kernel
theorem dL_areTrialsSo_46 : decode cL_areTrialsSo 46 = .ok (.iconst 1, 1) := by decide +kernel
theorem dL_areTrialsSo_47 : decode cL_areTrialsSo 47 = .ok (.goto 4, 3) := by decide +kernel
theorem dL_areTrialsSo_50 : decode cL_areTrialsSo 50 = .ok (.iconst 0, 1) := by decide +kernel
theorem dL_areTrialsSo_51 : decode cL_areTrialsSo 51 = .ok (.istore 7, 2) := by decide +kernel
theorem dL_areTrialsSo_53 : decode cL_areTrialsSo 53 = .ok (.iload_n 2, 1) := by decide +kernel
theorem dL_areTrialsSo_54 : decode cL_areTrialsSo 54 = .ok (.iconst (-1), 1) := by decide +kernel
theorem dL_areTrialsSo_55 : decode cL_areTrialsSo 55 = .ok (.if_icmp .lt 151, 3) := by decide +kernel
theorem dL_areTrialsSo_58 : decode cL_areTrialsSo 58 = .ok (.iload_n 2, 1) := by decide +kernel
theorem dL_areTrialsSo_59 : decode cL_areTrialsSo 59 = .ok (.sipush 200, 3) := by decide +kernel
theorem dL_areTrialsSo_62 : decode cL_areTrialsSo 62 = .ok (.if_icmp .gt 144, 3) := by decide +kernel
theorem dL_areTrialsSo_65 : decode cL_areTrialsSo 65 = .ok (.iload 7, 2) := by decide +kernel
theorem dL_areTrialsSo_67 : decode cL_areTrialsSo 67 = .ok (.ifCond .eq 20, 3) := by decide +kernel
theorem dL_areTrialsSo_70 : decode cL_areTrialsSo 70 = .ok (.iload_n 2, 1) := by decide +kernel
theorem dL_areTrialsSo_71 : decode cL_areTrialsSo 71 = .ok (.ifCond .lt 135, 3) := by decide +kernel
theorem dL_areTrialsSo_74 : decode cL_areTrialsSo 74 = .ok (.iload_n 2, 1) := by decide +kernel
theorem dL_areTrialsSo_75 : decode cL_areTrialsSo 75 = .ok (.aload_n 0, 1) := by decide +kernel
theorem dL_areTrialsSo_76 : decode cL_areTrialsSo 76 = .ok (.iload_n 1, 1) := by decide +kernel
theorem dL_areTrialsSo_77 : decode cL_areTrialsSo 77 = .ok (.iconst 5, 1) := by decide +kernel
theorem dL_areTrialsSo_78 : decode cL_areTrialsSo 78 = .ok (.invokevirtual 50, 3) := by decide +kernel
theorem dL_areTrialsSo_81 : decode cL_areTrialsSo 81 = .ok (.if_icmp .gt 125, 3) := by decide +kernel
theorem dL_areTrialsSo_84 : decode cL_areTrialsSo 84 = .ok (.goto 18, 3) := by decide +kernel
theorem dL_areTrialsSo_87 : decode cL_areTrialsSo 87 = .ok (.iload_n 2, 1) := by decide +kernel
theorem dL_areTrialsSo_88 : decode cL_areTrialsSo 88 = .ok (.iconst (-1), 1) := by decide +kernel
theorem dL_areTrialsSo_89 : decode cL_areTrialsSo 89 = .ok (.if_icmp .eq 13, 3) := by decide +kernel
theorem dL_areTrialsSo_92 : decode cL_areTrialsSo 92 = .ok (.iload_n 2, 1) := by decide +kernel
theorem dL_areTrialsSo_93 : decode cL_areTrialsSo 93 = .ok (.aload_n 0, 1) := by decide +kernel
theorem dL_areTrialsSo_94 : decode cL_areTrialsSo 94 = .ok (.iload_n 1, 1) := by decide +kernel
theorem dL_areTrialsSo_95 : decode cL_areTrialsSo 95 = .ok (.iconst 5, 1) := by decide +kernel
theorem dL_areTrialsSo_96 : decode cL_areTrialsSo 96 = .ok (.invokevirtual 50, 3) := by decide +kernel
theorem dL_areTrialsSo_99 : decode cL_areTrialsSo 99 = .ok (.if_icmp .le 107, 3) := by decide +kernel
theorem dL_areTrialsSo_102 : decode cL_areTrialsSo 102 = .ok (.iload_n 3, 1) := by decide +kernel
theorem dL_areTrialsSo_103 : decode cL_areTrialsSo 103 = .ok (.aload_n 0, 1) := by decide +kernel
theorem dL_areTrialsSo_104 : decode cL_areTrialsSo 104 = .ok (.iload_n 1, 1) := by decide +kernel
theorem dL_areTrialsSo_105 : decode cL_areTrialsSo 105 = .ok (.iconst 4, 1) := by decide +kernel
theorem dL_areTrialsSo_106 : decode cL_areTrialsSo 106 = .ok (.invokevirtual 50, 3) := by decide +kernel
theorem dL_areTrialsSo_109 : decode cL_areTrialsSo 109 = .ok (.ishr, 1) := by decide +kernel
theorem dL_areTrialsSo_110 : decode cL_areTrialsSo 110 = .ok (.iconst 1, 1) := by decide +kernel
theorem dL_areTrialsSo_111 : decode cL_areTrialsSo 111 = .ok (.iand, 1) := by decide +kernel
theorem dL_areTrialsSo_112 : decode cL_areTrialsSo 112 = .ok (.iload 7, 2) := by decide +kernel
theorem dL_areTrialsSo_114 : decode cL_areTrialsSo 114 = .ok (.ifCond .eq 7, 3) := by decide +kernel
theorem dL_areTrialsSo_117 : decode cL_areTrialsSo 117 = .ok (.iconst 1, 1) := by decide +kernel
theorem dL_areTrialsSo_118 : decode cL_areTrialsSo 118 = .ok (.goto 4, 3) := by decide +kernel
theorem dL_areTrialsSo_121 : decode cL_areTrialsSo 121 = .ok (.iconst 0, 1) := by decide +kernel
theorem dL_areTrialsSo_122 : decode cL_areTrialsSo 122 = .ok (.if_icmp .ne 84, 3) := by decide +kernel
theorem dL_areTrialsSo_125 : decode cL_areTrialsSo 125 = .ok (.iload_n 3, 1) := by decide +kernel
theorem dL_areTrialsSo_126 : decode cL_areTrialsSo 126 = .ok (.iconst 2, 1) := by decide +kernel
theorem dL_areTrialsSo_127 : decode cL_areTrialsSo 127 = .ok (.iand, 1) := by decide +kernel
theorem dL_areTrialsSo_128 : decode cL_areTrialsSo 128 = .ok (.ifCond .eq 9, 3) := by decide +kernel
theorem dL_areTrialsSo_131 : decode cL_areTrialsSo 131 = .ok (.iload_n 3, 1) := by decide +kernel
theorem dL_areTrialsSo_132 : decode cL_areTrialsSo 132 = .ok (.iconst 4, 1) := by decide +kernel
theorem dL_areTrialsSo_133 : decode cL_areTrialsSo 133 = .ok (.iand, 1) := by decide +kernel
theorem dL_areTrialsSo_134 : decode cL_areTrialsSo 134 = .ok (.ifCond .eq 72, 3) := by decide +kernel
theorem dL_areTrialsSo_137 : decode cL_areTrialsSo 137 = .ok (.iload_n 3, 1) := by decide +kernel
theorem dL_areTrialsSo_138 : decode cL_areTrialsSo 138 = .ok (.iconst 1, 1) := by decide +kernel
theorem dL_areTrialsSo_139 : decode cL_areTrialsSo 139 = .ok (.iand, 1) := by decide +kernel
theorem dL_areTrialsSo_140 : decode cL_areTrialsSo 140 = .ok (.ifCond .eq 9, 3) := by decide +kernel
theorem dL_areTrialsSo_143 : decode cL_areTrialsSo 143 = .ok (.iload_n 3, 1) := by decide +kernel
theorem dL_areTrialsSo_144 : decode cL_areTrialsSo 144 = .ok (.bipush 15, 2) := by decide +kernel
theorem dL_areTrialsSo_146 : decode cL_areTrialsSo 146 = .ok (.if_icmp .ne 60, 3) := by decide +kernel
theorem dL_areTrialsSo_149 : decode cL_areTrialsSo 149 = .ok (.iload 4, 2) := by decide +kernel
theorem dL_areTrialsSo_151 : decode cL_areTrialsSo 151 = .ok (.iconst (-1), 1) := by decide +kernel
theorem dL_areTrialsSo_152 : decode cL_areTrialsSo 152 = .ok (.if_icmp .eq 24, 3) := by decide +kernel
theorem dL_areTrialsSo_155 : decode cL_areTrialsSo 155 = .ok (.iload 4, 2) := by decide +kernel
theorem dL_areTrialsSo_157 : decode cL_areTrialsSo 157 = .ok (.bipush 10, 2) := by decide +kernel
theorem dL_areTrialsSo_159 : decode cL_areTrialsSo 159 = .ok (.if_icmp .lt 47, 3) := by decide +kernel
theorem dL_areTrialsSo_162 : decode cL_areTrialsSo 162 = .ok (.iload 4, 2) := by decide +kernel
theorem dL_areTrialsSo_164 : decode cL_areTrialsSo 164 = .ok (.bipush 100, 2) := by decide +kernel
theorem dL_areTrialsSo_166 : decode cL_areTrialsSo 166 = .ok (.if_icmp .gt 40, 3) := by decide +kernel
theorem dL_areTrialsSo_169 : decode cL_areTrialsSo 169 = .ok (.iload 4, 2) := by decide +kernel
theorem dL_areTrialsSo_171 : decode cL_areTrialsSo 171 = .ok (.iconst 5, 1) := by decide +kernel
theorem dL_areTrialsSo_172 : decode cL_areTrialsSo 172 = .ok (.irem, 1) := by decide +kernel
theorem dL_areTrialsSo_173 : decode cL_areTrialsSo 173 = .ok (.ifCond .ne 33, 3) := by decide +kernel
theorem dL_areTrialsSo_176 : decode cL_areTrialsSo 176 = .ok (.iload 5, 2) := by decide +kernel
theorem dL_areTrialsSo_178 : decode cL_areTrialsSo 178 = .ok (.ifCond .ne 12, 3) := by decide +kernel
theorem dL_areTrialsSo_181 : decode cL_areTrialsSo 181 = .ok (.iload 6, 2) := by decide +kernel
theorem dL_areTrialsSo_183 : decode cL_areTrialsSo 183 = .ok (.iconst (-1), 1) := by decide +kernel
theorem dL_areTrialsSo_184 : decode cL_areTrialsSo 184 = .ok (.if_icmp .ne 22, 3) := by decide +kernel
theorem dL_areTrialsSo_187 : decode cL_areTrialsSo 187 = .ok (.goto 15, 3) := by decide +kernel
theorem dL_areTrialsSo_190 : decode cL_areTrialsSo 190 = .ok (.iload 6, 2) := by decide +kernel
theorem dL_areTrialsSo_192 : decode cL_areTrialsSo 192 = .ok (.ifCond .lt 14, 3) := by decide +kernel
theorem dL_areTrialsSo_195 : decode cL_areTrialsSo 195 = .ok (.iload 6, 2) := by decide +kernel
theorem dL_areTrialsSo_197 : decode cL_areTrialsSo 197 = .ok (.iload 5, 2) := by decide +kernel
theorem dL_areTrialsSo_199 : decode cL_areTrialsSo 199 = .ok (.if_icmp .ge 7, 3) := by decide +kernel
theorem dL_areTrialsSo_202 : decode cL_areTrialsSo 202 = .ok (.iconst 1, 1) := by decide +kernel
theorem dL_areTrialsSo_203 : decode cL_areTrialsSo 203 = .ok (.goto 4, 3) := by decide +kernel
theorem dL_areTrialsSo_206 : decode cL_areTrialsSo 206 = .ok (.iconst 0, 1) := by decide +kernel
theorem dL_areTrialsSo_207 : decode cL_areTrialsSo 207 = .ok (.istore 8, 2) := by decide +kernel
theorem dL_areTrialsSo_209 : decode cL_areTrialsSo 209 = .ok (.iconst 0, 1) := by decide +kernel
theorem dL_areTrialsSo_210 : decode cL_areTrialsSo 210 = .ok (.istore 9, 2) := by decide +kernel
theorem dL_areTrialsSo_212 : decode cL_areTrialsSo 212 = .ok (.iload 9, 2) := by decide +kernel
theorem dL_areTrialsSo_214 : decode cL_areTrialsSo 214 = .ok (.iload 5, 2) := by decide +kernel
theorem dL_areTrialsSo_216 : decode cL_areTrialsSo 216 = .ok (.if_icmp .ge 51, 3) := by decide +kernel
theorem dL_areTrialsSo_219 : decode cL_areTrialsSo 219 = .ok (.iload 8, 2) := by decide +kernel
theorem dL_areTrialsSo_221 : decode cL_areTrialsSo 221 = .ok (.ifCond .eq 37, 3) := by decide +kernel
theorem dL_areTrialsSo_224 : decode cL_areTrialsSo 224 = .ok (.aload_n 0, 1) := by decide +kernel
theorem dL_areTrialsSo_225 : decode cL_areTrialsSo 225 = .ok (.iload_n 1, 1) := by decide +kernel
theorem dL_areTrialsSo_226 : decode cL_areTrialsSo 226 = .ok (.iload 9, 2) := by decide +kernel
theorem dL_areTrialsSo_228 : decode cL_areTrialsSo 228 = .ok (.invokevirtual 74, 3) := by decide +kernel
theorem dL_areTrialsSo_231 : decode cL_areTrialsSo 231 = .ok (.aload_n 0, 1) := by decide +kernel
theorem dL_areTrialsSo_232 : decode cL_areTrialsSo 232 = .ok (.iload_n 1, 1) := by decide +kernel
theorem dL_areTrialsSo_233 : decode cL_areTrialsSo 233 = .ok (.iload 9, 2) := by decide +kernel
theorem dL_areTrialsSo_235 : decode cL_areTrialsSo 235 = .ok (.iconst 1, 1) := by decide +kernel
theorem dL_areTrialsSo_236 : decode cL_areTrialsSo 236 = .ok (.invokevirtual 53, 3) := by decide +kernel
theorem dL_areTrialsSo_239 : decode cL_areTrialsSo 239 = .ok (.if_icmp .lt 19, 3) := by decide +kernel
theorem dL_areTrialsSo_242 : decode cL_areTrialsSo 242 = .ok (.aload_n 0, 1) := by decide +kernel
theorem dL_areTrialsSo_243 : decode cL_areTrialsSo 243 = .ok (.iload_n 1, 1) := by decide +kernel
theorem dL_areTrialsSo_244 : decode cL_areTrialsSo 244 = .ok (.iload 9, 2) := by decide +kernel
theorem dL_areTrialsSo_246 : decode cL_areTrialsSo 246 = .ok (.invokevirtual 74, 3) := by decide +kernel
theorem dL_areTrialsSo_249 : decode cL_areTrialsSo 249 = .ok (.bipush 11, 2) := by decide +kernel
theorem dL_areTrialsSo_251 : decode cL_areTrialsSo 251 = .ok (.if_icmp .ge 7, 3) := by decide +kernel
theorem dL_areTrialsSo_254 : decode cL_areTrialsSo 254 = .ok (.iconst 1, 1) := by decide +kernel
theorem dL_areTrialsSo_255 : decode cL_areTrialsSo 255 = .ok (.goto 4, 3) := by decide +kernel
theorem dL_areTrialsSo_258 : decode cL_areTrialsSo 258 = .ok (.iconst 0, 1) := by decide +kernel
theorem dL_areTrialsSo_259 : decode cL_areTrialsSo 259 = .ok (.istore 8, 2) := by decide +kernel
theorem dL_areTrialsSo_261 : decode cL_areTrialsSo 261 = .ok (.iinc 9 1, 3) := by decide +kernel
theorem dL_areTrialsSo_264 : decode cL_areTrialsSo 264 = .ok (.goto (-52), 3) := by decide +kernel
theorem dL_areTrialsSo_267 : decode cL_areTrialsSo 267 = .ok (.iload 8, 2) := by decide +kernel
theorem dL_areTrialsSo_269 : decode cL_areTrialsSo 269 = .ok (.ifCond .eq 28, 3) := by decide +kernel
theorem dL_areTrialsSo_272 : decode cL_areTrialsSo 272 = .ok (.aload_n 0, 1) := by decide +kernel
theorem dL_areTrialsSo_273 : decode cL_areTrialsSo 273 = .ok (.iload_n 1, 1) := by decide +kernel
theorem dL_areTrialsSo_274 : decode cL_areTrialsSo 274 = .ok (.iconst 0, 1) := by decide +kernel
theorem dL_areTrialsSo_275 : decode cL_areTrialsSo 275 = .ok (.invokevirtual 50, 3) := by decide +kernel
theorem dL_areTrialsSo_278 : decode cL_areTrialsSo 278 = .ok (.iconst 5, 1) := by decide +kernel
theorem dL_areTrialsSo_279 : decode cL_areTrialsSo 279 = .ok (.irem, 1) := by decide +kernel
theorem dL_areTrialsSo_280 : decode cL_areTrialsSo 280 = .ok (.ifCond .ne 13, 3) := by decide +kernel
theorem dL_areTrialsSo_283 : decode cL_areTrialsSo 283 = .ok (.iload 7, 2) := by decide +kernel
theorem dL_areTrialsSo_285 : decode cL_areTrialsSo 285 = .ok (.ifCond .eq 8, 3) := by decide +kernel
theorem dL_areTrialsSo_288 : decode cL_areTrialsSo 288 = .ok (.iload 4, 2) := by decide +kernel
theorem dL_areTrialsSo_290 : decode cL_areTrialsSo 290 = .ok (.ifCond .le 7, 3) := by decide +kernel
theorem dL_areTrialsSo_293 : decode cL_areTrialsSo 293 = .ok (.iconst 1, 1) := by decide +kernel
theorem dL_areTrialsSo_294 : decode cL_areTrialsSo 294 = .ok (.goto 4, 3) := by decide +kernel
theorem dL_areTrialsSo_297 : decode cL_areTrialsSo 297 = .ok (.iconst 0, 1) := by decide +kernel
theorem dL_areTrialsSo_298 : decode cL_areTrialsSo 298 = .ok (.ireturn, 1) := by decide +kernel
set_option maxRecDepth 20000 in
theorem ggL_areSums_X5_ladder : GoodIn wsL_areSums wsX5_ladder := goodIn_ca (goodIn_ca (goodIn_r _ [5, 6, 7, 8, 9, 10, 11, 12, 13, 14, 15, 16, 17, 18, 4, 19, 20, 21, 22, 23, 24, 25, 26, 27, 28, 29, 30, 31, 32, 33, 34, 35, 36, 37, 38, 39, 40, 41, 42, 43, 44, 45, 46, 47, 48, 49, 50, 51, 52, 53, 54, 55, 56, 57, 58, 59, 60, 61, 62, 63, 64, 65, 66, 67, 68, 69, 70, 71, 72, 73, 74, 75, 76, 77, 78, 129, 130, 131, 132, 133, 134, 135, 136, 137, 138, 139, 140, 141, 142, 143, 144, 145] (by decide +kernel) (by decide +kernel)) (goodIn_sub (fun _ h => List.mem_cons_of_mem _ (List.mem_append_left _ (List.mem_append_right _ h))) (by decide +kernel))) (goodIn_sub (fun _ h => List.mem_cons_of_mem _ (List.mem_append_right _ h)) (by decide +kernel))
set_option maxRecDepth 20000 in
theorem gL_areSums_X5_ladder : GoodIn wsL_areSums (wsV RL 50 RX5 yX5_ladder wsX5_ladder) := goodIn_app (goodIn_of _ (by decide +kernel)) ggL_areSums_X5_ladder
set_option maxRecDepth 20000 in
theorem ggL_areSums_X5_person : GoodIn wsL_areSums wsX5_person := goodIn_ca (goodIn_ca (goodIn_r _ [82, 6, 7, 16, 17, 18, 4, 19, 20, 21, 22, 23, 83, 84, 85, 86, 87, 88, 27, 89, 90, 91, 92, 93, 94, 30, 95, 96, 97, 98, 99, 35, 139, 140, 141, 142, 143, 144, 145, 129, 130, 131, 132, 133, 134, 135, 136, 137, 138] (by decide +kernel) (by decide +kernel)) (goodIn_sub (fun _ h => List.mem_cons_of_mem _ (List.mem_append_left _ (List.mem_append_right _ h))) (by decide +kernel))) (goodIn_sub (fun _ h => List.mem_cons_of_mem _ (List.mem_append_right _ h)) (by decide +kernel))
set_option maxRecDepth 20000 in
theorem gL_areSums_X5_person : GoodIn wsL_areSums (wsV RL 53 RX5 yX5_person wsX5_person) := goodIn_app (goodIn_of _ (by decide +kernel)) ggL_areSums_X5_person
set_option maxRecDepth 20000 in
theorem ggL_areSums_X5_count : GoodIn wsL_areSums wsX5_count := goodIn_ca (goodIn_r _ [103, 6, 7, 22, 104, 105, 106, 107, 108, 109, 110, 111, 112, 113, 114, 38, 39, 27, 40, 41, 42, 43, 44, 45, 46, 47, 48, 49, 50, 51, 52, 53, 54, 36, 55, 56, 57, 58, 59, 32, 33, 34, 29, 35, 30, 60, 61, 62, 63, 64, 65, 66, 67, 68, 69, 70, 71, 72, 73, 74, 25, 26, 28, 75, 76, 77, 78, 115, 116, 117, 118, 119, 120, 121, 122, 123, 124, 139, 140, 141, 142, 143, 144, 145, 146, 147, 148, 129, 130, 131, 132, 133, 134, 135, 136, 137, 138] (by decide +kernel) (by decide +kernel)) (goodIn_sub (fun _ h => List.mem_cons_of_mem _ (List.mem_append_left _ (List.mem_append_right _ h))) (by decide +kernel))
set_option maxRecDepth 20000 in
theorem gL_areSums_X5_count : GoodIn wsL_areSums (wsV RL 46 RX5 yX5_count wsX5_count) := goodIn_app (goodIn_of _ (by decide +kernel)) ggL_areSums_X5_count
set_option maxRecDepth 20000 in
theorem ggL_areSums_X5_safety : GoodIn wsL_areSums wsX5_safety := goodIn_r _ [128, 22, 104, 115, 116, 117, 111, 118, 113, 119, 139, 140, 141, 142, 143, 144, 145, 129, 130, 131, 132, 133, 134, 135, 136, 137, 138] (by decide +kernel) (by decide +kernel)
set_option maxRecDepth 20000 in
theorem gL_areSums_X5_safety : GoodIn wsL_areSums (wsV RL 77 RX5 yX5_safety wsX5_safety) := goodIn_app (goodIn_of _ (by decide +kernel)) ggL_areSums_X5_safety
theorem dL_areSums_0 : decode cL_areSums 0 = .ok (.iconst 0, 1) := by decide +kernel
theorem dL_areSums_1 : decode cL_areSums 1 = .ok (.istore_n 1, 1) := by decide +kernel
theorem dL_areSums_2 : decode cL_areSums 2 = .ok (.iconst 0, 1) := by decide +kernel
theorem dL_areSums_3 : decode cL_areSums 3 = .ok (.istore_n 2, 1) := by decide +kernel
theorem dL_areSums_4 : decode cL_areSums 4 = .ok (.iconst 0, 1) := by decide +kernel
theorem dL_areSums_5 : decode cL_areSums 5 = .ok (.istore_n 3, 1) := by decide +kernel
theorem dL_areSums_6 : decode cL_areSums 6 = .ok (.iconst 1, 1) := by decide +kernel
theorem dL_areSums_7 : decode cL_areSums 7 = .ok (.istore 4, 2) := by decide +kernel
theorem dL_areSums_9 : decode cL_areSums 9 = .ok (.iconst 0, 1) := by decide +kernel
theorem dL_areSums_10 : decode cL_areSums 10 = .ok (.istore 5, 2) := by decide +kernel
theorem dL_areSums_12 : decode cL_areSums 12 = .ok (.iload 5, 2) := by decide +kernel
theorem dL_areSums_14 : decode cL_areSums 14 = .ok (.iconst 4, 1) := by decide +kernel
theorem dL_areSums_15 : decode cL_areSums 15 = .ok (.if_icmp .ge 166, 3) := by decide +kernel
theorem dL_areSums_18 : decode cL_areSums 18 = .ok (.iload_n 1, 1) := by decide +kernel
