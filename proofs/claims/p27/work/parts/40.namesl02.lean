theorem dL_reads_382 : decode cL_reads 382 = .ok (.iload 14, 2) := by decide +kernel
theorem dL_reads_384 : decode cL_reads 384 = .ok (.bipush 10, 2) := by decide +kernel
theorem dL_reads_386 : decode cL_reads 386 = .ok (.idiv, 1) := by decide +kernel
theorem dL_reads_387 : decode cL_reads 387 = .ok (.iadd, 1) := by decide +kernel
theorem dL_reads_388 : decode cL_reads 388 = .ok (.invokevirtual 40, 3) := by decide +kernel
theorem dL_reads_391 : decode cL_reads 391 = .ok (.ifCond .le 22, 3) := by decide +kernel
theorem dL_reads_394 : decode cL_reads 394 = .ok (.aload_n 0, 1) := by decide +kernel
theorem dL_reads_395 : decode cL_reads 395 = .ok (.bipush 48, 2) := by decide +kernel
theorem dL_reads_397 : decode cL_reads 397 = .ok (.iload 14, 2) := by decide +kernel
theorem dL_reads_399 : decode cL_reads 399 = .ok (.bipush 10, 2) := by decide +kernel
theorem dL_reads_401 : decode cL_reads 401 = .ok (.irem, 1) := by decide +kernel
theorem dL_reads_402 : decode cL_reads 402 = .ok (.iadd, 1) := by decide +kernel
theorem dL_reads_403 : decode cL_reads 403 = .ok (.invokevirtual 40, 3) := by decide +kernel
theorem dL_reads_406 : decode cL_reads 406 = .ok (.ifCond .le 7, 3) := by decide +kernel
theorem dL_reads_409 : decode cL_reads 409 = .ok (.iconst 1, 1) := by decide +kernel
theorem dL_reads_410 : decode cL_reads 410 = .ok (.goto 4, 3) := by decide +kernel
theorem dL_reads_413 : decode cL_reads 413 = .ok (.iconst 0, 1) := by decide +kernel
theorem dL_reads_414 : decode cL_reads 414 = .ok (.istore 9, 2) := by decide +kernel
theorem dL_reads_416 : decode cL_reads 416 = .ok (.iload 10, 2) := by decide +kernel
theorem dL_reads_418 : decode cL_reads 418 = .ok (.ifCond .eq 38, 3) := by decide +kernel
theorem dL_reads_421 : decode cL_reads 421 = .ok (.aload_n 3, 1) := by decide +kernel
theorem dL_reads_422 : decode cL_reads 422 = .ok (.iconst 4, 1) := by decide +kernel
theorem dL_reads_423 : decode cL_reads 423 = .ok (.iload 7, 2) := by decide +kernel
theorem dL_reads_425 : decode cL_reads 425 = .ok (.imul, 1) := by decide +kernel
theorem dL_reads_426 : decode cL_reads 426 = .ok (.iload 11, 2) := by decide +kernel
theorem dL_reads_428 : decode cL_reads 428 = .ok (.iadd, 1) := by decide +kernel
theorem dL_reads_429 : decode cL_reads 429 = .ok (.iload 12, 2) := by decide +kernel
theorem dL_reads_431 : decode cL_reads 431 = .ok (.iastore, 1) := by decide +kernel
theorem dL_reads_432 : decode cL_reads 432 = .ok (.aload 4, 2) := by decide +kernel
theorem dL_reads_434 : decode cL_reads 434 = .ok (.iconst 4, 1) := by decide +kernel
theorem dL_reads_435 : decode cL_reads 435 = .ok (.iload 7, 2) := by decide +kernel
theorem dL_reads_437 : decode cL_reads 437 = .ok (.imul, 1) := by decide +kernel
theorem dL_reads_438 : decode cL_reads 438 = .ok (.iload 11, 2) := by decide +kernel
theorem dL_reads_440 : decode cL_reads 440 = .ok (.iadd, 1) := by decide +kernel
theorem dL_reads_441 : decode cL_reads 441 = .ok (.iload 13, 2) := by decide +kernel
theorem dL_reads_443 : decode cL_reads 443 = .ok (.iastore, 1) := by decide +kernel
theorem dL_reads_444 : decode cL_reads 444 = .ok (.aload 5, 2) := by decide +kernel
theorem dL_reads_446 : decode cL_reads 446 = .ok (.iconst 4, 1) := by decide +kernel
theorem dL_reads_447 : decode cL_reads 447 = .ok (.iload 7, 2) := by decide +kernel
theorem dL_reads_449 : decode cL_reads 449 = .ok (.imul, 1) := by decide +kernel
theorem dL_reads_450 : decode cL_reads 450 = .ok (.iload 11, 2) := by decide +kernel
theorem dL_reads_452 : decode cL_reads 452 = .ok (.iadd, 1) := by decide +kernel
theorem dL_reads_453 : decode cL_reads 453 = .ok (.iload 14, 2) := by decide +kernel
theorem dL_reads_455 : decode cL_reads 455 = .ok (.iastore, 1) := by decide +kernel
theorem dL_reads_456 : decode cL_reads 456 = .ok (.iinc 11 1, 3) := by decide +kernel
theorem dL_reads_459 : decode cL_reads 459 = .ok (.goto (-410), 3) := by decide +kernel
theorem dL_reads_462 : decode cL_reads 462 = .ok (.iload 8, 2) := by decide +kernel
theorem dL_reads_464 : decode cL_reads 464 = .ok (.istore 11, 2) := by decide +kernel
theorem dL_reads_466 : decode cL_reads 466 = .ok (.iload 11, 2) := by decide +kernel
theorem dL_reads_468 : decode cL_reads 468 = .ok (.iconst 4, 1) := by decide +kernel
theorem dL_reads_469 : decode cL_reads 469 = .ok (.if_icmp .ge 46, 3) := by decide +kernel
theorem dL_reads_472 : decode cL_reads 472 = .ok (.iload 10, 2) := by decide +kernel
theorem dL_reads_474 : decode cL_reads 474 = .ok (.ifCond .eq 41, 3) := by decide +kernel
theorem dL_reads_477 : decode cL_reads 477 = .ok (.aload_n 3, 1) := by decide +kernel
theorem dL_reads_478 : decode cL_reads 478 = .ok (.iconst 4, 1) := by decide +kernel
theorem dL_reads_479 : decode cL_reads 479 = .ok (.iload 7, 2) := by decide +kernel
theorem dL_reads_481 : decode cL_reads 481 = .ok (.imul, 1) := by decide +kernel
theorem dL_reads_482 : decode cL_reads 482 = .ok (.iload 11, 2) := by decide +kernel
theorem dL_reads_484 : decode cL_reads 484 = .ok (.iadd, 1) := by decide +kernel
theorem dL_reads_485 : decode cL_reads 485 = .ok (.iconst 0, 1) := by decide +kernel
theorem dL_reads_486 : decode cL_reads 486 = .ok (.iastore, 1) := by decide +kernel
theorem dL_reads_487 : decode cL_reads 487 = .ok (.aload 4, 2) := by decide +kernel
theorem dL_reads_489 : decode cL_reads 489 = .ok (.iconst 4, 1) := by decide +kernel
theorem dL_reads_490 : decode cL_reads 490 = .ok (.iload 7, 2) := by decide +kernel
theorem dL_reads_492 : decode cL_reads 492 = .ok (.imul, 1) := by decide +kernel
theorem dL_reads_493 : decode cL_reads 493 = .ok (.iload 11, 2) := by decide +kernel
theorem dL_reads_495 : decode cL_reads 495 = .ok (.iadd, 1) := by decide +kernel
theorem dL_reads_496 : decode cL_reads 496 = .ok (.iconst 0, 1) := by decide +kernel
theorem dL_reads_497 : decode cL_reads 497 = .ok (.iastore, 1) := by decide +kernel
theorem dL_reads_498 : decode cL_reads 498 = .ok (.aload 5, 2) := by decide +kernel
theorem dL_reads_500 : decode cL_reads 500 = .ok (.iconst 4, 1) := by decide +kernel
theorem dL_reads_501 : decode cL_reads 501 = .ok (.iload 7, 2) := by decide +kernel
theorem dL_reads_503 : decode cL_reads 503 = .ok (.imul, 1) := by decide +kernel
theorem dL_reads_504 : decode cL_reads 504 = .ok (.iload 11, 2) := by decide +kernel
theorem dL_reads_506 : decode cL_reads 506 = .ok (.iadd, 1) := by decide +kernel
theorem dL_reads_507 : decode cL_reads 507 = .ok (.iconst 0, 1) := by decide +kernel
theorem dL_reads_508 : decode cL_reads 508 = .ok (.iastore, 1) := by decide +kernel
theorem dL_reads_509 : decode cL_reads 509 = .ok (.iinc 11 1, 3) := by decide +kernel
theorem dL_reads_512 : decode cL_reads 512 = .ok (.goto (-46), 3) := by decide +kernel
theorem dL_reads_515 : decode cL_reads 515 = .ok (.iconst 3, 1) := by decide +kernel
theorem dL_reads_516 : decode cL_reads 516 = .ok (.newarray .long, 2) := by decide +kernel
theorem dL_reads_518 : decode cL_reads 518 = .ok (.astore 11, 2) := by decide +kernel
theorem dL_reads_520 : decode cL_reads 520 = .ok (.iload 9, 2) := by decide +kernel
theorem dL_reads_522 : decode cL_reads 522 = .ok (.ifCond .eq 55, 3) := by decide +kernel
theorem dL_reads_525 : decode cL_reads 525 = .ok (.aload_n 0, 1) := by decide +kernel
theorem dL_reads_526 : decode cL_reads 526 = .ok (.iconst 0, 1) := by decide +kernel
theorem dL_reads_527 : decode cL_reads 527 = .ok (.invokevirtual 44, 3) := by decide +kernel
theorem dL_reads_530 : decode cL_reads 530 = .ok (.bipush (-14), 2) := by decide +kernel
theorem dL_reads_532 : decode cL_reads 532 = .ok (.if_icmp .ne 45, 3) := by decide +kernel
theorem dL_reads_535 : decode cL_reads 535 = .ok (.aload_n 0, 1) := by decide +kernel
theorem dL_reads_536 : decode cL_reads 536 = .ok (.iload 7, 2) := by decide +kernel
theorem dL_reads_538 : decode cL_reads 538 = .ok (.invokevirtual 47, 3) := by decide +kernel
theorem dL_reads_541 : decode cL_reads 541 = .ok (.iload 10, 2) := by decide +kernel
theorem dL_reads_543 : decode cL_reads 543 = .ok (.ifCond .eq 18, 3) := by decide +kernel
theorem dL_reads_546 : decode cL_reads 546 = .ok (.aload_n 1, 1) := by decide +kernel
theorem dL_reads_547 : decode cL_reads 547 = .ok (.aload_n 2, 1) := by decide +kernel
theorem dL_reads_548 : decode cL_reads 548 = .ok (.aload_n 3, 1) := by decide +kernel
theorem dL_reads_549 : decode cL_reads 549 = .ok (.aload 4, 2) := by decide +kernel
theorem dL_reads_551 : decode cL_reads 551 = .ok (.aload 5, 2) := by decide +kernel
theorem dL_reads_553 : decode cL_reads 553 = .ok (.aload 11, 2) := by decide +kernel
theorem dL_reads_555 : decode cL_reads 555 = .ok (.invokestatic 50, 3) := by decide +kernel
theorem dL_reads_558 : decode cL_reads 558 = .ok (.goto 5, 3) := by decide +kernel
theorem dL_reads_561 : decode cL_reads 561 = .ok (.bipush (-12), 2) := by decide +kernel
theorem dL_reads_563 : decode cL_reads 563 = .ok (.if_icmp .ne 14, 3) := by decide +kernel
theorem dL_reads_566 : decode cL_reads 566 = .ok (.aload_n 0, 1) := by decide +kernel
theorem dL_reads_567 : decode cL_reads 567 = .ok (.invokevirtual 34, 3) := by decide +kernel
theorem dL_reads_570 : decode cL_reads 570 = .ok (.ifCond .le 7, 3) := by decide +kernel
theorem dL_reads_573 : decode cL_reads 573 = .ok (.iconst 1, 1) := by decide +kernel
theorem dL_reads_574 : decode cL_reads 574 = .ok (.goto 4, 3) := by decide +kernel
theorem dL_reads_577 : decode cL_reads 577 = .ok (.iconst 0, 1) := by decide +kernel
theorem dL_reads_578 : decode cL_reads 578 = .ok (.ireturn, 1) := by decide +kernel
set_option maxRecDepth 20000 in
theorem ggL_drawers_X8_card : GoodIn wsL_drawers wsX8_card := goodIn_r _ [5, 6, 7, 8, 9, 4, 10, 11, 12, 13, 14, 15, 16, 17, 18, 19, 20, 21, 22, 23, 24, 25, 26, 27, 28, 29, 30, 31, 32, 33, 34, 35, 36, 37, 38, 39, 40, 41, 42, 43, 44, 45, 46, 47, 48, 49, 50, 51, 52, 53, 54, 55, 56, 57, 58, 59, 60, 61, 62, 63, 64, 65, 66, 67, 68, 69, 70, 71, 72, 73, 74, 75, 76, 77, 78, 79, 80, 81, 82, 83, 146, 147, 148, 149, 150, 151, 152, 153, 154, 155, 156, 157, 158, 159, 160, 161, 162, 163, 164, 165, 166, 167, 168, 169] (by decide +kernel) (by decide +kernel)
set_option maxRecDepth 20000 in
theorem gL_drawers_X8_card : GoodIn wsL_drawers (wsV RL 54 RX8 yX8_card wsX8_card) := goodIn_app (goodIn_of _ (by decide +kernel)) ggL_drawers_X8_card
set_option maxRecDepth 20000 in
theorem ggL_drawers_X8_columns : GoodIn wsL_drawers wsX8_columns := goodIn_r _ [87, 7, 6, 8, 9, 4, 10, 27, 28, 29, 30, 31, 32, 33, 34, 35, 36, 37, 38, 39, 40, 41, 42, 43, 17, 44, 19, 20, 45, 46, 47, 48, 49, 50, 51, 24, 52, 53, 54, 55, 26, 56, 57, 58, 59, 60, 61, 62, 63, 64, 65, 66, 67, 68, 69, 70, 71, 72, 73, 74, 75, 14, 15, 16, 18, 88, 89, 90, 91, 92, 93, 94, 95, 96, 97, 98, 99, 146, 147, 148, 149, 150, 161, 162, 163, 164, 165, 151, 152, 153, 154, 155, 156, 157, 158, 159, 160, 166, 167, 168, 169] (by decide +kernel) (by decide +kernel)
set_option maxRecDepth 20000 in
theorem gL_drawers_X8_columns : GoodIn wsL_drawers (wsV RL 58 RX8 yX8_columns wsX8_columns) := goodIn_app (goodIn_of _ (by decide +kernel)) ggL_drawers_X8_columns
set_option maxRecDepth 20000 in
theorem ggL_drawers_X8_drop : GoodIn wsL_drawers wsX8_drop := goodIn_r _ [103, 6, 7, 8, 9, 4, 10, 14, 15, 16, 17, 18, 19, 20, 104, 105, 106, 24, 107, 26, 27, 28, 29, 30, 31, 32, 33, 34, 35, 36, 37, 38, 39, 40, 41, 42, 43, 44, 45, 46, 47, 48, 49, 50, 51, 52, 53, 54, 55, 56, 57, 58, 59, 60, 61, 62, 63, 64, 65, 66, 67, 68, 69, 70, 71, 72, 73, 74, 75, 108, 109, 110, 111, 112, 80, 81, 82, 83, 146, 147, 148, 149, 150, 151, 152, 153, 154, 155, 156, 157, 158, 159, 160, 161, 162, 163, 164, 165, 166, 167, 168, 169] (by decide +kernel) (by decide +kernel)
set_option maxRecDepth 20000 in
theorem gL_drawers_X8_drop : GoodIn wsL_drawers (wsV RL 62 RX8 yX8_drop wsX8_drop) := goodIn_app (goodIn_of _ (by decide +kernel)) ggL_drawers_X8_drop
set_option maxRecDepth 20000 in
theorem ggL_drawers_X8_put : GoodIn wsL_drawers wsX8_put := goodIn_r _ [116, 7, 6, 117, 118, 119, 4, 120, 121, 122, 123, 124, 8, 9, 10, 14, 15, 16, 17, 18, 19, 20, 125, 126, 127, 24, 128, 55, 104, 105, 106, 107, 26, 11, 12, 13, 27, 28, 29, 30, 31, 32, 33, 34, 35, 36, 37, 38, 39, 40, 41, 42, 43, 44, 45, 46, 47, 48, 49, 50, 51, 52, 53, 54, 56, 57, 58, 59, 60, 61, 62, 63, 64, 65, 66, 67, 68, 69, 70, 71, 72, 73, 74, 75, 129, 130, 131, 132, 133, 134, 135, 136, 137, 138, 112, 80, 81, 82, 83, 146, 147, 148, 149, 150, 151, 152, 153, 154, 155, 156, 157, 158, 159, 160, 161, 162, 163, 164, 165, 166, 167, 168, 169] (by decide +kernel) (by decide +kernel)
set_option maxRecDepth 20000 in
theorem gL_drawers_X8_put : GoodIn wsL_drawers (wsV RL 65 RX8 yX8_put wsX8_put) := goodIn_app (goodIn_of _ (by decide +kernel)) ggL_drawers_X8_put
set_option maxRecDepth 20000 in
theorem ggL_drawers_L_get : GoodIn wsL_drawers wsL_get := goodIn_r _ [142] (by decide +kernel) (by decide +kernel)
set_option maxRecDepth 20000 in
theorem gL_drawers_L_get : GoodIn wsL_drawers (va_wsS RL 9 yL_get wsL_get) := goodIn_app (goodIn_of _ (by decide +kernel)) ggL_drawers_L_get
set_option maxRecDepth 20000 in
theorem ggL_drawers_L_set : GoodIn wsL_drawers wsL_set := goodIn_r _ [145, 139, 140, 141, 142] (by decide +kernel) (by decide +kernel)
set_option maxRecDepth 20000 in
theorem gL_drawers_L_set : GoodIn wsL_drawers (va_wsS RL 69 yL_set wsL_set) := goodIn_app (goodIn_of _ (by decide +kernel)) ggL_drawers_L_set
theorem dL_drawers_0 : decode cL_drawers 0 = .ok (.iload 7, 2) := by decide +kernel
theorem dL_drawers_2 : decode cL_drawers 2 = .ok (.iconst 2, 1) := by decide +kernel
theorem dL_drawers_3 : decode cL_drawers 3 = .ok (.irem, 1) := by decide +kernel
theorem dL_drawers_4 : decode cL_drawers 4 = .ok (.istore 8, 2) := by decide +kernel
theorem dL_drawers_6 : decode cL_drawers 6 = .ok (.iload 6, 2) := by decide +kernel
theorem dL_drawers_8 : decode cL_drawers 8 = .ok (.ifCond .ne 179, 3) := by decide +kernel
theorem dL_drawers_11 : decode cL_drawers 11 = .ok (.aload_n 1, 1) := by decide +kernel
theorem dL_drawers_12 : decode cL_drawers 12 = .ok (.iconst 2, 1) := by decide +kernel
theorem dL_drawers_13 : decode cL_drawers 13 = .ok (.iload 8, 2) := by decide +kernel
theorem dL_drawers_15 : decode cL_drawers 15 = .ok (.iadd, 1) := by decide +kernel
theorem dL_drawers_16 : decode cL_drawers 16 = .ok (.iaload, 1) := by decide +kernel
theorem dL_drawers_17 : decode cL_drawers 17 = .ok (.istore 9, 2) := by decide +kernel
theorem dL_drawers_19 : decode cL_drawers 19 = .ok (.iload 7, 2) := by decide +kernel
theorem dL_drawers_21 : decode cL_drawers 21 = .ok (.iconst 2, 1) := by decide +kernel
theorem dL_drawers_22 : decode cL_drawers 22 = .ok (.idiv, 1) := by decide +kernel
theorem dL_drawers_23 : decode cL_drawers 23 = .ok (.bipush 7, 2) := by decide +kernel
theorem dL_drawers_25 : decode cL_drawers 25 = .ok (.irem, 1) := by decide +kernel
theorem dL_drawers_26 : decode cL_drawers 26 = .ok (.iconst 1, 1) := by decide +kernel
theorem dL_drawers_27 : decode cL_drawers 27 = .ok (.isub, 1) := by decide +kernel
theorem dL_drawers_28 : decode cL_drawers 28 = .ok (.istore 10, 2) := by decide +kernel
theorem dL_drawers_30 : decode cL_drawers 30 = .ok (.iload 7, 2) := by decide +kernel
theorem dL_drawers_32 : decode cL_drawers 32 = .ok (.bipush 14, 2) := by decide +kernel
theorem dL_drawers_34 : decode cL_drawers 34 = .ok (.idiv, 1) := by decide +kernel
theorem dL_drawers_35 : decode cL_drawers 35 = .ok (.bipush 7, 2) := by decide +kernel
theorem dL_drawers_37 : decode cL_drawers 37 = .ok (.irem, 1) := by decide +kernel
theorem dL_drawers_38 : decode cL_drawers 38 = .ok (.iconst 1, 1) := by decide +kernel
theorem dL_drawers_39 : decode cL_drawers 39 = .ok (.isub, 1) := by decide +kernel
theorem dL_drawers_40 : decode cL_drawers 40 = .ok (.istore 11, 2) := by decide +kernel
theorem dL_drawers_42 : decode cL_drawers 42 = .ok (.iload 7, 2) := by decide +kernel
theorem dL_drawers_44 : decode cL_drawers 44 = .ok (.iconst 3, 1) := by decide +kernel
theorem dL_drawers_45 : decode cL_drawers 45 = .ok (.irem, 1) := by decide +kernel
theorem dL_drawers_46 : decode cL_drawers 46 = .ok (.ifCond .ne 16, 3) := by decide +kernel
theorem dL_drawers_49 : decode cL_drawers 49 = .ok (.iload 7, 2) := by decide +kernel
theorem dL_drawers_51 : decode cL_drawers 51 = .ok (.bipush 98, 2) := by decide +kernel
theorem dL_drawers_53 : decode cL_drawers 53 = .ok (.idiv, 1) := by decide +kernel
theorem dL_drawers_54 : decode cL_drawers 54 = .ok (.bipush 101, 2) := by decide +kernel
theorem dL_drawers_56 : decode cL_drawers 56 = .ok (.irem, 1) := by decide +kernel
theorem dL_drawers_57 : decode cL_drawers 57 = .ok (.iconst 1, 1) := by decide +kernel
theorem dL_drawers_58 : decode cL_drawers 58 = .ok (.isub, 1) := by decide +kernel
theorem dL_drawers_59 : decode cL_drawers 59 = .ok (.goto 10, 3) := by decide +kernel
theorem dL_drawers_62 : decode cL_drawers 62 = .ok (.iload 7, 2) := by decide +kernel
theorem dL_drawers_64 : decode cL_drawers 64 = .ok (.bipush 98, 2) := by decide +kernel
theorem dL_drawers_66 : decode cL_drawers 66 = .ok (.idiv, 1) := by decide +kernel
theorem dL_drawers_67 : decode cL_drawers 67 = .ok (.iconst 4, 1) := by decide +kernel
theorem dL_drawers_68 : decode cL_drawers 68 = .ok (.irem, 1) := by decide +kernel
theorem dL_drawers_69 : decode cL_drawers 69 = .ok (.istore 12, 2) := by decide +kernel
theorem dL_drawers_71 : decode cL_drawers 71 = .ok (.iload 7, 2) := by decide +kernel
theorem dL_drawers_73 : decode cL_drawers 73 = .ok (.bipush 31, 2) := by decide +kernel
theorem dL_drawers_75 : decode cL_drawers 75 = .ok (.idiv, 1) := by decide +kernel
theorem dL_drawers_76 : decode cL_drawers 76 = .ok (.iconst 5, 1) := by decide +kernel
theorem dL_drawers_77 : decode cL_drawers 77 = .ok (.irem, 1) := by decide +kernel
theorem dL_drawers_78 : decode cL_drawers 78 = .ok (.iconst 1, 1) := by decide +kernel
theorem dL_drawers_79 : decode cL_drawers 79 = .ok (.isub, 1) := by decide +kernel
theorem dL_drawers_80 : decode cL_drawers 80 = .ok (.istore 13, 2) := by decide +kernel
theorem dL_drawers_82 : decode cL_drawers 82 = .ok (.iload 9, 2) := by decide +kernel
theorem dL_drawers_84 : decode cL_drawers 84 = .ok (.bipush 12, 2) := by decide +kernel
theorem dL_drawers_86 : decode cL_drawers 86 = .ok (.if_icmp .ne 28, 3) := by decide +kernel
theorem dL_drawers_89 : decode cL_drawers 89 = .ok (.aload_n 0, 1) := by decide +kernel
theorem dL_drawers_90 : decode cL_drawers 90 = .ok (.iload 8, 2) := by decide +kernel
theorem dL_drawers_92 : decode cL_drawers 92 = .ok (.iload 10, 2) := by decide +kernel
theorem dL_drawers_94 : decode cL_drawers 94 = .ok (.iload 11, 2) := by decide +kernel
theorem dL_drawers_96 : decode cL_drawers 96 = .ok (.iload 12, 2) := by decide +kernel
theorem dL_drawers_98 : decode cL_drawers 98 = .ok (.iload 13, 2) := by decide +kernel
theorem dL_drawers_100 : decode cL_drawers 100 = .ok (.invokevirtual 54, 3) := by decide +kernel
theorem dL_drawers_103 : decode cL_drawers 103 = .ok (.bipush (-13), 2) := by decide +kernel
theorem dL_drawers_105 : decode cL_drawers 105 = .ok (.if_icmp .ne 7, 3) := by decide +kernel
theorem dL_drawers_108 : decode cL_drawers 108 = .ok (.iconst 1, 1) := by decide +kernel
theorem dL_drawers_109 : decode cL_drawers 109 = .ok (.goto 4, 3) := by decide +kernel
theorem dL_drawers_112 : decode cL_drawers 112 = .ok (.iconst 0, 1) := by decide +kernel
theorem dL_drawers_113 : decode cL_drawers 113 = .ok (.ireturn, 1) := by decide +kernel
theorem dL_drawers_114 : decode cL_drawers 114 = .ok (.aload_n 2, 1) := by decide +kernel
theorem dL_drawers_115 : decode cL_drawers 115 = .ok (.bipush 12, 2) := by decide +kernel
theorem dL_drawers_117 : decode cL_drawers 117 = .ok (.iload 8, 2) := by decide +kernel
theorem dL_drawers_119 : decode cL_drawers 119 = .ok (.imul, 1) := by decide +kernel
theorem dL_drawers_120 : decode cL_drawers 120 = .ok (.iload 9, 2) := by decide +kernel
theorem dL_drawers_122 : decode cL_drawers 122 = .ok (.iadd, 1) := by decide +kernel
theorem dL_drawers_123 : decode cL_drawers 123 = .ok (.iload 10, 2) := by decide +kernel
theorem dL_drawers_125 : decode cL_drawers 125 = .ok (.iconst 1, 1) := by decide +kernel
theorem dL_drawers_126 : decode cL_drawers 126 = .ok (.iadd, 1) := by decide +kernel
theorem dL_drawers_127 : decode cL_drawers 127 = .ok (.iload 11, 2) := by decide +kernel
theorem dL_drawers_129 : decode cL_drawers 129 = .ok (.iconst 1, 1) := by decide +kernel
theorem dL_drawers_130 : decode cL_drawers 130 = .ok (.iadd, 1) := by decide +kernel
theorem dL_drawers_131 : decode cL_drawers 131 = .ok (.bipush 7, 2) := by decide +kernel
theorem dL_drawers_133 : decode cL_drawers 133 = .ok (.ishl, 1) := by decide +kernel
theorem dL_drawers_134 : decode cL_drawers 134 = .ok (.iadd, 1) := by decide +kernel
theorem dL_drawers_135 : decode cL_drawers 135 = .ok (.iload 12, 2) := by decide +kernel
theorem dL_drawers_137 : decode cL_drawers 137 = .ok (.iconst 1, 1) := by decide +kernel
theorem dL_drawers_138 : decode cL_drawers 138 = .ok (.iadd, 1) := by decide +kernel
theorem dL_drawers_139 : decode cL_drawers 139 = .ok (.bipush 14, 2) := by decide +kernel
theorem dL_drawers_141 : decode cL_drawers 141 = .ok (.ishl, 1) := by decide +kernel
theorem dL_drawers_142 : decode cL_drawers 142 = .ok (.iadd, 1) := by decide +kernel
theorem dL_drawers_143 : decode cL_drawers 143 = .ok (.iload 13, 2) := by decide +kernel
theorem dL_drawers_145 : decode cL_drawers 145 = .ok (.iconst 1, 1) := by decide +kernel
theorem dL_drawers_146 : decode cL_drawers 146 = .ok (.iadd, 1) := by decide +kernel
theorem dL_drawers_147 : decode cL_drawers 147 = .ok (.bipush 21, 2) := by decide +kernel
theorem dL_drawers_149 : decode cL_drawers 149 = .ok (.ishl, 1) := by decide +kernel
theorem dL_drawers_150 : decode cL_drawers 150 = .ok (.iadd, 1) := by decide +kernel
theorem dL_drawers_151 : decode cL_drawers 151 = .ok (.iastore, 1) := by decide +kernel
theorem dL_drawers_152 : decode cL_drawers 152 = .ok (.aload_n 1, 1) := by decide +kernel
theorem dL_drawers_153 : decode cL_drawers 153 = .ok (.iconst 2, 1) := by decide +kernel
theorem dL_drawers_154 : decode cL_drawers 154 = .ok (.iload 8, 2) := by decide +kernel
theorem dL_drawers_156 : decode cL_drawers 156 = .ok (.iadd, 1) := by decide +kernel
theorem dL_drawers_157 : decode cL_drawers 157 = .ok (.dup2, 1) := by decide +kernel
theorem dL_drawers_158 : decode cL_drawers 158 = .ok (.iaload, 1) := by decide +kernel
theorem dL_drawers_159 : decode cL_drawers 159 = .ok (.iconst 1, 1) := by decide +kernel
theorem dL_drawers_160 : decode cL_drawers 160 = .ok (.iadd, 1) := by decide +kernel
theorem dL_drawers_161 : decode cL_drawers 161 = .ok (.iastore, 1) := by decide +kernel
theorem dL_drawers_162 : decode cL_drawers 162 = .ok (.aload_n 0, 1) := by decide +kernel
theorem dL_drawers_163 : decode cL_drawers 163 = .ok (.iload 8, 2) := by decide +kernel
theorem dL_drawers_165 : decode cL_drawers 165 = .ok (.iload 10, 2) := by decide +kernel
theorem dL_drawers_167 : decode cL_drawers 167 = .ok (.iload 11, 2) := by decide +kernel
theorem dL_drawers_169 : decode cL_drawers 169 = .ok (.iload 12, 2) := by decide +kernel
theorem dL_drawers_171 : decode cL_drawers 171 = .ok (.iload 13, 2) := by decide +kernel
theorem dL_drawers_173 : decode cL_drawers 173 = .ok (.invokevirtual 54, 3) := by decide +kernel
theorem dL_drawers_176 : decode cL_drawers 176 = .ok (.iload 9, 2) := by decide +kernel
theorem dL_drawers_178 : decode cL_drawers 178 = .ok (.if_icmp .ne 7, 3) := by decide +kernel
theorem dL_drawers_181 : decode cL_drawers 181 = .ok (.iconst 1, 1) := by decide +kernel
theorem dL_drawers_182 : decode cL_drawers 182 = .ok (.goto 4, 3) := by decide +kernel
theorem dL_drawers_185 : decode cL_drawers 185 = .ok (.iconst 0, 1) := by decide +kernel
theorem dL_drawers_186 : decode cL_drawers 186 = .ok (.ireturn, 1) := by decide +kernel
theorem dL_drawers_187 : decode cL_drawers 187 = .ok (.iload 6, 2) := by decide +kernel
theorem dL_drawers_189 : decode cL_drawers 189 = .ok (.iconst 1, 1) := by decide +kernel
theorem dL_drawers_190 : decode cL_drawers 190 = .ok (.if_icmp .ne 91, 3) := by decide +kernel
theorem dL_drawers_193 : decode cL_drawers 193 = .ok (.aload_n 1, 1) := by decide +kernel
theorem dL_drawers_194 : decode cL_drawers 194 = .ok (.iconst 2, 1) := by decide +kernel
theorem dL_drawers_195 : decode cL_drawers 195 = .ok (.iload 8, 2) := by decide +kernel
theorem dL_drawers_197 : decode cL_drawers 197 = .ok (.iadd, 1) := by decide +kernel
theorem dL_drawers_198 : decode cL_drawers 198 = .ok (.iaload, 1) := by decide +kernel
theorem dL_drawers_199 : decode cL_drawers 199 = .ok (.istore 9, 2) := by decide +kernel
theorem dL_drawers_201 : decode cL_drawers 201 = .ok (.aload_n 1, 1) := by decide +kernel
theorem dL_drawers_202 : decode cL_drawers 202 = .ok (.iload 8, 2) := by decide +kernel
theorem dL_drawers_204 : decode cL_drawers 204 = .ok (.iconst 1, 1) := by decide +kernel
theorem dL_drawers_205 : decode cL_drawers 205 = .ok (.iload 7, 2) := by decide +kernel
theorem dL_drawers_207 : decode cL_drawers 207 = .ok (.iconst 2, 1) := by decide +kernel
theorem dL_drawers_208 : decode cL_drawers 208 = .ok (.idiv, 1) := by decide +kernel
theorem dL_drawers_209 : decode cL_drawers 209 = .ok (.iconst 4, 1) := by decide +kernel
theorem dL_drawers_210 : decode cL_drawers 210 = .ok (.irem, 1) := by decide +kernel
theorem dL_drawers_211 : decode cL_drawers 211 = .ok (.iadd, 1) := by decide +kernel
theorem dL_drawers_212 : decode cL_drawers 212 = .ok (.iastore, 1) := by decide +kernel
theorem dL_drawers_213 : decode cL_drawers 213 = .ok (.aload_n 1, 1) := by decide +kernel
theorem dL_drawers_214 : decode cL_drawers 214 = .ok (.iconst 2, 1) := by decide +kernel
theorem dL_drawers_215 : decode cL_drawers 215 = .ok (.iload 8, 2) := by decide +kernel
theorem dL_drawers_217 : decode cL_drawers 217 = .ok (.iadd, 1) := by decide +kernel
theorem dL_drawers_218 : decode cL_drawers 218 = .ok (.iconst 0, 1) := by decide +kernel
theorem dL_drawers_219 : decode cL_drawers 219 = .ok (.iastore, 1) := by decide +kernel
theorem dL_drawers_220 : decode cL_drawers 220 = .ok (.iconst 4, 1) := by decide +kernel
theorem dL_drawers_221 : decode cL_drawers 221 = .ok (.iload 8, 2) := by decide +kernel
theorem dL_drawers_223 : decode cL_drawers 223 = .ok (.imul, 1) := by decide +kernel
theorem dL_drawers_224 : decode cL_drawers 224 = .ok (.istore 10, 2) := by decide +kernel
theorem dL_drawers_226 : decode cL_drawers 226 = .ok (.iload 10, 2) := by decide +kernel
theorem dL_drawers_228 : decode cL_drawers 228 = .ok (.iconst 4, 1) := by decide +kernel
theorem dL_drawers_229 : decode cL_drawers 229 = .ok (.iload 8, 2) := by decide +kernel
theorem dL_drawers_231 : decode cL_drawers 231 = .ok (.imul, 1) := by decide +kernel
theorem dL_drawers_232 : decode cL_drawers 232 = .ok (.iconst 4, 1) := by decide +kernel
theorem dL_drawers_233 : decode cL_drawers 233 = .ok (.iadd, 1) := by decide +kernel
theorem dL_drawers_234 : decode cL_drawers 234 = .ok (.if_icmp .ge 26, 3) := by decide +kernel
theorem dL_drawers_237 : decode cL_drawers 237 = .ok (.aload_n 3, 1) := by decide +kernel
theorem dL_drawers_238 : decode cL_drawers 238 = .ok (.iload 10, 2) := by decide +kernel
theorem dL_drawers_240 : decode cL_drawers 240 = .ok (.iconst 0, 1) := by decide +kernel
theorem dL_drawers_241 : decode cL_drawers 241 = .ok (.iastore, 1) := by decide +kernel
theorem dL_drawers_242 : decode cL_drawers 242 = .ok (.aload 4, 2) := by decide +kernel
theorem dL_drawers_244 : decode cL_drawers 244 = .ok (.iload 10, 2) := by decide +kernel
theorem dL_drawers_246 : decode cL_drawers 246 = .ok (.iconst 0, 1) := by decide +kernel
theorem dL_drawers_247 : decode cL_drawers 247 = .ok (.iastore, 1) := by decide +kernel
theorem dL_drawers_248 : decode cL_drawers 248 = .ok (.aload 5, 2) := by decide +kernel
theorem dL_drawers_250 : decode cL_drawers 250 = .ok (.iload 10, 2) := by decide +kernel
theorem dL_drawers_252 : decode cL_drawers 252 = .ok (.iconst 0, 1) := by decide +kernel
theorem dL_drawers_253 : decode cL_drawers 253 = .ok (.iastore, 1) := by decide +kernel
theorem dL_drawers_254 : decode cL_drawers 254 = .ok (.iinc 10 1, 3) := by decide +kernel
theorem dL_drawers_257 : decode cL_drawers 257 = .ok (.goto (-31), 3) := by decide +kernel
theorem dL_drawers_260 : decode cL_drawers 260 = .ok (.aload_n 0, 1) := by decide +kernel
theorem dL_drawers_261 : decode cL_drawers 261 = .ok (.iload 8, 2) := by decide +kernel
theorem dL_drawers_263 : decode cL_drawers 263 = .ok (.aload_n 1, 1) := by decide +kernel
theorem dL_drawers_264 : decode cL_drawers 264 = .ok (.iload 8, 2) := by decide +kernel
theorem dL_drawers_266 : decode cL_drawers 266 = .ok (.iaload, 1) := by decide +kernel
theorem dL_drawers_267 : decode cL_drawers 267 = .ok (.invokevirtual 58, 3) := by decide +kernel
theorem dL_drawers_270 : decode cL_drawers 270 = .ok (.iload 9, 2) := by decide +kernel
theorem dL_drawers_272 : decode cL_drawers 272 = .ok (.if_icmp .ne 7, 3) := by decide +kernel
theorem dL_drawers_275 : decode cL_drawers 275 = .ok (.iconst 1, 1) := by decide +kernel
theorem dL_drawers_276 : decode cL_drawers 276 = .ok (.goto 4, 3) := by decide +kernel
theorem dL_drawers_279 : decode cL_drawers 279 = .ok (.iconst 0, 1) := by decide +kernel
theorem dL_drawers_280 : decode cL_drawers 280 = .ok (.ireturn, 1) := by decide +kernel
theorem dL_drawers_281 : decode cL_drawers 281 = .ok (.aload_n 1, 1) := by decide +kernel
theorem dL_drawers_282 : decode cL_drawers 282 = .ok (.iconst 2, 1) := by decide +kernel
theorem dL_drawers_283 : decode cL_drawers 283 = .ok (.iload 8, 2) := by decide +kernel
theorem dL_drawers_285 : decode cL_drawers 285 = .ok (.iadd, 1) := by decide +kernel
theorem dL_drawers_286 : decode cL_drawers 286 = .ok (.iaload, 1) := by decide +kernel
theorem dL_drawers_287 : decode cL_drawers 287 = .ok (.ifCond .ne 35, 3) := by decide +kernel
theorem dL_drawers_290 : decode cL_drawers 290 = .ok (.aload_n 0, 1) := by decide +kernel
theorem dL_drawers_291 : decode cL_drawers 291 = .ok (.iload 8, 2) := by decide +kernel
theorem dL_drawers_293 : decode cL_drawers 293 = .ok (.iconst 0, 1) := by decide +kernel
theorem dL_drawers_294 : decode cL_drawers 294 = .ok (.invokevirtual 62, 3) := by decide +kernel
theorem dL_drawers_297 : decode cL_drawers 297 = .ok (.bipush (-11), 2) := by decide +kernel
theorem dL_drawers_299 : decode cL_drawers 299 = .ok (.if_icmp .ne 21, 3) := by decide +kernel
theorem dL_drawers_302 : decode cL_drawers 302 = .ok (.aload_n 0, 1) := by decide +kernel
theorem dL_drawers_303 : decode cL_drawers 303 = .ok (.iload 8, 2) := by decide +kernel
theorem dL_drawers_305 : decode cL_drawers 305 = .ok (.iconst 0, 1) := by decide +kernel
theorem dL_drawers_306 : decode cL_drawers 306 = .ok (.iconst 0, 1) := by decide +kernel
theorem dL_drawers_307 : decode cL_drawers 307 = .ok (.iconst 1, 1) := by decide +kernel
theorem dL_drawers_308 : decode cL_drawers 308 = .ok (.invokevirtual 65, 3) := by decide +kernel
theorem dL_drawers_311 : decode cL_drawers 311 = .ok (.bipush (-11), 2) := by decide +kernel
theorem dL_drawers_313 : decode cL_drawers 313 = .ok (.if_icmp .ne 7, 3) := by decide +kernel
theorem dL_drawers_316 : decode cL_drawers 316 = .ok (.iconst 1, 1) := by decide +kernel
theorem dL_drawers_317 : decode cL_drawers 317 = .ok (.goto 4, 3) := by decide +kernel
theorem dL_drawers_320 : decode cL_drawers 320 = .ok (.iconst 0, 1) := by decide +kernel
theorem dL_drawers_321 : decode cL_drawers 321 = .ok (.ireturn, 1) := by decide +kernel
theorem dL_drawers_322 : decode cL_drawers 322 = .ok (.iload 7, 2) := by decide +kernel
theorem dL_drawers_324 : decode cL_drawers 324 = .ok (.iconst 2, 1) := by decide +kernel
theorem dL_drawers_325 : decode cL_drawers 325 = .ok (.idiv, 1) := by decide +kernel
theorem dL_drawers_326 : decode cL_drawers 326 = .ok (.aload_n 1, 1) := by decide +kernel
theorem dL_drawers_327 : decode cL_drawers 327 = .ok (.iconst 2, 1) := by decide +kernel
theorem dL_drawers_328 : decode cL_drawers 328 = .ok (.iload 8, 2) := by decide +kernel
theorem dL_drawers_330 : decode cL_drawers 330 = .ok (.iadd, 1) := by decide +kernel
theorem dL_drawers_331 : decode cL_drawers 331 = .ok (.iaload, 1) := by decide +kernel
theorem dL_drawers_332 : decode cL_drawers 332 = .ok (.irem, 1) := by decide +kernel
theorem dL_drawers_333 : decode cL_drawers 333 = .ok (.istore 9, 2) := by decide +kernel
theorem dL_drawers_335 : decode cL_drawers 335 = .ok (.iload 6, 2) := by decide +kernel
theorem dL_drawers_337 : decode cL_drawers 337 = .ok (.iconst 2, 1) := by decide +kernel
theorem dL_drawers_338 : decode cL_drawers 338 = .ok (.if_icmp .ne 79, 3) := by decide +kernel
theorem dL_drawers_341 : decode cL_drawers 341 = .ok (.aload_n 1, 1) := by decide +kernel
theorem dL_drawers_342 : decode cL_drawers 342 = .ok (.iconst 2, 1) := by decide +kernel
theorem dL_drawers_343 : decode cL_drawers 343 = .ok (.iload 8, 2) := by decide +kernel
theorem dL_drawers_345 : decode cL_drawers 345 = .ok (.iadd, 1) := by decide +kernel
theorem dL_drawers_346 : decode cL_drawers 346 = .ok (.dup2, 1) := by decide +kernel
theorem dL_drawers_347 : decode cL_drawers 347 = .ok (.iaload, 1) := by decide +kernel
theorem dL_drawers_348 : decode cL_drawers 348 = .ok (.iconst 1, 1) := by decide +kernel
theorem dL_drawers_349 : decode cL_drawers 349 = .ok (.isub, 1) := by decide +kernel
theorem dL_drawers_350 : decode cL_drawers 350 = .ok (.iastore, 1) := by decide +kernel
theorem dL_drawers_351 : decode cL_drawers 351 = .ok (.bipush 12, 2) := by decide +kernel
theorem dL_drawers_353 : decode cL_drawers 353 = .ok (.iload 8, 2) := by decide +kernel
theorem dL_drawers_355 : decode cL_drawers 355 = .ok (.imul, 1) := by decide +kernel
theorem dL_drawers_356 : decode cL_drawers 356 = .ok (.iload 9, 2) := by decide +kernel
theorem dL_drawers_358 : decode cL_drawers 358 = .ok (.iadd, 1) := by decide +kernel
theorem dL_drawers_359 : decode cL_drawers 359 = .ok (.istore 10, 2) := by decide +kernel
theorem dL_drawers_361 : decode cL_drawers 361 = .ok (.iload 10, 2) := by decide +kernel
theorem dL_drawers_363 : decode cL_drawers 363 = .ok (.bipush 12, 2) := by decide +kernel
theorem dL_drawers_365 : decode cL_drawers 365 = .ok (.iload 8, 2) := by decide +kernel
theorem dL_drawers_367 : decode cL_drawers 367 = .ok (.imul, 1) := by decide +kernel
theorem dL_drawers_368 : decode cL_drawers 368 = .ok (.aload_n 1, 1) := by decide +kernel
theorem dL_drawers_369 : decode cL_drawers 369 = .ok (.iconst 2, 1) := by decide +kernel
theorem dL_drawers_370 : decode cL_drawers 370 = .ok (.iload 8, 2) := by decide +kernel
theorem dL_drawers_372 : decode cL_drawers 372 = .ok (.iadd, 1) := by decide +kernel
theorem dL_drawers_373 : decode cL_drawers 373 = .ok (.iaload, 1) := by decide +kernel
theorem dL_drawers_374 : decode cL_drawers 374 = .ok (.iadd, 1) := by decide +kernel
theorem dL_drawers_375 : decode cL_drawers 375 = .ok (.if_icmp .ge 19, 3) := by decide +kernel
theorem dL_drawers_378 : decode cL_drawers 378 = .ok (.aload_n 2, 1) := by decide +kernel
theorem dL_drawers_379 : decode cL_drawers 379 = .ok (.iload 10, 2) := by decide +kernel
theorem dL_drawers_381 : decode cL_drawers 381 = .ok (.aload_n 2, 1) := by decide +kernel
theorem dL_drawers_382 : decode cL_drawers 382 = .ok (.iload 10, 2) := by decide +kernel
theorem dL_drawers_384 : decode cL_drawers 384 = .ok (.iconst 1, 1) := by decide +kernel
theorem dL_drawers_385 : decode cL_drawers 385 = .ok (.iadd, 1) := by decide +kernel
theorem dL_drawers_386 : decode cL_drawers 386 = .ok (.iaload, 1) := by decide +kernel
theorem dL_drawers_387 : decode cL_drawers 387 = .ok (.iastore, 1) := by decide +kernel
theorem dL_drawers_388 : decode cL_drawers 388 = .ok (.iinc 10 1, 3) := by decide +kernel
theorem dL_drawers_391 : decode cL_drawers 391 = .ok (.goto (-30), 3) := by decide +kernel
theorem dL_drawers_394 : decode cL_drawers 394 = .ok (.aload_n 0, 1) := by decide +kernel
theorem dL_drawers_395 : decode cL_drawers 395 = .ok (.iload 8, 2) := by decide +kernel
theorem dL_drawers_397 : decode cL_drawers 397 = .ok (.iload 9, 2) := by decide +kernel
theorem dL_drawers_399 : decode cL_drawers 399 = .ok (.invokevirtual 62, 3) := by decide +kernel
theorem dL_drawers_402 : decode cL_drawers 402 = .ok (.aload_n 1, 1) := by decide +kernel
theorem dL_drawers_403 : decode cL_drawers 403 = .ok (.iconst 2, 1) := by decide +kernel
theorem dL_drawers_404 : decode cL_drawers 404 = .ok (.iload 8, 2) := by decide +kernel
theorem dL_drawers_406 : decode cL_drawers 406 = .ok (.iadd, 1) := by decide +kernel
theorem dL_drawers_407 : decode cL_drawers 407 = .ok (.iaload, 1) := by decide +kernel
theorem dL_drawers_408 : decode cL_drawers 408 = .ok (.if_icmp .ne 7, 3) := by decide +kernel
theorem dL_drawers_411 : decode cL_drawers 411 = .ok (.iconst 1, 1) := by decide +kernel
theorem dL_drawers_412 : decode cL_drawers 412 = .ok (.goto 4, 3) := by decide +kernel
theorem dL_drawers_415 : decode cL_drawers 415 = .ok (.iconst 0, 1) := by decide +kernel
theorem dL_drawers_416 : decode cL_drawers 416 = .ok (.ireturn, 1) := by decide +kernel
theorem dL_drawers_417 : decode cL_drawers 417 = .ok (.iload 7, 2) := by decide +kernel
theorem dL_drawers_419 : decode cL_drawers 419 = .ok (.bipush 24, 2) := by decide +kernel
theorem dL_drawers_421 : decode cL_drawers 421 = .ok (.idiv, 1) := by decide +kernel
theorem dL_drawers_422 : decode cL_drawers 422 = .ok (.aload_n 1, 1) := by decide +kernel
theorem dL_drawers_423 : decode cL_drawers 423 = .ok (.iload 8, 2) := by decide +kernel
theorem dL_drawers_425 : decode cL_drawers 425 = .ok (.iaload, 1) := by decide +kernel
theorem dL_drawers_426 : decode cL_drawers 426 = .ok (.irem, 1) := by decide +kernel
theorem dL_drawers_427 : decode cL_drawers 427 = .ok (.istore 10, 2) := by decide +kernel
theorem dL_drawers_429 : decode cL_drawers 429 = .ok (.aload_n 2, 1) := by decide +kernel
theorem dL_drawers_430 : decode cL_drawers 430 = .ok (.iload 8, 2) := by decide +kernel
theorem dL_drawers_432 : decode cL_drawers 432 = .ok (.iload 9, 2) := by decide +kernel
theorem dL_drawers_434 : decode cL_drawers 434 = .ok (.iload 10, 2) := by decide +kernel
theorem dL_drawers_436 : decode cL_drawers 436 = .ok (.invokestatic 9, 3) := by decide +kernel
theorem dL_drawers_439 : decode cL_drawers 439 = .ok (.istore 11, 2) := by decide +kernel
theorem dL_drawers_441 : decode cL_drawers 441 = .ok (.iload 7, 2) := by decide +kernel
theorem dL_drawers_443 : decode cL_drawers 443 = .ok (.iconst 5, 1) := by decide +kernel
