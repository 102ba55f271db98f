theorem dL_isStepSo_434 : decode cL_isStepSo 434 = .ok (.iload 21, 2) := by decide +kernel
theorem dL_isStepSo_436 : decode cL_isStepSo 436 = .ok (.if_icmp .ne 7, 3) := by decide +kernel
theorem dL_isStepSo_439 : decode cL_isStepSo 439 = .ok (.iconst 1, 1) := by decide +kernel
theorem dL_isStepSo_440 : decode cL_isStepSo 440 = .ok (.goto 4, 3) := by decide +kernel
theorem dL_isStepSo_443 : decode cL_isStepSo 443 = .ok (.iconst 0, 1) := by decide +kernel
theorem dL_isStepSo_444 : decode cL_isStepSo 444 = .ok (.istore 15, 2) := by decide +kernel
theorem dL_isStepSo_446 : decode cL_isStepSo 446 = .ok (.iload 17, 2) := by decide +kernel
theorem dL_isStepSo_448 : decode cL_isStepSo 448 = .ok (.iload 22, 2) := by decide +kernel
theorem dL_isStepSo_450 : decode cL_isStepSo 450 = .ok (.ifCond .eq 7, 3) := by decide +kernel
theorem dL_isStepSo_453 : decode cL_isStepSo 453 = .ok (.iconst 0, 1) := by decide +kernel
theorem dL_isStepSo_454 : decode cL_isStepSo 454 = .ok (.goto 4, 3) := by decide +kernel
theorem dL_isStepSo_457 : decode cL_isStepSo 457 = .ok (.iconst 1, 1) := by decide +kernel
theorem dL_isStepSo_458 : decode cL_isStepSo 458 = .ok (.iadd, 1) := by decide +kernel
theorem dL_isStepSo_459 : decode cL_isStepSo 459 = .ok (.istore 17, 2) := by decide +kernel
theorem dL_isStepSo_461 : decode cL_isStepSo 461 = .ok (.iload 18, 2) := by decide +kernel
theorem dL_isStepSo_463 : decode cL_isStepSo 463 = .ok (.iload 22, 2) := by decide +kernel
theorem dL_isStepSo_465 : decode cL_isStepSo 465 = .ok (.ifCond .eq 7, 3) := by decide +kernel
theorem dL_isStepSo_468 : decode cL_isStepSo 468 = .ok (.iconst 1, 1) := by decide +kernel
theorem dL_isStepSo_469 : decode cL_isStepSo 469 = .ok (.goto 4, 3) := by decide +kernel
theorem dL_isStepSo_472 : decode cL_isStepSo 472 = .ok (.iconst 0, 1) := by decide +kernel
theorem dL_isStepSo_473 : decode cL_isStepSo 473 = .ok (.iadd, 1) := by decide +kernel
theorem dL_isStepSo_474 : decode cL_isStepSo 474 = .ok (.istore 18, 2) := by decide +kernel
theorem dL_isStepSo_476 : decode cL_isStepSo 476 = .ok (.iload 19, 2) := by decide +kernel
theorem dL_isStepSo_478 : decode cL_isStepSo 478 = .ok (.iload 22, 2) := by decide +kernel
theorem dL_isStepSo_480 : decode cL_isStepSo 480 = .ok (.ifCond .eq 8, 3) := by decide +kernel
theorem dL_isStepSo_483 : decode cL_isStepSo 483 = .ok (.iload 21, 2) := by decide +kernel
theorem dL_isStepSo_485 : decode cL_isStepSo 485 = .ok (.goto 4, 3) := by decide +kernel
theorem dL_isStepSo_488 : decode cL_isStepSo 488 = .ok (.iconst 0, 1) := by decide +kernel
theorem dL_isStepSo_489 : decode cL_isStepSo 489 = .ok (.iadd, 1) := by decide +kernel
theorem dL_isStepSo_490 : decode cL_isStepSo 490 = .ok (.istore 19, 2) := by decide +kernel
theorem dL_isStepSo_492 : decode cL_isStepSo 492 = .ok (.iinc 20 1, 3) := by decide +kernel
theorem dL_isStepSo_495 : decode cL_isStepSo 495 = .ok (.goto (-125), 3) := by decide +kernel
theorem dL_isStepSo_498 : decode cL_isStepSo 498 = .ok (.iload 15, 2) := by decide +kernel
theorem dL_isStepSo_500 : decode cL_isStepSo 500 = .ok (.ifCond .eq 100, 3) := by decide +kernel
theorem dL_isStepSo_503 : decode cL_isStepSo 503 = .ok (.aload_n 0, 1) := by decide +kernel
theorem dL_isStepSo_504 : decode cL_isStepSo 504 = .ok (.iconst 4, 1) := by decide +kernel
theorem dL_isStepSo_505 : decode cL_isStepSo 505 = .ok (.invokevirtual 58, 3) := by decide +kernel
theorem dL_isStepSo_508 : decode cL_isStepSo 508 = .ok (.iload 9, 2) := by decide +kernel
theorem dL_isStepSo_510 : decode cL_isStepSo 510 = .ok (.if_icmp .ne 90, 3) := by decide +kernel
theorem dL_isStepSo_513 : decode cL_isStepSo 513 = .ok (.aload_n 0, 1) := by decide +kernel
theorem dL_isStepSo_514 : decode cL_isStepSo 514 = .ok (.iload 4, 2) := by decide +kernel
theorem dL_isStepSo_516 : decode cL_isStepSo 516 = .ok (.iconst 0, 1) := by decide +kernel
theorem dL_isStepSo_517 : decode cL_isStepSo 517 = .ok (.invokevirtual 20, 3) := by decide +kernel
theorem dL_isStepSo_520 : decode cL_isStepSo 520 = .ok (.iload 10, 2) := by decide +kernel
theorem dL_isStepSo_522 : decode cL_isStepSo 522 = .ok (.iload 17, 2) := by decide +kernel
theorem dL_isStepSo_524 : decode cL_isStepSo 524 = .ok (.iadd, 1) := by decide +kernel
theorem dL_isStepSo_525 : decode cL_isStepSo 525 = .ok (.if_icmp .ne 75, 3) := by decide +kernel
theorem dL_isStepSo_528 : decode cL_isStepSo 528 = .ok (.aload_n 0, 1) := by decide +kernel
theorem dL_isStepSo_529 : decode cL_isStepSo 529 = .ok (.iconst 5, 1) := by decide +kernel
theorem dL_isStepSo_530 : decode cL_isStepSo 530 = .ok (.invokevirtual 58, 3) := by decide +kernel
theorem dL_isStepSo_533 : decode cL_isStepSo 533 = .ok (.iload 11, 2) := by decide +kernel
theorem dL_isStepSo_535 : decode cL_isStepSo 535 = .ok (.iload 18, 2) := by decide +kernel
theorem dL_isStepSo_537 : decode cL_isStepSo 537 = .ok (.iadd, 1) := by decide +kernel
theorem dL_isStepSo_538 : decode cL_isStepSo 538 = .ok (.if_icmp .ne 62, 3) := by decide +kernel
theorem dL_isStepSo_541 : decode cL_isStepSo 541 = .ok (.aload_n 0, 1) := by decide +kernel
theorem dL_isStepSo_542 : decode cL_isStepSo 542 = .ok (.bipush 6, 2) := by decide +kernel
theorem dL_isStepSo_544 : decode cL_isStepSo 544 = .ok (.invokevirtual 58, 3) := by decide +kernel
theorem dL_isStepSo_547 : decode cL_isStepSo 547 = .ok (.iload 12, 2) := by decide +kernel
theorem dL_isStepSo_549 : decode cL_isStepSo 549 = .ok (.iload 19, 2) := by decide +kernel
theorem dL_isStepSo_551 : decode cL_isStepSo 551 = .ok (.iadd, 1) := by decide +kernel
theorem dL_isStepSo_552 : decode cL_isStepSo 552 = .ok (.if_icmp .ne 48, 3) := by decide +kernel
theorem dL_isStepSo_555 : decode cL_isStepSo 555 = .ok (.aload_n 0, 1) := by decide +kernel
theorem dL_isStepSo_556 : decode cL_isStepSo 556 = .ok (.bipush 10, 2) := by decide +kernel
theorem dL_isStepSo_558 : decode cL_isStepSo 558 = .ok (.invokevirtual 58, 3) := by decide +kernel
theorem dL_isStepSo_561 : decode cL_isStepSo 561 = .ok (.iload 13, 2) := by decide +kernel
theorem dL_isStepSo_563 : decode cL_isStepSo 563 = .ok (.iload 17, 2) := by decide +kernel
theorem dL_isStepSo_565 : decode cL_isStepSo 565 = .ok (.iadd, 1) := by decide +kernel
theorem dL_isStepSo_566 : decode cL_isStepSo 566 = .ok (.if_icmp .ne 34, 3) := by decide +kernel
theorem dL_isStepSo_569 : decode cL_isStepSo 569 = .ok (.aload_n 0, 1) := by decide +kernel
theorem dL_isStepSo_570 : decode cL_isStepSo 570 = .ok (.iconst 3, 1) := by decide +kernel
theorem dL_isStepSo_571 : decode cL_isStepSo 571 = .ok (.invokevirtual 58, 3) := by decide +kernel
theorem dL_isStepSo_574 : decode cL_isStepSo 574 = .ok (.iload 18, 2) := by decide +kernel
theorem dL_isStepSo_576 : decode cL_isStepSo 576 = .ok (.ifCond .le 7, 3) := by decide +kernel
theorem dL_isStepSo_579 : decode cL_isStepSo 579 = .ok (.iconst 1, 1) := by decide +kernel
theorem dL_isStepSo_580 : decode cL_isStepSo 580 = .ok (.goto 4, 3) := by decide +kernel
theorem dL_isStepSo_583 : decode cL_isStepSo 583 = .ok (.iconst 0, 1) := by decide +kernel
theorem dL_isStepSo_584 : decode cL_isStepSo 584 = .ok (.if_icmp .ne 16, 3) := by decide +kernel
theorem dL_isStepSo_587 : decode cL_isStepSo 587 = .ok (.aload_n 0, 1) := by decide +kernel
theorem dL_isStepSo_588 : decode cL_isStepSo 588 = .ok (.iconst 0, 1) := by decide +kernel
theorem dL_isStepSo_589 : decode cL_isStepSo 589 = .ok (.invokevirtual 71, 3) := by decide +kernel
theorem dL_isStepSo_592 : decode cL_isStepSo 592 = .ok (.iload_n 2, 1) := by decide +kernel
theorem dL_isStepSo_593 : decode cL_isStepSo 593 = .ok (.if_icmp .ne 7, 3) := by decide +kernel
theorem dL_isStepSo_596 : decode cL_isStepSo 596 = .ok (.iconst 1, 1) := by decide +kernel
theorem dL_isStepSo_597 : decode cL_isStepSo 597 = .ok (.goto 4, 3) := by decide +kernel
theorem dL_isStepSo_600 : decode cL_isStepSo 600 = .ok (.iconst 0, 1) := by decide +kernel
theorem dL_isStepSo_601 : decode cL_isStepSo 601 = .ok (.istore 15, 2) := by decide +kernel
theorem dL_isStepSo_603 : decode cL_isStepSo 603 = .ok (.aload_n 0, 1) := by decide +kernel
theorem dL_isStepSo_604 : decode cL_isStepSo 604 = .ok (.invokevirtual 74, 3) := by decide +kernel
theorem dL_isStepSo_607 : decode cL_isStepSo 607 = .ok (.istore 16, 2) := by decide +kernel
theorem dL_isStepSo_609 : decode cL_isStepSo 609 = .ok (.iload 15, 2) := by decide +kernel
theorem dL_isStepSo_611 : decode cL_isStepSo 611 = .ok (.ifCond .eq 34, 3) := by decide +kernel
theorem dL_isStepSo_614 : decode cL_isStepSo 614 = .ok (.iload 16, 2) := by decide +kernel
theorem dL_isStepSo_616 : decode cL_isStepSo 616 = .ok (.ifCond .lt 29, 3) := by decide +kernel
theorem dL_isStepSo_619 : decode cL_isStepSo 619 = .ok (.aload_n 0, 1) := by decide +kernel
theorem dL_isStepSo_620 : decode cL_isStepSo 620 = .ok (.iconst 5, 1) := by decide +kernel
theorem dL_isStepSo_621 : decode cL_isStepSo 621 = .ok (.invokevirtual 58, 3) := by decide +kernel
theorem dL_isStepSo_624 : decode cL_isStepSo 624 = .ok (.iload 11, 2) := by decide +kernel
theorem dL_isStepSo_626 : decode cL_isStepSo 626 = .ok (.if_icmp .ne 19, 3) := by decide +kernel
theorem dL_isStepSo_629 : decode cL_isStepSo 629 = .ok (.aload_n 0, 1) := by decide +kernel
theorem dL_isStepSo_630 : decode cL_isStepSo 630 = .ok (.iload 4, 2) := by decide +kernel
theorem dL_isStepSo_632 : decode cL_isStepSo 632 = .ok (.iconst 0, 1) := by decide +kernel
theorem dL_isStepSo_633 : decode cL_isStepSo 633 = .ok (.invokevirtual 20, 3) := by decide +kernel
theorem dL_isStepSo_636 : decode cL_isStepSo 636 = .ok (.iload 10, 2) := by decide +kernel
theorem dL_isStepSo_638 : decode cL_isStepSo 638 = .ok (.if_icmp .ne 7, 3) := by decide +kernel
theorem dL_isStepSo_641 : decode cL_isStepSo 641 = .ok (.iconst 1, 1) := by decide +kernel
theorem dL_isStepSo_642 : decode cL_isStepSo 642 = .ok (.goto 4, 3) := by decide +kernel
theorem dL_isStepSo_645 : decode cL_isStepSo 645 = .ok (.iconst 0, 1) := by decide +kernel
theorem dL_isStepSo_646 : decode cL_isStepSo 646 = .ok (.ireturn, 1) := by decide +kernel
set_option maxRecDepth 20000 in
theorem ggL_isRunSo_X5_ifRun : GoodIn wsL_isRunSo wsX5_ifRun := goodIn_ca (goodIn_r _ [5, 6, 7, 8, 9, 10, 11, 12, 13, 14, 4, 15, 16, 17, 18, 19, 20, 21, 22, 23, 24, 25, 26, 27, 28, 29, 30, 31, 32, 33, 34, 35, 36, 37, 38, 39, 40, 41, 42, 43, 44, 45, 46, 47, 48, 49, 50, 51, 52, 53, 54, 55, 56, 57, 58, 59, 60, 61, 62, 63, 64, 65, 66, 67, 68, 69, 70, 71, 72, 73, 74, 75, 76, 77, 78, 79, 80, 81, 82, 83, 84, 85, 86, 87, 88, 89, 90, 91, 92, 93, 94, 95, 96, 97, 98, 99, 100, 101, 102, 103, 104, 105, 106, 107, 108, 109, 110, 111, 112, 113, 114, 115, 116, 117, 118, 119, 120, 121, 122, 123, 124, 125, 126, 127, 128, 129, 130, 131, 132, 133, 134, 135, 136, 137, 138, 139, 140, 141, 142, 143, 144, 145, 146, 147, 218, 219, 220, 221, 222, 223, 224, 225, 226, 227, 228, 229, 230, 231, 232, 233, 234, 235, 236, 237, 238, 239] (by decide +kernel) (by decide +kernel)) (goodIn_sub (fun _ h => List.mem_cons_of_mem _ (List.mem_append_left _ (List.mem_append_left _ (List.mem_append_right _ h)))) (by decide +kernel))
set_option maxRecDepth 20000 in
theorem gL_isRunSo_X5_ifRun : GoodIn wsL_isRunSo (wsV RL 77 RX5 yX5_ifRun wsX5_ifRun) := goodIn_app (goodIn_of _ (by decide +kernel)) ggL_isRunSo_X5_ifRun
set_option maxRecDepth 20000 in
theorem ggL_isRunSo_X5_count : GoodIn wsL_isRunSo wsX5_count := goodIn_ca (goodIn_r _ [151, 6, 7, 9, 152, 153, 11, 154, 155, 156, 12, 157, 10, 158, 159, 160, 161, 162, 44, 163, 164, 165, 166, 167, 83, 84, 85, 86, 49, 79, 80, 81, 82, 46, 168, 169, 170, 171, 172, 173, 218, 219, 220, 221, 222, 223, 224, 225, 226, 227, 228, 229, 230, 231, 232, 233, 234, 235, 236, 237, 240, 241, 242] (by decide +kernel) (by decide +kernel)) (goodIn_sub (fun _ h => List.mem_cons_of_mem _ (List.mem_append_left _ (List.mem_append_left _ (List.mem_append_right _ h)))) (by decide +kernel))
set_option maxRecDepth 20000 in
theorem gL_isRunSo_X5_count : GoodIn wsL_isRunSo (wsV RL 58 RX5 yX5_count wsX5_count) := goodIn_app (goodIn_of _ (by decide +kernel)) ggL_isRunSo_X5_count
set_option maxRecDepth 20000 in
theorem ggL_isRunSo_X5_run : GoodIn wsL_isRunSo wsX5_run := goodIn_ca (goodIn_r _ [177, 6, 7, 159, 9, 13, 14, 4, 15, 178, 179, 180, 171, 181, 173, 182, 183, 184, 185, 186, 187, 188, 17, 18, 19, 20, 21, 22, 23, 24, 25, 26, 27, 28, 29, 30, 31, 32, 33, 34, 35, 36, 37, 38, 39, 40, 41, 42, 43, 44, 45, 46, 47, 48, 49, 50, 51, 52, 53, 54, 55, 56, 57, 58, 59, 60, 61, 62, 63, 64, 65, 66, 67, 68, 69, 70, 71, 72, 73, 74, 75, 76, 77, 78, 79, 80, 81, 82, 83, 84, 85, 86, 87, 88, 89, 90, 91, 92, 93, 94, 95, 96, 97, 98, 99, 100, 101, 102, 103, 104, 105, 106, 107, 108, 109, 110, 111, 112, 113, 114, 115, 116, 117, 118, 119, 120, 121, 122, 123, 124, 125, 126, 218, 219, 220, 221, 222, 223, 240, 241, 242, 224, 225, 226, 227, 228, 229, 230, 231, 232, 233, 234, 235, 236, 237, 238, 239] (by decide +kernel) (by decide +kernel)) (goodIn_sub (fun _ h => List.mem_cons_of_mem _ (List.mem_append_left _ (List.mem_append_left _ (List.mem_append_right _ h)))) (by decide +kernel))
set_option maxRecDepth 20000 in
theorem gL_isRunSo_X5_run : GoodIn wsL_isRunSo (wsV RL 52 RX5 yX5_run wsX5_run) := goodIn_app (goodIn_of _ (by decide +kernel)) ggL_isRunSo_X5_run
set_option maxRecDepth 20000 in
theorem ggL_isRunSo_X5_can : GoodIn wsL_isRunSo wsX5_can := goodIn_ca (goodIn_ca (goodIn_r _ [192, 193, 194, 6, 7, 9, 10, 195, 196, 4, 197, 198, 84, 85, 44, 86, 49, 199, 165, 166, 167, 83, 79, 80, 81, 82, 46, 200, 137, 138, 139, 47, 25, 26, 27, 201, 132, 133, 134, 135, 92, 93, 127, 128, 129, 130, 131, 136, 140, 141, 142, 143, 144, 145, 146, 202, 68, 69, 19, 70, 32, 203, 218, 219, 220, 221, 222, 223, 224, 225, 226, 227, 228, 229, 230, 231, 232, 233, 234, 235, 236, 237] (by decide +kernel) (by decide +kernel)) (goodIn_sub (fun _ h => List.mem_cons_of_mem _ (List.mem_append_left _ (List.mem_append_right _ h))) (by decide +kernel))) (goodIn_sub (fun _ h => List.mem_cons_of_mem _ (List.mem_append_left _ (List.mem_append_left _ (List.mem_append_right _ h)))) (by decide +kernel))
set_option maxRecDepth 20000 in
theorem gL_isRunSo_X5_can : GoodIn wsL_isRunSo (wsV RL 20 RX5 yX5_can wsX5_can) := goodIn_app (goodIn_of _ (by decide +kernel)) ggL_isRunSo_X5_can
set_option maxRecDepth 20000 in
theorem ggL_isRunSo_X5_why : GoodIn wsL_isRunSo wsX5_why := goodIn_r _ [207, 9, 147, 64, 65, 19, 66, 34, 32, 33, 21, 67, 68, 69, 70, 71, 72, 73, 44, 74, 49, 75, 76, 77, 78, 79, 80, 81, 82, 46, 83, 84, 85, 86, 87, 88, 89, 90, 22, 24, 25, 26, 27, 91, 92, 93, 94, 95, 96, 97, 23, 98, 99, 100, 53, 101, 58, 55, 102, 218, 219, 220, 221, 222, 223, 224, 225, 226, 227, 228, 229, 230, 231, 232, 233, 234, 235, 236, 237, 238, 239] (by decide +kernel) (by decide +kernel)
set_option maxRecDepth 20000 in
theorem gL_isRunSo_X5_why : GoodIn wsL_isRunSo (wsV RL 65 RX5 yX5_why wsX5_why) := goodIn_app (goodIn_of _ (by decide +kernel)) ggL_isRunSo_X5_why
set_option maxRecDepth 20000 in
theorem ggL_isRunSo_X5_undo : GoodIn wsL_isRunSo wsX5_undo := goodIn_ca (goodIn_r _ [211, 212, 213, 159, 9, 168, 169, 170, 171, 172, 173, 214, 215, 216, 217, 182, 183, 184, 185, 186, 187, 188, 17, 18, 19, 20, 21, 22, 23, 24, 25, 26, 27, 28, 29, 30, 31, 32, 33, 34, 35, 36, 37, 38, 39, 40, 41, 42, 43, 44, 45, 46, 47, 48, 49, 50, 51, 52, 53, 54, 55, 56, 57, 58, 218, 219, 220, 221, 222, 223, 240, 241, 242, 224, 225, 226, 227, 228, 229, 230, 231, 232, 233, 234, 235, 236, 237, 238, 239] (by decide +kernel) (by decide +kernel)) (goodIn_sub (fun _ h => List.mem_cons_of_mem _ (List.mem_append_right _ h)) (by decide +kernel))
set_option maxRecDepth 20000 in
theorem gL_isRunSo_X5_undo : GoodIn wsL_isRunSo (wsV RL 74 RX5 yX5_undo wsX5_undo) := goodIn_app (goodIn_of _ (by decide +kernel)) ggL_isRunSo_X5_undo
theorem dL_isRunSo_0 : decode cL_isRunSo 0 = .ok (.aload_n 0, 1) := by decide +kernel
theorem dL_isRunSo_1 : decode cL_isRunSo 1 = .ok (.iload_n 1, 1) := by decide +kernel
theorem dL_isRunSo_2 : decode cL_isRunSo 2 = .ok (.iload_n 2, 1) := by decide +kernel
theorem dL_isRunSo_3 : decode cL_isRunSo 3 = .ok (.iadd, 1) := by decide +kernel
theorem dL_isRunSo_4 : decode cL_isRunSo 4 = .ok (.iconst 0, 1) := by decide +kernel
theorem dL_isRunSo_5 : decode cL_isRunSo 5 = .ok (.invokevirtual 77, 3) := by decide +kernel
theorem dL_isRunSo_8 : decode cL_isRunSo 8 = .ok (.istore_n 3, 1) := by decide +kernel
theorem dL_isRunSo_9 : decode cL_isRunSo 9 = .ok (.aload_n 0, 1) := by decide +kernel
theorem dL_isRunSo_10 : decode cL_isRunSo 10 = .ok (.iload_n 1, 1) := by decide +kernel
theorem dL_isRunSo_11 : decode cL_isRunSo 11 = .ok (.iload_n 2, 1) := by decide +kernel
theorem dL_isRunSo_12 : decode cL_isRunSo 12 = .ok (.iadd, 1) := by decide +kernel
theorem dL_isRunSo_13 : decode cL_isRunSo 13 = .ok (.iconst 1, 1) := by decide +kernel
theorem dL_isRunSo_14 : decode cL_isRunSo 14 = .ok (.invokevirtual 77, 3) := by decide +kernel
theorem dL_isRunSo_17 : decode cL_isRunSo 17 = .ok (.istore 4, 2) := by decide +kernel
theorem dL_isRunSo_19 : decode cL_isRunSo 19 = .ok (.aload_n 0, 1) := by decide +kernel
theorem dL_isRunSo_20 : decode cL_isRunSo 20 = .ok (.iload_n 1, 1) := by decide +kernel
theorem dL_isRunSo_21 : decode cL_isRunSo 21 = .ok (.iload_n 2, 1) := by decide +kernel
theorem dL_isRunSo_22 : decode cL_isRunSo 22 = .ok (.iadd, 1) := by decide +kernel
theorem dL_isRunSo_23 : decode cL_isRunSo 23 = .ok (.iconst 2, 1) := by decide +kernel
theorem dL_isRunSo_24 : decode cL_isRunSo 24 = .ok (.invokevirtual 77, 3) := by decide +kernel
theorem dL_isRunSo_27 : decode cL_isRunSo 27 = .ok (.istore 5, 2) := by decide +kernel
theorem dL_isRunSo_29 : decode cL_isRunSo 29 = .ok (.aload_n 0, 1) := by decide +kernel
theorem dL_isRunSo_30 : decode cL_isRunSo 30 = .ok (.iload_n 1, 1) := by decide +kernel
theorem dL_isRunSo_31 : decode cL_isRunSo 31 = .ok (.iload_n 2, 1) := by decide +kernel
theorem dL_isRunSo_32 : decode cL_isRunSo 32 = .ok (.iadd, 1) := by decide +kernel
theorem dL_isRunSo_33 : decode cL_isRunSo 33 = .ok (.iconst 3, 1) := by decide +kernel
theorem dL_isRunSo_34 : decode cL_isRunSo 34 = .ok (.invokevirtual 77, 3) := by decide +kernel
theorem dL_isRunSo_37 : decode cL_isRunSo 37 = .ok (.istore 6, 2) := by decide +kernel
theorem dL_isRunSo_39 : decode cL_isRunSo 39 = .ok (.aload_n 0, 1) := by decide +kernel
theorem dL_isRunSo_40 : decode cL_isRunSo 40 = .ok (.iload_n 1, 1) := by decide +kernel
theorem dL_isRunSo_41 : decode cL_isRunSo 41 = .ok (.iload_n 2, 1) := by decide +kernel
theorem dL_isRunSo_42 : decode cL_isRunSo 42 = .ok (.iadd, 1) := by decide +kernel
theorem dL_isRunSo_43 : decode cL_isRunSo 43 = .ok (.iconst 4, 1) := by decide +kernel
theorem dL_isRunSo_44 : decode cL_isRunSo 44 = .ok (.invokevirtual 77, 3) := by decide +kernel
theorem dL_isRunSo_47 : decode cL_isRunSo 47 = .ok (.istore 7, 2) := by decide +kernel
theorem dL_isRunSo_49 : decode cL_isRunSo 49 = .ok (.aload_n 0, 1) := by decide +kernel
theorem dL_isRunSo_50 : decode cL_isRunSo 50 = .ok (.bipush 6, 2) := by decide +kernel
theorem dL_isRunSo_52 : decode cL_isRunSo 52 = .ok (.invokevirtual 58, 3) := by decide +kernel
theorem dL_isRunSo_55 : decode cL_isRunSo 55 = .ok (.istore 8, 2) := by decide +kernel
theorem dL_isRunSo_57 : decode cL_isRunSo 57 = .ok (.aload_n 0, 1) := by decide +kernel
theorem dL_isRunSo_58 : decode cL_isRunSo 58 = .ok (.iload_n 1, 1) := by decide +kernel
theorem dL_isRunSo_59 : decode cL_isRunSo 59 = .ok (.invokevirtual 52, 3) := by decide +kernel
theorem dL_isRunSo_62 : decode cL_isRunSo 62 = .ok (.istore 9, 2) := by decide +kernel
theorem dL_isRunSo_64 : decode cL_isRunSo 64 = .ok (.aload_n 0, 1) := by decide +kernel
theorem dL_isRunSo_65 : decode cL_isRunSo 65 = .ok (.iload_n 2, 1) := by decide +kernel
theorem dL_isRunSo_66 : decode cL_isRunSo 66 = .ok (.invokevirtual 52, 3) := by decide +kernel
theorem dL_isRunSo_69 : decode cL_isRunSo 69 = .ok (.istore 10, 2) := by decide +kernel
theorem dL_isRunSo_71 : decode cL_isRunSo 71 = .ok (.iload 9, 2) := by decide +kernel
theorem dL_isRunSo_73 : decode cL_isRunSo 73 = .ok (.iload 10, 2) := by decide +kernel
theorem dL_isRunSo_75 : decode cL_isRunSo 75 = .ok (.iadd, 1) := by decide +kernel
theorem dL_isRunSo_76 : decode cL_isRunSo 76 = .ok (.iload_n 3, 1) := by decide +kernel
theorem dL_isRunSo_77 : decode cL_isRunSo 77 = .ok (.if_icmp .ne 72, 3) := by decide +kernel
theorem dL_isRunSo_80 : decode cL_isRunSo 80 = .ok (.aload_n 0, 1) := by decide +kernel
theorem dL_isRunSo_81 : decode cL_isRunSo 81 = .ok (.aload_n 0, 1) := by decide +kernel
theorem dL_isRunSo_82 : decode cL_isRunSo 82 = .ok (.iconst 2, 1) := by decide +kernel
theorem dL_isRunSo_83 : decode cL_isRunSo 83 = .ok (.invokevirtual 58, 3) := by decide +kernel
theorem dL_isRunSo_86 : decode cL_isRunSo 86 = .ok (.iconst 4, 1) := by decide +kernel
theorem dL_isRunSo_87 : decode cL_isRunSo 87 = .ok (.invokevirtual 20, 3) := by decide +kernel
theorem dL_isRunSo_90 : decode cL_isRunSo 90 = .ok (.iload 4, 2) := by decide +kernel
theorem dL_isRunSo_92 : decode cL_isRunSo 92 = .ok (.if_icmp .ne 57, 3) := by decide +kernel
theorem dL_isRunSo_95 : decode cL_isRunSo 95 = .ok (.aload_n 0, 1) := by decide +kernel
theorem dL_isRunSo_96 : decode cL_isRunSo 96 = .ok (.aload_n 0, 1) := by decide +kernel
theorem dL_isRunSo_97 : decode cL_isRunSo 97 = .ok (.iconst 2, 1) := by decide +kernel
theorem dL_isRunSo_98 : decode cL_isRunSo 98 = .ok (.invokevirtual 58, 3) := by decide +kernel
theorem dL_isRunSo_101 : decode cL_isRunSo 101 = .ok (.iconst 5, 1) := by decide +kernel
theorem dL_isRunSo_102 : decode cL_isRunSo 102 = .ok (.invokevirtual 20, 3) := by decide +kernel
theorem dL_isRunSo_105 : decode cL_isRunSo 105 = .ok (.iload 5, 2) := by decide +kernel
theorem dL_isRunSo_107 : decode cL_isRunSo 107 = .ok (.if_icmp .ne 42, 3) := by decide +kernel
theorem dL_isRunSo_110 : decode cL_isRunSo 110 = .ok (.aload_n 0, 1) := by decide +kernel
theorem dL_isRunSo_111 : decode cL_isRunSo 111 = .ok (.bipush 6, 2) := by decide +kernel
theorem dL_isRunSo_113 : decode cL_isRunSo 113 = .ok (.invokevirtual 58, 3) := by decide +kernel
theorem dL_isRunSo_116 : decode cL_isRunSo 116 = .ok (.iload 8, 2) := by decide +kernel
theorem dL_isRunSo_118 : decode cL_isRunSo 118 = .ok (.iload 6, 2) := by decide +kernel
theorem dL_isRunSo_120 : decode cL_isRunSo 120 = .ok (.iadd, 1) := by decide +kernel
theorem dL_isRunSo_121 : decode cL_isRunSo 121 = .ok (.if_icmp .ne 28, 3) := by decide +kernel
theorem dL_isRunSo_124 : decode cL_isRunSo 124 = .ok (.aload_n 0, 1) := by decide +kernel
theorem dL_isRunSo_125 : decode cL_isRunSo 125 = .ok (.invokevirtual 65, 3) := by decide +kernel
theorem dL_isRunSo_128 : decode cL_isRunSo 128 = .ok (.iload 7, 2) := by decide +kernel
theorem dL_isRunSo_130 : decode cL_isRunSo 130 = .ok (.if_icmp .ne 19, 3) := by decide +kernel
theorem dL_isRunSo_133 : decode cL_isRunSo 133 = .ok (.iload_n 3, 1) := by decide +kernel
theorem dL_isRunSo_134 : decode cL_isRunSo 134 = .ok (.iload_n 1, 1) := by decide +kernel
theorem dL_isRunSo_135 : decode cL_isRunSo 135 = .ok (.iload_n 2, 1) := by decide +kernel
theorem dL_isRunSo_136 : decode cL_isRunSo 136 = .ok (.iadd, 1) := by decide +kernel
theorem dL_isRunSo_137 : decode cL_isRunSo 137 = .ok (.if_icmp .eq 8, 3) := by decide +kernel
theorem dL_isRunSo_140 : decode cL_isRunSo 140 = .ok (.iload 7, 2) := by decide +kernel
theorem dL_isRunSo_142 : decode cL_isRunSo 142 = .ok (.ifCond .le 7, 3) := by decide +kernel
theorem dL_isRunSo_145 : decode cL_isRunSo 145 = .ok (.iconst 1, 1) := by decide +kernel
theorem dL_isRunSo_146 : decode cL_isRunSo 146 = .ok (.goto 4, 3) := by decide +kernel
