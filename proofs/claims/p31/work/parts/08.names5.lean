theorem dX6_go_469 : decode cX6_go 469 = .ok (.aload_n 0, 1) := by decide +kernel
theorem dX6_go_470 : decode cX6_go 470 = .ok (.getfield 26, 3) := by decide +kernel
theorem dX6_go_473 : decode cX6_go 473 = .ok (.iload 7, 2) := by decide +kernel
theorem dX6_go_475 : decode cX6_go 475 = .ok (.fconst 1, 1) := by decide +kernel
theorem dX6_go_476 : decode cX6_go 476 = .ok (.fastore, 1) := by decide +kernel
theorem dX6_go_477 : decode cX6_go 477 = .ok (.aload_n 0, 1) := by decide +kernel
theorem dX6_go_478 : decode cX6_go 478 = .ok (.getfield 33, 3) := by decide +kernel
theorem dX6_go_481 : decode cX6_go 481 = .ok (.aload 8, 2) := by decide +kernel
theorem dX6_go_483 : decode cX6_go 483 = .ok (.iconst 0, 1) := by decide +kernel
theorem dX6_go_484 : decode cX6_go 484 = .ok (.iaload, 1) := by decide +kernel
theorem dX6_go_485 : decode cX6_go 485 = .ok (.daload, 1) := by decide +kernel
theorem dX6_go_486 : decode cX6_go 486 = .ok (.dconst 0, 1) := by decide +kernel
theorem dX6_go_487 : decode cX6_go 487 = .ok (.dcmp .l, 1) := by decide +kernel
theorem dX6_go_488 : decode cX6_go 488 = .ok (.ifCond .ne 13, 3) := by decide +kernel
theorem dX6_go_491 : decode cX6_go 491 = .ok (.aload 9, 2) := by decide +kernel
theorem dX6_go_493 : decode cX6_go 493 = .ok (.iconst 4, 1) := by decide +kernel
theorem dX6_go_494 : decode cX6_go 494 = .ok (.iconst 2, 1) := by decide +kernel
theorem dX6_go_495 : decode cX6_go 495 = .ok (.iastore, 1) := by decide +kernel
theorem dX6_go_496 : decode cX6_go 496 = .ok (.aload 8, 2) := by decide +kernel
theorem dX6_go_498 : decode cX6_go 498 = .ok (.iconst 0, 1) := by decide +kernel
theorem dX6_go_499 : decode cX6_go 499 = .ok (.iconst (-1), 1) := by decide +kernel
theorem dX6_go_500 : decode cX6_go 500 = .ok (.iastore, 1) := by decide +kernel
theorem dX6_go_501 : decode cX6_go 501 = .ok (.goto 67, 3) := by decide +kernel
theorem dX6_go_504 : decode cX6_go 504 = .ok (.aload_n 0, 1) := by decide +kernel
theorem dX6_go_505 : decode cX6_go 505 = .ok (.invokevirtual 126, 3) := by decide +kernel
theorem dX6_go_508 : decode cX6_go 508 = .ok (.ifCond .eq 60, 3) := by decide +kernel
theorem dX6_go_511 : decode cX6_go 511 = .ok (.dload 5, 2) := by decide +kernel
theorem dX6_go_513 : decode cX6_go 513 = .ok (.dconst 1, 1) := by decide +kernel
theorem dX6_go_514 : decode cX6_go 514 = .ok (.dcmp .l, 1) := by decide +kernel
theorem dX6_go_515 : decode cX6_go 515 = .ok (.ifCond .le 53, 3) := by decide +kernel
theorem dX6_go_518 : decode cX6_go 518 = .ok (.aload 8, 2) := by decide +kernel
theorem dX6_go_520 : decode cX6_go 520 = .ok (.iconst 2, 1) := by decide +kernel
theorem dX6_go_521 : decode cX6_go 521 = .ok (.dup2, 1) := by decide +kernel
theorem dX6_go_522 : decode cX6_go 522 = .ok (.iaload, 1) := by decide +kernel
theorem dX6_go_523 : decode cX6_go 523 = .ok (.iconst 1, 1) := by decide +kernel
theorem dX6_go_524 : decode cX6_go 524 = .ok (.iadd, 1) := by decide +kernel
theorem dX6_go_525 : decode cX6_go 525 = .ok (.iastore, 1) := by decide +kernel
theorem dX6_go_526 : decode cX6_go 526 = .ok (.aload_n 0, 1) := by decide +kernel
theorem dX6_go_527 : decode cX6_go 527 = .ok (.getfield 26, 3) := by decide +kernel
theorem dX6_go_530 : decode cX6_go 530 = .ok (.iload 7, 2) := by decide +kernel
theorem dX6_go_532 : decode cX6_go 532 = .ok (.aload_n 0, 1) := by decide +kernel
theorem dX6_go_533 : decode cX6_go 533 = .ok (.getfield 26, 3) := by decide +kernel
theorem dX6_go_536 : decode cX6_go 536 = .ok (.iload 7, 2) := by decide +kernel
theorem dX6_go_538 : decode cX6_go 538 = .ok (.faload, 1) := by decide +kernel
theorem dX6_go_539 : decode cX6_go 539 = .ok (.ldc 125, 2) := by decide +kernel
theorem dX6_go_541 : decode cX6_go 541 = .ok (.fadd, 1) := by decide +kernel
theorem dX6_go_542 : decode cX6_go 542 = .ok (.fconst 1, 1) := by decide +kernel
theorem dX6_go_543 : decode cX6_go 543 = .ok (.fcmp .l, 1) := by decide +kernel
theorem dX6_go_544 : decode cX6_go 544 = .ok (.ifCond .le 7, 3) := by decide +kernel
theorem dX6_go_547 : decode cX6_go 547 = .ok (.fconst 1, 1) := by decide +kernel
theorem dX6_go_548 : decode cX6_go 548 = .ok (.goto 13, 3) := by decide +kernel
theorem dX6_go_551 : decode cX6_go 551 = .ok (.aload_n 0, 1) := by decide +kernel
theorem dX6_go_552 : decode cX6_go 552 = .ok (.getfield 26, 3) := by decide +kernel
theorem dX6_go_555 : decode cX6_go 555 = .ok (.iload 7, 2) := by decide +kernel
theorem dX6_go_557 : decode cX6_go 557 = .ok (.faload, 1) := by decide +kernel
theorem dX6_go_558 : decode cX6_go 558 = .ok (.ldc 125, 2) := by decide +kernel
theorem dX6_go_560 : decode cX6_go 560 = .ok (.fadd, 1) := by decide +kernel
theorem dX6_go_561 : decode cX6_go 561 = .ok (.fastore, 1) := by decide +kernel
theorem dX6_go_562 : decode cX6_go 562 = .ok (.dload 5, 2) := by decide +kernel
theorem dX6_go_564 : decode cX6_go 564 = .ok (.dconst 1, 1) := by decide +kernel
theorem dX6_go_565 : decode cX6_go 565 = .ok (.dsub, 1) := by decide +kernel
theorem dX6_go_566 : decode cX6_go 566 = .ok (.dstore 5, 2) := by decide +kernel
theorem dX6_go_568 : decode cX6_go 568 = .ok (.iinc 7 1, 3) := by decide +kernel
theorem dX6_go_571 : decode cX6_go 571 = .ok (.goto (-342), 3) := by decide +kernel
theorem dX6_go_574 : decode cX6_go 574 = .ok (.aload_n 0, 1) := by decide +kernel
theorem dX6_go_575 : decode cX6_go 575 = .ok (.getfield 91, 3) := by decide +kernel
theorem dX6_go_578 : decode cX6_go 578 = .ok (.bipush 48, 2) := by decide +kernel
theorem dX6_go_580 : decode cX6_go 580 = .ok (.irem, 1) := by decide +kernel
theorem dX6_go_581 : decode cX6_go 581 = .ok (.bipush 12, 2) := by decide +kernel
theorem dX6_go_583 : decode cX6_go 583 = .ok (.if_icmp .lt 15, 3) := by decide +kernel
theorem dX6_go_586 : decode cX6_go 586 = .ok (.aload_n 0, 1) := by decide +kernel
theorem dX6_go_587 : decode cX6_go 587 = .ok (.getfield 91, 3) := by decide +kernel
theorem dX6_go_590 : decode cX6_go 590 = .ok (.bipush 48, 2) := by decide +kernel
theorem dX6_go_592 : decode cX6_go 592 = .ok (.irem, 1) := by decide +kernel
theorem dX6_go_593 : decode cX6_go 593 = .ok (.bipush 35, 2) := by decide +kernel
theorem dX6_go_595 : decode cX6_go 595 = .ok (.if_icmp .le 7, 3) := by decide +kernel
theorem dX6_go_598 : decode cX6_go 598 = .ok (.iconst 1, 1) := by decide +kernel
theorem dX6_go_599 : decode cX6_go 599 = .ok (.goto 4, 3) := by decide +kernel
theorem dX6_go_602 : decode cX6_go 602 = .ok (.iconst 0, 1) := by decide +kernel
theorem dX6_go_603 : decode cX6_go 603 = .ok (.istore 7, 2) := by decide +kernel
theorem dX6_go_605 : decode cX6_go 605 = .ok (.aload_n 0, 1) := by decide +kernel
theorem dX6_go_606 : decode cX6_go 606 = .ok (.getfield 115, 3) := by decide +kernel
theorem dX6_go_609 : decode cX6_go 609 = .ok (.dconst 0, 1) := by decide +kernel
theorem dX6_go_610 : decode cX6_go 610 = .ok (.dcmp .l, 1) := by decide +kernel
theorem dX6_go_611 : decode cX6_go 611 = .ok (.ifCond .le 47, 3) := by decide +kernel
theorem dX6_go_614 : decode cX6_go 614 = .ok (.aload_n 0, 1) := by decide +kernel
theorem dX6_go_615 : decode cX6_go 615 = .ok (.aload_n 0, 1) := by decide +kernel
theorem dX6_go_616 : decode cX6_go 616 = .ok (.getfield 91, 3) := by decide +kernel
theorem dX6_go_619 : decode cX6_go 619 = .ok (.invokevirtual 62, 3) := by decide +kernel
theorem dX6_go_622 : decode cX6_go 622 = .ok (.bipush 12, 2) := by decide +kernel
theorem dX6_go_624 : decode cX6_go 624 = .ok (.if_icmp .le 34, 3) := by decide +kernel
theorem dX6_go_627 : decode cX6_go 627 = .ok (.aload_n 0, 1) := by decide +kernel
theorem dX6_go_628 : decode cX6_go 628 = .ok (.aload_n 0, 1) := by decide +kernel
theorem dX6_go_629 : decode cX6_go 629 = .ok (.getfield 91, 3) := by decide +kernel
theorem dX6_go_632 : decode cX6_go 632 = .ok (.invokevirtual 62, 3) := by decide +kernel
theorem dX6_go_635 : decode cX6_go 635 = .ok (.bipush 18, 2) := by decide +kernel
theorem dX6_go_637 : decode cX6_go 637 = .ok (.if_icmp .ge 21, 3) := by decide +kernel
theorem dX6_go_640 : decode cX6_go 640 = .ok (.iload 7, 2) := by decide +kernel
theorem dX6_go_642 : decode cX6_go 642 = .ok (.ifCond .eq 16, 3) := by decide +kernel
theorem dX6_go_645 : decode cX6_go 645 = .ok (.aload_n 0, 1) := by decide +kernel
theorem dX6_go_646 : decode cX6_go 646 = .ok (.dup, 1) := by decide +kernel
theorem dX6_go_647 : decode cX6_go 647 = .ok (.getfield 134, 3) := by decide +kernel
theorem dX6_go_650 : decode cX6_go 650 = .ok (.aload_n 0, 1) := by decide +kernel
theorem dX6_go_651 : decode cX6_go 651 = .ok (.getfield 118, 3) := by decide +kernel
theorem dX6_go_654 : decode cX6_go 654 = .ok (.iadd, 1) := by decide +kernel
theorem dX6_go_655 : decode cX6_go 655 = .ok (.putfield 134, 3) := by decide +kernel
theorem dX6_go_658 : decode cX6_go 658 = .ok (.aload_n 0, 1) := by decide +kernel
theorem dX6_go_659 : decode cX6_go 659 = .ok (.dup, 1) := by decide +kernel
theorem dX6_go_660 : decode cX6_go 660 = .ok (.getfield 91, 3) := by decide +kernel
theorem dX6_go_663 : decode cX6_go 663 = .ok (.iconst 1, 1) := by decide +kernel
theorem dX6_go_664 : decode cX6_go 664 = .ok (.iadd, 1) := by decide +kernel
theorem dX6_go_665 : decode cX6_go 665 = .ok (.putfield 91, 3) := by decide +kernel
theorem dX6_go_668 : decode cX6_go 668 = .ok (.return_, 1) := by decide +kernel
theorem dX6_count_0 : decode cX6_count 0 = .ok (.iconst 0, 1) := by decide +kernel
theorem dX6_count_1 : decode cX6_count 1 = .ok (.istore_n 2, 1) := by decide +kernel
theorem dX6_count_2 : decode cX6_count 2 = .ok (.aload_n 0, 1) := by decide +kernel
theorem dX6_count_3 : decode cX6_count 3 = .ok (.getfield 30, 3) := by decide +kernel
theorem dX6_count_6 : decode cX6_count 6 = .ok (.astore_n 3, 1) := by decide +kernel
theorem dX6_count_7 : decode cX6_count 7 = .ok (.aload_n 3, 1) := by decide +kernel
theorem dX6_count_8 : decode cX6_count 8 = .ok (.arraylength, 1) := by decide +kernel
theorem dX6_count_9 : decode cX6_count 9 = .ok (.istore 4, 2) := by decide +kernel
theorem dX6_count_11 : decode cX6_count 11 = .ok (.iconst 0, 1) := by decide +kernel
theorem dX6_count_12 : decode cX6_count 12 = .ok (.istore 5, 2) := by decide +kernel
theorem dX6_count_14 : decode cX6_count 14 = .ok (.iload 5, 2) := by decide +kernel
theorem dX6_count_16 : decode cX6_count 16 = .ok (.iload 4, 2) := by decide +kernel
theorem dX6_count_18 : decode cX6_count 18 = .ok (.if_icmp .ge 31, 3) := by decide +kernel
theorem dX6_count_21 : decode cX6_count 21 = .ok (.aload_n 3, 1) := by decide +kernel
theorem dX6_count_22 : decode cX6_count 22 = .ok (.iload 5, 2) := by decide +kernel
theorem dX6_count_24 : decode cX6_count 24 = .ok (.aaload, 1) := by decide +kernel
theorem dX6_count_25 : decode cX6_count 25 = .ok (.astore 6, 2) := by decide +kernel
theorem dX6_count_27 : decode cX6_count 27 = .ok (.iload_n 2, 1) := by decide +kernel
theorem dX6_count_28 : decode cX6_count 28 = .ok (.aload 6, 2) := by decide +kernel
theorem dX6_count_30 : decode cX6_count 30 = .ok (.iconst 4, 1) := by decide +kernel
theorem dX6_count_31 : decode cX6_count 31 = .ok (.iaload, 1) := by decide +kernel
theorem dX6_count_32 : decode cX6_count 32 = .ok (.iload_n 1, 1) := by decide +kernel
theorem dX6_count_33 : decode cX6_count 33 = .ok (.if_icmp .ne 7, 3) := by decide +kernel
theorem dX6_count_36 : decode cX6_count 36 = .ok (.iconst 1, 1) := by decide +kernel
theorem dX6_count_37 : decode cX6_count 37 = .ok (.goto 4, 3) := by decide +kernel
theorem dX6_count_40 : decode cX6_count 40 = .ok (.iconst 0, 1) := by decide +kernel
theorem dX6_count_41 : decode cX6_count 41 = .ok (.iadd, 1) := by decide +kernel
theorem dX6_count_42 : decode cX6_count 42 = .ok (.istore_n 2, 1) := by decide +kernel
theorem dX6_count_43 : decode cX6_count 43 = .ok (.iinc 5 1, 3) := by decide +kernel
theorem dX6_count_46 : decode cX6_count 46 = .ok (.goto (-32), 3) := by decide +kernel
theorem dX6_count_49 : decode cX6_count 49 = .ok (.iload_n 2, 1) := by decide +kernel
theorem dX6_count_50 : decode cX6_count 50 = .ok (.ireturn, 1) := by decide +kernel
set_option maxRecDepth 20000 in
theorem ggX6_moon_X6_draw : GoodIn wsX6_moon wsX6_draw := goodIn_r _ [8, 9, 10, 11, 12, 13, 14, 15, 16, 17, 42, 43, 44, 45, 46, 47, 48, 49, 50, 51, 52, 53, 54, 55, 56, 57, 58, 59, 60, 61, 62, 63, 64] (by decide +kernel) (by decide +kernel)
set_option maxRecDepth 20000 in
theorem gX6_moon_X6_draw : GoodIn wsX6_moon (wsV RX6 137 RX6 yX6_draw wsX6_draw) := goodIn_app (goodIn_of _ (by decide +kernel)) ggX6_moon_X6_draw
set_option maxRecDepth 20000 in
theorem ggX6_moon_X5_moon : GoodIn wsX6_moon wsX5_moon := goodIn_ca (goodIn_r _ [22, 23, 24, 25, 26, 27, 28, 29, 30, 21, 31, 32, 33, 34, 35, 36, 37, 65, 66, 67, 68, 69, 70, 71, 72, 73, 74, 75, 76, 77, 78, 79, 80] (by decide +kernel) (by decide +kernel)) (goodIn_sub (fun _ h => List.mem_cons_of_mem _ (List.mem_append_right _ h)) (by decide +kernel))
set_option maxRecDepth 20000 in
theorem gX6_moon_X5_moon : GoodIn wsX6_moon (wsV RX6 140 RX5 yX5_moon wsX5_moon) := goodIn_app (goodIn_of _ (by decide +kernel)) ggX6_moon_X5_moon
set_option maxRecDepth 20000 in
theorem ggX6_moon_X6_age : GoodIn wsX6_moon wsX6_age := goodIn_r _ [41, 1, 42, 43, 44, 45, 46, 47, 48, 49, 50, 51, 52, 53, 54, 55, 56, 57, 58, 59, 60, 61, 62, 63, 64] (by decide +kernel) (by decide +kernel)
set_option maxRecDepth 20000 in
theorem gX6_moon_X6_age : GoodIn wsX6_moon (wsV RX6 62 RX6 yX6_age wsX6_age) := goodIn_app (goodIn_of _ (by decide +kernel)) ggX6_moon_X6_age
theorem dX6_moon_0 : decode cX6_moon 0 = .ok (.aload_n 0, 1) := by decide +kernel
theorem dX6_moon_1 : decode cX6_moon 1 = .ok (.aload_n 0, 1) := by decide +kernel
theorem dX6_moon_2 : decode cX6_moon 2 = .ok (.iconst 3, 1) := by decide +kernel
theorem dX6_moon_3 : decode cX6_moon 3 = .ok (.invokevirtual 137, 3) := by decide +kernel
theorem dX6_moon_6 : decode cX6_moon 6 = .ok (.ifCond .ne 14, 3) := by decide +kernel
theorem dX6_moon_9 : decode cX6_moon 9 = .ok (.bipush 13, 2) := by decide +kernel
theorem dX6_moon_11 : decode cX6_moon 11 = .ok (.aload_n 0, 1) := by decide +kernel
theorem dX6_moon_12 : decode cX6_moon 12 = .ok (.iconst 5, 1) := by decide +kernel
theorem dX6_moon_13 : decode cX6_moon 13 = .ok (.invokevirtual 137, 3) := by decide +kernel
theorem dX6_moon_16 : decode cX6_moon 16 = .ok (.iadd, 1) := by decide +kernel
theorem dX6_moon_17 : decode cX6_moon 17 = .ok (.goto 9, 3) := by decide +kernel
theorem dX6_moon_20 : decode cX6_moon 20 = .ok (.aload_n 0, 1) := by decide +kernel
theorem dX6_moon_21 : decode cX6_moon 21 = .ok (.bipush 30, 2) := by decide +kernel
theorem dX6_moon_23 : decode cX6_moon 23 = .ok (.invokevirtual 137, 3) := by decide +kernel
theorem dX6_moon_26 : decode cX6_moon 26 = .ok (.putfield 59, 3) := by decide +kernel
theorem dX6_moon_29 : decode cX6_moon 29 = .ok (.aload_n 0, 1) := by decide +kernel
theorem dX6_moon_30 : decode cX6_moon 30 = .ok (.getfield 10, 3) := by decide +kernel
theorem dX6_moon_33 : decode cX6_moon 33 = .ok (.aload_n 0, 1) := by decide +kernel
theorem dX6_moon_34 : decode cX6_moon 34 = .ok (.getfield 59, 3) := by decide +kernel
theorem dX6_moon_37 : decode cX6_moon 37 = .ok (.invokevirtual 140, 3) := by decide +kernel
theorem dX6_moon_40 : decode cX6_moon 40 = .ok (.aload_n 0, 1) := by decide +kernel
theorem dX6_moon_41 : decode cX6_moon 41 = .ok (.aload_n 0, 1) := by decide +kernel
theorem dX6_moon_42 : decode cX6_moon 42 = .ok (.getfield 91, 3) := by decide +kernel
theorem dX6_moon_45 : decode cX6_moon 45 = .ok (.invokevirtual 62, 3) := by decide +kernel
theorem dX6_moon_48 : decode cX6_moon 48 = .ok (.if_icmp .ne 7, 3) := by decide +kernel
theorem dX6_moon_51 : decode cX6_moon 51 = .ok (.iconst 1, 1) := by decide +kernel
theorem dX6_moon_52 : decode cX6_moon 52 = .ok (.goto 4, 3) := by decide +kernel
theorem dX6_moon_55 : decode cX6_moon 55 = .ok (.iconst 0, 1) := by decide +kernel
theorem dX6_moon_56 : decode cX6_moon 56 = .ok (.ireturn, 1) := by decide +kernel
set_option maxRecDepth 20000 in
theorem ggX6_surge_X6_draw : GoodIn wsX6_surge wsX6_draw := goodIn_r _ [9, 10, 11, 12, 13, 14, 15, 16, 17, 18, 88, 89, 90, 91, 92, 93, 94, 95, 96, 97, 98, 99, 100, 101, 102, 103, 104, 105, 106, 107, 108, 109, 110] (by decide +kernel) (by decide +kernel)
set_option maxRecDepth 20000 in
theorem gX6_surge_X6_draw : GoodIn wsX6_surge (wsV RX6 137 RX6 yX6_draw wsX6_draw) := goodIn_app (goodIn_of _ (by decide +kernel)) ggX6_surge_X6_draw
set_option maxRecDepth 20000 in
theorem ggX6_surge_X5_surge : GoodIn wsX6_surge wsX5_surge := goodIn_ca (goodIn_r _ [23, 24, 25, 26, 27, 28, 29, 30, 31, 32, 22, 33, 34, 35, 36, 37, 38, 39, 40, 41, 42, 43, 44, 45, 46, 47, 48, 49, 50, 51, 52, 53, 54, 55, 56, 57, 58, 59, 60, 61, 62, 63, 64, 65, 66, 67, 68, 69, 111, 112, 113, 114, 115, 116, 117, 118, 119, 120, 121, 122, 123, 124, 125, 126] (by decide +kernel) (by decide +kernel)) (goodIn_sub (fun _ h => List.mem_cons_of_mem _ (List.mem_append_right _ h)) (by decide +kernel))
set_option maxRecDepth 20000 in
theorem gX6_surge_X5_surge : GoodIn wsX6_surge (wsV RX6 142 RX5 yX5_surge wsX5_surge) := goodIn_app (goodIn_of _ (by decide +kernel)) ggX6_surge_X5_surge
set_option maxRecDepth 20000 in
theorem ggX6_surge_X6_sea : GoodIn wsX6_surge wsX6_sea := goodIn_r _ [73, 74, 1, 75, 76, 77, 2, 78, 79, 80, 81, 8, 82, 83, 84, 85, 86, 87, 88, 89, 90, 91, 92, 93, 94, 95, 96, 97, 98, 99, 100, 101, 102, 103, 104, 105, 106, 107, 108, 109, 110] (by decide +kernel) (by decide +kernel)
set_option maxRecDepth 20000 in
theorem gX6_surge_X6_sea : GoodIn wsX6_surge (wsV RX6 97 RX6 yX6_sea wsX6_sea) := goodIn_app (goodIn_of _ (by decide +kernel)) ggX6_surge_X6_sea
theorem dX6_surge_0 : decode cX6_surge 0 = .ok (.aload_n 0, 1) := by decide +kernel
theorem dX6_surge_1 : decode cX6_surge 1 = .ok (.bipush 17, 2) := by decide +kernel
theorem dX6_surge_3 : decode cX6_surge 3 = .ok (.invokevirtual 137, 3) := by decide +kernel
theorem dX6_surge_6 : decode cX6_surge 6 = .ok (.bipush 8, 2) := by decide +kernel
theorem dX6_surge_8 : decode cX6_surge 8 = .ok (.isub, 1) := by decide +kernel
theorem dX6_surge_9 : decode cX6_surge 9 = .ok (.istore_n 1, 1) := by decide +kernel
theorem dX6_surge_10 : decode cX6_surge 10 = .ok (.aload_n 0, 1) := by decide +kernel
theorem dX6_surge_11 : decode cX6_surge 11 = .ok (.iload_n 1, 1) := by decide +kernel
theorem dX6_surge_12 : decode cX6_surge 12 = .ok (.i2d, 1) := by decide +kernel
theorem dX6_surge_13 : decode cX6_surge 13 = .ok (.ldc2_w 68, 3) := by decide +kernel
theorem dX6_surge_16 : decode cX6_surge 16 = .ok (.dmul, 1) := by decide +kernel
theorem dX6_surge_17 : decode cX6_surge 17 = .ok (.putfield 79, 3) := by decide +kernel
theorem dX6_surge_20 : decode cX6_surge 20 = .ok (.aload_n 0, 1) := by decide +kernel
theorem dX6_surge_21 : decode cX6_surge 21 = .ok (.getfield 10, 3) := by decide +kernel
theorem dX6_surge_24 : decode cX6_surge 24 = .ok (.iload_n 1, 1) := by decide +kernel
theorem dX6_surge_25 : decode cX6_surge 25 = .ok (.invokevirtual 142, 3) := by decide +kernel
theorem dX6_surge_28 : decode cX6_surge 28 = .ok (.aload_n 0, 1) := by decide +kernel
theorem dX6_surge_29 : decode cX6_surge 29 = .ok (.aload_n 0, 1) := by decide +kernel
theorem dX6_surge_30 : decode cX6_surge 30 = .ok (.getfield 91, 3) := by decide +kernel
theorem dX6_surge_33 : decode cX6_surge 33 = .ok (.invokevirtual 97, 3) := by decide +kernel
theorem dX6_surge_36 : decode cX6_surge 36 = .ok (.dcmp .l, 1) := by decide +kernel
theorem dX6_surge_37 : decode cX6_surge 37 = .ok (.ifCond .ne 7, 3) := by decide +kernel
theorem dX6_surge_40 : decode cX6_surge 40 = .ok (.iconst 1, 1) := by decide +kernel
theorem dX6_surge_41 : decode cX6_surge 41 = .ok (.goto 4, 3) := by decide +kernel
theorem dX6_surge_44 : decode cX6_surge 44 = .ok (.iconst 0, 1) := by decide +kernel
theorem dX6_surge_45 : decode cX6_surge 45 = .ok (.ireturn, 1) := by decide +kernel
set_option maxRecDepth 20000 in
theorem ggX6_gates_X6_draw : GoodIn wsX6_gates wsX6_draw := goodIn_r _ [8, 9, 10, 11, 12, 13, 14, 15, 16, 17, 34, 35, 36, 37, 38, 39, 40, 41, 42, 43, 44, 45, 46, 47, 48, 49, 50, 51, 52, 53, 54, 55, 56] (by decide +kernel) (by decide +kernel)
set_option maxRecDepth 20000 in
theorem gX6_gates_X6_draw : GoodIn wsX6_gates (wsV RX6 137 RX6 yX6_draw wsX6_draw) := goodIn_app (goodIn_of _ (by decide +kernel)) ggX6_gates_X6_draw
set_option maxRecDepth 20000 in
theorem ggX6_gates_X5_gates : GoodIn wsX6_gates wsX5_gates := goodIn_ca (goodIn_ca (goodIn_r _ [22, 23, 24, 25, 26, 27, 28, 29, 30, 31, 32, 21, 33, 57, 58, 59, 60, 61, 62, 63, 64, 65, 66, 67, 68, 69, 70, 71, 72, 73, 74, 75] (by decide +kernel) (by decide +kernel)) (goodIn_sub (fun _ h => List.mem_cons_of_mem _ (List.mem_append_left _ (List.mem_append_right _ h))) (by decide +kernel))) (goodIn_sub (fun _ h => List.mem_cons_of_mem _ (List.mem_append_right _ h)) (by decide +kernel))
set_option maxRecDepth 20000 in
theorem gX6_gates_X5_gates : GoodIn wsX6_gates (wsV RX6 147 RX5 yX5_gates wsX5_gates) := goodIn_app (goodIn_of _ (by decide +kernel)) ggX6_gates_X5_gates
theorem dX6_gates_0 : decode cX6_gates 0 = .ok (.aload_n 0, 1) := by decide +kernel
theorem dX6_gates_1 : decode cX6_gates 1 = .ok (.getfield 144, 3) := by decide +kernel
theorem dX6_gates_4 : decode cX6_gates 4 = .ok (.ifCond .eq 5, 3) := by decide +kernel
theorem dX6_gates_7 : decode cX6_gates 7 = .ok (.iconst 1, 1) := by decide +kernel
theorem dX6_gates_8 : decode cX6_gates 8 = .ok (.ireturn, 1) := by decide +kernel
theorem dX6_gates_9 : decode cX6_gates 9 = .ok (.aload_n 0, 1) := by decide +kernel
theorem dX6_gates_10 : decode cX6_gates 10 = .ok (.getfield 101, 3) := by decide +kernel
theorem dX6_gates_13 : decode cX6_gates 13 = .ok (.istore_n 1, 1) := by decide +kernel
theorem dX6_gates_14 : decode cX6_gates 14 = .ok (.aload_n 0, 1) := by decide +kernel
theorem dX6_gates_15 : decode cX6_gates 15 = .ok (.aload_n 0, 1) := by decide +kernel
theorem dX6_gates_16 : decode cX6_gates 16 = .ok (.iconst 4, 1) := by decide +kernel
theorem dX6_gates_17 : decode cX6_gates 17 = .ok (.invokevirtual 137, 3) := by decide +kernel
theorem dX6_gates_20 : decode cX6_gates 20 = .ok (.putfield 101, 3) := by decide +kernel
theorem dX6_gates_23 : decode cX6_gates 23 = .ok (.aload_n 0, 1) := by decide +kernel
theorem dX6_gates_24 : decode cX6_gates 24 = .ok (.getfield 10, 3) := by decide +kernel
theorem dX6_gates_27 : decode cX6_gates 27 = .ok (.aload_n 0, 1) := by decide +kernel
theorem dX6_gates_28 : decode cX6_gates 28 = .ok (.getfield 101, 3) := by decide +kernel
theorem dX6_gates_31 : decode cX6_gates 31 = .ok (.invokevirtual 147, 3) := by decide +kernel
theorem dX6_gates_34 : decode cX6_gates 34 = .ok (.iload_n 1, 1) := by decide +kernel
theorem dX6_gates_35 : decode cX6_gates 35 = .ok (.if_icmp .ne 7, 3) := by decide +kernel
theorem dX6_gates_38 : decode cX6_gates 38 = .ok (.iconst 1, 1) := by decide +kernel
theorem dX6_gates_39 : decode cX6_gates 39 = .ok (.goto 4, 3) := by decide +kernel
theorem dX6_gates_42 : decode cX6_gates 42 = .ok (.iconst 0, 1) := by decide +kernel
theorem dX6_gates_43 : decode cX6_gates 43 = .ok (.ireturn, 1) := by decide +kernel
set_option maxRecDepth 20000 in
theorem ggX6_sluice_X6_draw : GoodIn wsX6_sluice wsX6_draw := goodIn_r _ [7, 8, 9, 10, 11, 12, 13, 14, 15, 16, 30, 31, 32, 33, 34, 35, 36, 37, 38, 39, 40, 41, 42, 43, 44, 45, 46, 47, 48, 49, 50, 51, 52] (by decide +kernel) (by decide +kernel)
set_option maxRecDepth 20000 in
theorem gX6_sluice_X6_draw : GoodIn wsX6_sluice (wsV RX6 137 RX6 yX6_draw wsX6_draw) := goodIn_app (goodIn_of _ (by decide +kernel)) ggX6_sluice_X6_draw
set_option maxRecDepth 20000 in
theorem ggX6_sluice_X5_sluice : GoodIn wsX6_sluice wsX5_sluice := goodIn_ca (goodIn_r _ [21, 22, 23, 24, 25, 26, 27, 28, 20, 29, 53, 54, 55, 56, 57, 58, 59, 60, 61, 62, 63, 64, 65, 66, 67, 68, 69, 70, 71] (by decide +kernel) (by decide +kernel)) (goodIn_sub (fun _ h => List.mem_cons_of_mem _ (List.mem_append_right _ h)) (by decide +kernel))
set_option maxRecDepth 20000 in
theorem gX6_sluice_X5_sluice : GoodIn wsX6_sluice (wsV RX6 149 RX5 yX5_sluice wsX5_sluice) := goodIn_app (goodIn_of _ (by decide +kernel)) ggX6_sluice_X5_sluice
theorem dX6_sluice_0 : decode cX6_sluice 0 = .ok (.aload_n 0, 1) := by decide +kernel
theorem dX6_sluice_1 : decode cX6_sluice 1 = .ok (.getfield 118, 3) := by decide +kernel
theorem dX6_sluice_4 : decode cX6_sluice 4 = .ok (.istore_n 1, 1) := by decide +kernel
theorem dX6_sluice_5 : decode cX6_sluice 5 = .ok (.aload_n 0, 1) := by decide +kernel
theorem dX6_sluice_6 : decode cX6_sluice 6 = .ok (.aload_n 0, 1) := by decide +kernel
theorem dX6_sluice_7 : decode cX6_sluice 7 = .ok (.iconst 5, 1) := by decide +kernel
theorem dX6_sluice_8 : decode cX6_sluice 8 = .ok (.invokevirtual 137, 3) := by decide +kernel
theorem dX6_sluice_11 : decode cX6_sluice 11 = .ok (.putfield 118, 3) := by decide +kernel
theorem dX6_sluice_14 : decode cX6_sluice 14 = .ok (.aload_n 0, 1) := by decide +kernel
theorem dX6_sluice_15 : decode cX6_sluice 15 = .ok (.getfield 10, 3) := by decide +kernel
theorem dX6_sluice_18 : decode cX6_sluice 18 = .ok (.aload_n 0, 1) := by decide +kernel
theorem dX6_sluice_19 : decode cX6_sluice 19 = .ok (.getfield 118, 3) := by decide +kernel
theorem dX6_sluice_22 : decode cX6_sluice 22 = .ok (.invokevirtual 149, 3) := by decide +kernel
theorem dX6_sluice_25 : decode cX6_sluice 25 = .ok (.iload_n 1, 1) := by decide +kernel
theorem dX6_sluice_26 : decode cX6_sluice 26 = .ok (.if_icmp .ne 7, 3) := by decide +kernel
theorem dX6_sluice_29 : decode cX6_sluice 29 = .ok (.iconst 1, 1) := by decide +kernel
theorem dX6_sluice_30 : decode cX6_sluice 30 = .ok (.goto 4, 3) := by decide +kernel
theorem dX6_sluice_33 : decode cX6_sluice 33 = .ok (.iconst 0, 1) := by decide +kernel
theorem dX6_sluice_34 : decode cX6_sluice 34 = .ok (.ireturn, 1) := by decide +kernel
set_option maxRecDepth 20000 in
theorem ggX6_scour_X6_draw : GoodIn wsX6_scour wsX6_draw := goodIn_r _ [7, 8, 9, 10, 11, 12, 13, 14, 15, 16, 25, 26, 27, 28, 29, 30, 31, 32, 33, 34, 35, 36, 37, 38, 39, 40, 41, 42, 43, 44, 45, 46, 47] (by decide +kernel) (by decide +kernel)
set_option maxRecDepth 20000 in
theorem gX6_scour_X6_draw : GoodIn wsX6_scour (wsV RX6 137 RX6 yX6_draw wsX6_draw) := goodIn_app (goodIn_of _ (by decide +kernel)) ggX6_scour_X6_draw
set_option maxRecDepth 20000 in
theorem ggX6_scour_X5_scour : GoodIn wsX6_scour wsX5_scour := goodIn_r _ [21, 22, 23, 24, 48, 49, 50, 51, 52, 53, 54, 55, 56, 57, 58, 59, 60, 61, 62, 63, 64, 65, 66] (by decide +kernel) (by decide +kernel)
set_option maxRecDepth 20000 in
theorem gX6_scour_X5_scour : GoodIn wsX6_scour (wsV RX6 151 RX5 yX5_scour wsX5_scour) := goodIn_app (goodIn_of _ (by decide +kernel)) ggX6_scour_X5_scour
theorem dX6_scour_0 : decode cX6_scour 0 = .ok (.aload_n 0, 1) := by decide +kernel
theorem dX6_scour_1 : decode cX6_scour 1 = .ok (.getfield 121, 3) := by decide +kernel
theorem dX6_scour_4 : decode cX6_scour 4 = .ok (.istore_n 1, 1) := by decide +kernel
theorem dX6_scour_5 : decode cX6_scour 5 = .ok (.aload_n 0, 1) := by decide +kernel
theorem dX6_scour_6 : decode cX6_scour 6 = .ok (.aload_n 0, 1) := by decide +kernel
theorem dX6_scour_7 : decode cX6_scour 7 = .ok (.iconst 2, 1) := by decide +kernel
theorem dX6_scour_8 : decode cX6_scour 8 = .ok (.invokevirtual 137, 3) := by decide +kernel
theorem dX6_scour_11 : decode cX6_scour 11 = .ok (.ifCond .ne 7, 3) := by decide +kernel
theorem dX6_scour_14 : decode cX6_scour 14 = .ok (.iconst 1, 1) := by decide +kernel
theorem dX6_scour_15 : decode cX6_scour 15 = .ok (.goto 4, 3) := by decide +kernel
theorem dX6_scour_18 : decode cX6_scour 18 = .ok (.iconst 0, 1) := by decide +kernel
theorem dX6_scour_19 : decode cX6_scour 19 = .ok (.putfield 121, 3) := by decide +kernel
theorem dX6_scour_22 : decode cX6_scour 22 = .ok (.aload_n 0, 1) := by decide +kernel
theorem dX6_scour_23 : decode cX6_scour 23 = .ok (.getfield 10, 3) := by decide +kernel
theorem dX6_scour_26 : decode cX6_scour 26 = .ok (.aload_n 0, 1) := by decide +kernel
theorem dX6_scour_27 : decode cX6_scour 27 = .ok (.getfield 121, 3) := by decide +kernel
theorem dX6_scour_30 : decode cX6_scour 30 = .ok (.invokevirtual 151, 3) := by decide +kernel
theorem dX6_scour_33 : decode cX6_scour 33 = .ok (.iload_n 1, 1) := by decide +kernel
theorem dX6_scour_34 : decode cX6_scour 34 = .ok (.if_icmp .ne 7, 3) := by decide +kernel
theorem dX6_scour_37 : decode cX6_scour 37 = .ok (.iconst 1, 1) := by decide +kernel
theorem dX6_scour_38 : decode cX6_scour 38 = .ok (.goto 4, 3) := by decide +kernel
theorem dX6_scour_41 : decode cX6_scour 41 = .ok (.iconst 0, 1) := by decide +kernel
theorem dX6_scour_42 : decode cX6_scour 42 = .ok (.ireturn, 1) := by decide +kernel
set_option maxRecDepth 20000 in
theorem ggX6_hours_X6_draw : GoodIn wsX6_hours wsX6_draw := goodIn_r _ [8, 9, 10, 11, 12, 13, 14, 15, 16, 17, 50, 51, 52, 53, 54, 55, 56, 57, 58, 59, 60, 61, 62, 63, 64, 65, 66, 67, 68, 69, 70, 71, 72] (by decide +kernel) (by decide +kernel)
set_option maxRecDepth 20000 in
theorem gX6_hours_X6_draw : GoodIn wsX6_hours (wsV RX6 137 RX6 yX6_draw wsX6_draw) := goodIn_app (goodIn_of _ (by decide +kernel)) ggX6_hours_X6_draw
set_option maxRecDepth 20000 in
theorem ggX6_hours_X5_hours : GoodIn wsX6_hours wsX5_hours := goodIn_ca (goodIn_r _ [22, 23, 24, 25, 26, 27, 28, 29, 21, 30, 31, 32, 33, 34, 35, 36, 37, 38, 39, 40, 41, 42, 43, 44, 73, 74, 75, 76, 77, 78, 79, 80, 81, 82, 83, 84, 85, 86, 87, 88] (by decide +kernel) (by decide +kernel)) (goodIn_sub (fun _ h => List.mem_cons_of_mem _ (List.mem_append_right _ h)) (by decide +kernel))
set_option maxRecDepth 20000 in
theorem gX6_hours_X5_hours : GoodIn wsX6_hours (wsV RX6 155 RX5 yX5_hours wsX5_hours) := goodIn_app (goodIn_of _ (by decide +kernel)) ggX6_hours_X5_hours
set_option maxRecDepth 20000 in
theorem ggX6_hours_X6_isAwake : GoodIn wsX6_hours wsX6_isAwake := goodIn_r _ [48, 49, 1, 2, 50, 51, 52, 53, 54, 55, 56, 57, 58, 59, 60, 61, 62, 63, 64, 65, 66, 67, 68, 69, 70, 71, 72] (by decide +kernel) (by decide +kernel)
set_option maxRecDepth 20000 in
theorem gX6_hours_X6_isAwake : GoodIn wsX6_hours (wsV RX6 126 RX6 yX6_isAwake wsX6_isAwake) := goodIn_app (goodIn_of _ (by decide +kernel)) ggX6_hours_X6_isAwake
theorem dX6_hours_0 : decode cX6_hours 0 = .ok (.aload_n 0, 1) := by decide +kernel
theorem dX6_hours_1 : decode cX6_hours 1 = .ok (.aload_n 0, 1) := by decide +kernel
theorem dX6_hours_2 : decode cX6_hours 2 = .ok (.bipush 48, 2) := by decide +kernel
theorem dX6_hours_4 : decode cX6_hours 4 = .ok (.invokevirtual 137, 3) := by decide +kernel
theorem dX6_hours_7 : decode cX6_hours 7 = .ok (.putfield 94, 3) := by decide +kernel
theorem dX6_hours_10 : decode cX6_hours 10 = .ok (.aload_n 0, 1) := by decide +kernel
theorem dX6_hours_11 : decode cX6_hours 11 = .ok (.aload_n 0, 1) := by decide +kernel
theorem dX6_hours_12 : decode cX6_hours 12 = .ok (.iconst 2, 1) := by decide +kernel
theorem dX6_hours_13 : decode cX6_hours 13 = .ok (.invokevirtual 137, 3) := by decide +kernel
theorem dX6_hours_16 : decode cX6_hours 16 = .ok (.ifCond .ne 16, 3) := by decide +kernel
theorem dX6_hours_19 : decode cX6_hours 19 = .ok (.aload_n 0, 1) := by decide +kernel
theorem dX6_hours_20 : decode cX6_hours 20 = .ok (.getfield 94, 3) := by decide +kernel
theorem dX6_hours_23 : decode cX6_hours 23 = .ok (.bipush 30, 2) := by decide +kernel
theorem dX6_hours_25 : decode cX6_hours 25 = .ok (.iadd, 1) := by decide +kernel
theorem dX6_hours_26 : decode cX6_hours 26 = .ok (.bipush 48, 2) := by decide +kernel
theorem dX6_hours_28 : decode cX6_hours 28 = .ok (.irem, 1) := by decide +kernel
theorem dX6_hours_29 : decode cX6_hours 29 = .ok (.goto 9, 3) := by decide +kernel
theorem dX6_hours_32 : decode cX6_hours 32 = .ok (.aload_n 0, 1) := by decide +kernel
theorem dX6_hours_33 : decode cX6_hours 33 = .ok (.bipush 48, 2) := by decide +kernel
theorem dX6_hours_35 : decode cX6_hours 35 = .ok (.invokevirtual 137, 3) := by decide +kernel
theorem dX6_hours_38 : decode cX6_hours 38 = .ok (.putfield 16, 3) := by decide +kernel
theorem dX6_hours_41 : decode cX6_hours 41 = .ok (.aload_n 0, 1) := by decide +kernel
theorem dX6_hours_42 : decode cX6_hours 42 = .ok (.getfield 10, 3) := by decide +kernel
theorem dX6_hours_45 : decode cX6_hours 45 = .ok (.aload_n 0, 1) := by decide +kernel
theorem dX6_hours_46 : decode cX6_hours 46 = .ok (.getfield 94, 3) := by decide +kernel
theorem dX6_hours_49 : decode cX6_hours 49 = .ok (.aload_n 0, 1) := by decide +kernel
theorem dX6_hours_50 : decode cX6_hours 50 = .ok (.getfield 16, 3) := by decide +kernel
theorem dX6_hours_53 : decode cX6_hours 53 = .ok (.invokevirtual 155, 3) := by decide +kernel
theorem dX6_hours_56 : decode cX6_hours 56 = .ok (.aload_n 0, 1) := by decide +kernel
theorem dX6_hours_57 : decode cX6_hours 57 = .ok (.invokevirtual 126, 3) := by decide +kernel
theorem dX6_hours_60 : decode cX6_hours 60 = .ok (.if_icmp .ne 7, 3) := by decide +kernel
theorem dX6_hours_63 : decode cX6_hours 63 = .ok (.iconst 1, 1) := by decide +kernel
theorem dX6_hours_64 : decode cX6_hours 64 = .ok (.goto 4, 3) := by decide +kernel
theorem dX6_hours_67 : decode cX6_hours 67 = .ok (.iconst 0, 1) := by decide +kernel
theorem dX6_hours_68 : decode cX6_hours 68 = .ok (.ireturn, 1) := by decide +kernel
set_option maxRecDepth 20000 in
theorem ggX6_pair_X6_plus : GoodIn wsX6_pair wsX6_plus := goodIn_r _ [7, 8, 9, 10, 11, 12] (by decide +kernel) (by decide +kernel)
set_option maxRecDepth 20000 in
theorem gX6_pair_X6_plus : GoodIn wsX6_pair (va_wsS RX6 169 yX6_plus wsX6_plus) := goodIn_app (goodIn_of _ (by decide +kernel)) ggX6_pair_X6_plus
set_option maxRecDepth 20000 in
theorem ggX6_pair_X5_pair : GoodIn wsX6_pair wsX5_pair := goodIn_ca (goodIn_r _ [17, 18, 19, 20, 21, 22, 23, 24, 25, 26, 27, 28, 29, 53, 54, 55, 56, 57, 58, 59, 60, 61, 62, 63, 64, 65, 66, 67, 68, 69, 70] (by decide +kernel) (by decide +kernel)) (goodIn_sub (fun _ h => List.mem_cons_of_mem _ (List.mem_append_right _ h)) (by decide +kernel))
set_option maxRecDepth 20000 in
theorem gX6_pair_X5_pair : GoodIn wsX6_pair (wsV RX6 173 RX5 yX5_pair wsX5_pair) := goodIn_app (goodIn_of _ (by decide +kernel)) ggX6_pair_X5_pair
theorem dX6_pair_0 : decode cX6_pair 0 = .ok (.aload_n 0, 1) := by decide +kernel
theorem dX6_pair_1 : decode cX6_pair 1 = .ok (.aload_n 0, 1) := by decide +kernel
theorem dX6_pair_2 : decode cX6_pair 2 = .ok (.getfield 22, 3) := by decide +kernel
theorem dX6_pair_5 : decode cX6_pair 5 = .ok (.iconst 3, 1) := by decide +kernel
theorem dX6_pair_6 : decode cX6_pair 6 = .ok (.newarray .int, 2) := by decide +kernel
theorem dX6_pair_8 : decode cX6_pair 8 = .ok (.dup, 1) := by decide +kernel
theorem dX6_pair_9 : decode cX6_pair 9 = .ok (.iconst 0, 1) := by decide +kernel
theorem dX6_pair_10 : decode cX6_pair 10 = .ok (.iconst (-1), 1) := by decide +kernel
theorem dX6_pair_11 : decode cX6_pair 11 = .ok (.iastore, 1) := by decide +kernel
theorem dX6_pair_12 : decode cX6_pair 12 = .ok (.dup, 1) := by decide +kernel
theorem dX6_pair_13 : decode cX6_pair 13 = .ok (.iconst 1, 1) := by decide +kernel
theorem dX6_pair_14 : decode cX6_pair 14 = .ok (.iconst 0, 1) := by decide +kernel
theorem dX6_pair_15 : decode cX6_pair 15 = .ok (.iastore, 1) := by decide +kernel
theorem dX6_pair_16 : decode cX6_pair 16 = .ok (.dup, 1) := by decide +kernel
theorem dX6_pair_17 : decode cX6_pair 17 = .ok (.iconst 2, 1) := by decide +kernel
theorem dX6_pair_18 : decode cX6_pair 18 = .ok (.iconst 0, 1) := by decide +kernel
theorem dX6_pair_19 : decode cX6_pair 19 = .ok (.iastore, 1) := by decide +kernel
theorem dX6_pair_20 : decode cX6_pair 20 = .ok (.invokestatic 169, 3) := by decide +kernel
theorem dX6_pair_23 : decode cX6_pair 23 = .ok (.putfield 22, 3) := by decide +kernel
theorem dX6_pair_26 : decode cX6_pair 26 = .ok (.aload_n 0, 1) := by decide +kernel
theorem dX6_pair_27 : decode cX6_pair 27 = .ok (.getfield 10, 3) := by decide +kernel
theorem dX6_pair_30 : decode cX6_pair 30 = .ok (.invokevirtual 173, 3) := by decide +kernel
theorem dX6_pair_33 : decode cX6_pair 33 = .ok (.aload_n 0, 1) := by decide +kernel
theorem dX6_pair_34 : decode cX6_pair 34 = .ok (.getfield 22, 3) := by decide +kernel
theorem dX6_pair_37 : decode cX6_pair 37 = .ok (.arraylength, 1) := by decide +kernel
theorem dX6_pair_38 : decode cX6_pair 38 = .ok (.iconst 1, 1) := by decide +kernel
theorem dX6_pair_39 : decode cX6_pair 39 = .ok (.isub, 1) := by decide +kernel
theorem dX6_pair_40 : decode cX6_pair 40 = .ok (.if_icmp .ne 7, 3) := by decide +kernel
theorem dX6_pair_43 : decode cX6_pair 43 = .ok (.iconst 1, 1) := by decide +kernel
theorem dX6_pair_44 : decode cX6_pair 44 = .ok (.goto 4, 3) := by decide +kernel
theorem dX6_pair_47 : decode cX6_pair 47 = .ok (.iconst 0, 1) := by decide +kernel
theorem dX6_pair_48 : decode cX6_pair 48 = .ok (.ireturn, 1) := by decide +kernel
set_option maxRecDepth 20000 in
theorem ggX6_lot_X6_draw : GoodIn wsX6_lot wsX6_draw := goodIn_r _ [10, 11, 12, 13, 14, 15, 16, 17, 18, 19, 62, 63, 64, 65, 66, 67, 68, 69, 70, 71, 72, 73, 74, 75, 76, 77, 78, 79, 80, 81, 82, 83, 84] (by decide +kernel) (by decide +kernel)
set_option maxRecDepth 20000 in
theorem gX6_lot_X6_draw : GoodIn wsX6_lot (wsV RX6 137 RX6 yX6_draw wsX6_draw) := goodIn_app (goodIn_of _ (by decide +kernel)) ggX6_lot_X6_draw
set_option maxRecDepth 20000 in
theorem ggX6_lot_X6_plus : GoodIn wsX6_lot wsX6_plus := goodIn_r _ [22, 23, 24, 25, 26, 27] (by decide +kernel) (by decide +kernel)
set_option maxRecDepth 20000 in
theorem gX6_lot_X6_plus : GoodIn wsX6_lot (va_wsS RX6 169 yX6_plus wsX6_plus) := goodIn_app (goodIn_of _ (by decide +kernel)) ggX6_lot_X6_plus
set_option maxRecDepth 20000 in
theorem ggX6_lot_X5_lot : GoodIn wsX6_lot wsX5_lot := goodIn_ca (goodIn_ca (goodIn_r _ [32, 33, 34, 35, 36, 37, 38, 39, 40, 41, 42, 31, 43, 44, 45, 46, 47, 48, 49, 50, 51, 52, 53, 54, 55, 56, 57, 58, 59, 60, 61, 85, 86, 87, 88, 89, 90, 91, 92, 93, 94, 95, 96, 97, 98, 99, 100, 101, 102, 103, 104, 105, 106, 107] (by decide +kernel) (by decide +kernel)) (goodIn_sub (fun _ h => List.mem_cons_of_mem _ (List.mem_append_left _ (List.mem_append_right _ h))) (by decide +kernel))) (goodIn_sub (fun _ h => List.mem_cons_of_mem _ (List.mem_append_right _ h)) (by decide +kernel))
set_option maxRecDepth 20000 in
theorem gX6_lot_X5_lot : GoodIn wsX6_lot (wsV RX6 176 RX5 yX5_lot wsX5_lot) := goodIn_app (goodIn_of _ (by decide +kernel)) ggX6_lot_X5_lot
theorem dX6_lot_0 : decode cX6_lot 0 = .ok (.aload_n 0, 1) := by decide +kernel
theorem dX6_lot_1 : decode cX6_lot 1 = .ok (.getfield 30, 3) := by decide +kernel
theorem dX6_lot_4 : decode cX6_lot 4 = .ok (.arraylength, 1) := by decide +kernel
theorem dX6_lot_5 : decode cX6_lot 5 = .ok (.bipush 9, 2) := by decide +kernel
theorem dX6_lot_7 : decode cX6_lot 7 = .ok (.if_icmp .le 5, 3) := by decide +kernel
theorem dX6_lot_10 : decode cX6_lot 10 = .ok (.iconst 1, 1) := by decide +kernel
theorem dX6_lot_11 : decode cX6_lot 11 = .ok (.ireturn, 1) := by decide +kernel
theorem dX6_lot_12 : decode cX6_lot 12 = .ok (.aload_n 0, 1) := by decide +kernel
theorem dX6_lot_13 : decode cX6_lot 13 = .ok (.iconst 4, 1) := by decide +kernel
theorem dX6_lot_14 : decode cX6_lot 14 = .ok (.invokevirtual 137, 3) := by decide +kernel
theorem dX6_lot_17 : decode cX6_lot 17 = .ok (.istore_n 1, 1) := by decide +kernel
theorem dX6_lot_18 : decode cX6_lot 18 = .ok (.aload_n 0, 1) := by decide +kernel
theorem dX6_lot_19 : decode cX6_lot 19 = .ok (.iconst 3, 1) := by decide +kernel
theorem dX6_lot_20 : decode cX6_lot 20 = .ok (.invokevirtual 137, 3) := by decide +kernel
theorem dX6_lot_23 : decode cX6_lot 23 = .ok (.istore_n 2, 1) := by decide +kernel
theorem dX6_lot_24 : decode cX6_lot 24 = .ok (.iconst 1, 1) := by decide +kernel
theorem dX6_lot_25 : decode cX6_lot 25 = .ok (.aload_n 0, 1) := by decide +kernel
theorem dX6_lot_26 : decode cX6_lot 26 = .ok (.aload_n 0, 1) := by decide +kernel
theorem dX6_lot_27 : decode cX6_lot 27 = .ok (.iconst 2, 1) := by decide +kernel
theorem dX6_lot_28 : decode cX6_lot 28 = .ok (.invokevirtual 137, 3) := by decide +kernel
theorem dX6_lot_31 : decode cX6_lot 31 = .ok (.ifCond .ne 8, 3) := by decide +kernel
theorem dX6_lot_34 : decode cX6_lot 34 = .ok (.bipush 60, 2) := by decide +kernel
theorem dX6_lot_36 : decode cX6_lot 36 = .ok (.goto 5, 3) := by decide +kernel
theorem dX6_lot_39 : decode cX6_lot 39 = .ok (.bipush 10, 2) := by decide +kernel
theorem dX6_lot_41 : decode cX6_lot 41 = .ok (.invokevirtual 137, 3) := by decide +kernel
theorem dX6_lot_44 : decode cX6_lot 44 = .ok (.iadd, 1) := by decide +kernel
theorem dX6_lot_45 : decode cX6_lot 45 = .ok (.istore_n 3, 1) := by decide +kernel
theorem dX6_lot_46 : decode cX6_lot 46 = .ok (.aload_n 0, 1) := by decide +kernel
theorem dX6_lot_47 : decode cX6_lot 47 = .ok (.iconst 5, 1) := by decide +kernel
theorem dX6_lot_48 : decode cX6_lot 48 = .ok (.invokevirtual 137, 3) := by decide +kernel
theorem dX6_lot_51 : decode cX6_lot 51 = .ok (.istore 4, 2) := by decide +kernel
theorem dX6_lot_53 : decode cX6_lot 53 = .ok (.aload_n 0, 1) := by decide +kernel
theorem dX6_lot_54 : decode cX6_lot 54 = .ok (.getfield 33, 3) := by decide +kernel
theorem dX6_lot_57 : decode cX6_lot 57 = .ok (.aload_n 0, 1) := by decide +kernel
theorem dX6_lot_58 : decode cX6_lot 58 = .ok (.getfield 30, 3) := by decide +kernel
theorem dX6_lot_61 : decode cX6_lot 61 = .ok (.arraylength, 1) := by decide +kernel
theorem dX6_lot_62 : decode cX6_lot 62 = .ok (.iload_n 3, 1) := by decide +kernel
theorem dX6_lot_63 : decode cX6_lot 63 = .ok (.i2d, 1) := by decide +kernel
theorem dX6_lot_64 : decode cX6_lot 64 = .ok (.dastore, 1) := by decide +kernel
theorem dX6_lot_65 : decode cX6_lot 65 = .ok (.aload_n 0, 1) := by decide +kernel
theorem dX6_lot_66 : decode cX6_lot 66 = .ok (.aload_n 0, 1) := by decide +kernel
theorem dX6_lot_67 : decode cX6_lot 67 = .ok (.getfield 30, 3) := by decide +kernel
theorem dX6_lot_70 : decode cX6_lot 70 = .ok (.iconst 5, 1) := by decide +kernel
theorem dX6_lot_71 : decode cX6_lot 71 = .ok (.newarray .int, 2) := by decide +kernel
theorem dX6_lot_73 : decode cX6_lot 73 = .ok (.dup, 1) := by decide +kernel
theorem dX6_lot_74 : decode cX6_lot 74 = .ok (.iconst 0, 1) := by decide +kernel
theorem dX6_lot_75 : decode cX6_lot 75 = .ok (.iload_n 1, 1) := by decide +kernel
theorem dX6_lot_76 : decode cX6_lot 76 = .ok (.iastore, 1) := by decide +kernel
theorem dX6_lot_77 : decode cX6_lot 77 = .ok (.dup, 1) := by decide +kernel
theorem dX6_lot_78 : decode cX6_lot 78 = .ok (.iconst 1, 1) := by decide +kernel
theorem dX6_lot_79 : decode cX6_lot 79 = .ok (.iload_n 2, 1) := by decide +kernel
theorem dX6_lot_80 : decode cX6_lot 80 = .ok (.iastore, 1) := by decide +kernel
theorem dX6_lot_81 : decode cX6_lot 81 = .ok (.dup, 1) := by decide +kernel
theorem dX6_lot_82 : decode cX6_lot 82 = .ok (.iconst 2, 1) := by decide +kernel
theorem dX6_lot_83 : decode cX6_lot 83 = .ok (.iload_n 3, 1) := by decide +kernel
theorem dX6_lot_84 : decode cX6_lot 84 = .ok (.iastore, 1) := by decide +kernel
theorem dX6_lot_85 : decode cX6_lot 85 = .ok (.dup, 1) := by decide +kernel
theorem dX6_lot_86 : decode cX6_lot 86 = .ok (.iconst 3, 1) := by decide +kernel
theorem dX6_lot_87 : decode cX6_lot 87 = .ok (.aload_n 0, 1) := by decide +kernel
theorem dX6_lot_88 : decode cX6_lot 88 = .ok (.getfield 91, 3) := by decide +kernel
theorem dX6_lot_91 : decode cX6_lot 91 = .ok (.bipush 48, 2) := by decide +kernel
theorem dX6_lot_93 : decode cX6_lot 93 = .ok (.idiv, 1) := by decide +kernel
theorem dX6_lot_94 : decode cX6_lot 94 = .ok (.iload 4, 2) := by decide +kernel
theorem dX6_lot_96 : decode cX6_lot 96 = .ok (.iadd, 1) := by decide +kernel
theorem dX6_lot_97 : decode cX6_lot 97 = .ok (.iastore, 1) := by decide +kernel
theorem dX6_lot_98 : decode cX6_lot 98 = .ok (.dup, 1) := by decide +kernel
theorem dX6_lot_99 : decode cX6_lot 99 = .ok (.iconst 4, 1) := by decide +kernel
theorem dX6_lot_100 : decode cX6_lot 100 = .ok (.iconst 0, 1) := by decide +kernel
theorem dX6_lot_101 : decode cX6_lot 101 = .ok (.iastore, 1) := by decide +kernel
theorem dX6_lot_102 : decode cX6_lot 102 = .ok (.invokestatic 169, 3) := by decide +kernel
theorem dX6_lot_105 : decode cX6_lot 105 = .ok (.putfield 30, 3) := by decide +kernel
theorem dX6_lot_108 : decode cX6_lot 108 = .ok (.aload_n 0, 1) := by decide +kernel
theorem dX6_lot_109 : decode cX6_lot 109 = .ok (.getfield 10, 3) := by decide +kernel
theorem dX6_lot_112 : decode cX6_lot 112 = .ok (.iload_n 1, 1) := by decide +kernel
theorem dX6_lot_113 : decode cX6_lot 113 = .ok (.iload_n 2, 1) := by decide +kernel
theorem dX6_lot_114 : decode cX6_lot 114 = .ok (.iload_n 3, 1) := by decide +kernel
theorem dX6_lot_115 : decode cX6_lot 115 = .ok (.iload 4, 2) := by decide +kernel
theorem dX6_lot_117 : decode cX6_lot 117 = .ok (.invokevirtual 176, 3) := by decide +kernel
theorem dX6_lot_120 : decode cX6_lot 120 = .ok (.aload_n 0, 1) := by decide +kernel
theorem dX6_lot_121 : decode cX6_lot 121 = .ok (.getfield 30, 3) := by decide +kernel
theorem dX6_lot_124 : decode cX6_lot 124 = .ok (.arraylength, 1) := by decide +kernel
theorem dX6_lot_125 : decode cX6_lot 125 = .ok (.iconst 1, 1) := by decide +kernel
theorem dX6_lot_126 : decode cX6_lot 126 = .ok (.isub, 1) := by decide +kernel
theorem dX6_lot_127 : decode cX6_lot 127 = .ok (.if_icmp .ne 7, 3) := by decide +kernel
theorem dX6_lot_130 : decode cX6_lot 130 = .ok (.iconst 1, 1) := by decide +kernel
theorem dX6_lot_131 : decode cX6_lot 131 = .ok (.goto 4, 3) := by decide +kernel
theorem dX6_lot_134 : decode cX6_lot 134 = .ok (.iconst 0, 1) := by decide +kernel
theorem dX6_lot_135 : decode cX6_lot 135 = .ok (.ireturn, 1) := by decide +kernel
set_option maxRecDepth 20000 in
theorem ggX6_feed_X6_draw : GoodIn wsX6_feed wsX6_draw := goodIn_r _ [8, 9, 10, 11, 12, 13, 14, 15, 16, 17, 59, 60, 61, 62, 63, 64, 65, 66, 67, 68, 69, 70, 71, 72, 73, 74, 75, 76, 77, 78, 79, 80, 81] (by decide +kernel) (by decide +kernel)
set_option maxRecDepth 20000 in
theorem gX6_feed_X6_draw : GoodIn wsX6_feed (wsV RX6 137 RX6 yX6_draw wsX6_draw) := goodIn_app (goodIn_of _ (by decide +kernel)) ggX6_feed_X6_draw
set_option maxRecDepth 20000 in
theorem ggX6_feed_X5_feed : GoodIn wsX6_feed wsX5_feed := goodIn_ca (goodIn_ca (goodIn_r _ [22, 23, 24, 25, 26, 27, 28, 29, 30, 31, 32, 33, 34, 35, 36, 37, 38, 39, 40, 41, 42, 43, 44, 45, 46, 47, 48, 49, 50, 51, 52, 53, 54, 82, 83, 84, 85, 86, 87, 88, 89, 90, 91, 92, 93, 94, 95, 96, 97, 98, 99, 100, 101, 102, 103, 104, 105, 106] (by decide +kernel) (by decide +kernel)) (goodIn_sub (fun _ h => List.mem_cons_of_mem _ (List.mem_append_left _ (List.mem_append_right _ h))) (by decide +kernel))) (goodIn_sub (fun _ h => List.mem_cons_of_mem _ (List.mem_append_right _ h)) (by decide +kernel))
set_option maxRecDepth 20000 in
theorem gX6_feed_X5_feed : GoodIn wsX6_feed (wsV RX6 180 RX5 yX5_feed wsX5_feed) := goodIn_app (goodIn_of _ (by decide +kernel)) ggX6_feed_X5_feed
set_option maxRecDepth 20000 in
theorem ggX6_feed_X6_count : GoodIn wsX6_feed wsX6_count := goodIn_r _ [58, 1, 59, 60, 61, 62, 63, 64, 65, 66, 67, 68, 69, 70, 71, 72, 73, 74, 75, 76, 77, 78, 79, 80, 81] (by decide +kernel) (by decide +kernel)
set_option maxRecDepth 20000 in
theorem gX6_feed_X6_count : GoodIn wsX6_feed (wsV RX6 183 RX6 yX6_count wsX6_count) := goodIn_app (goodIn_of _ (by decide +kernel)) ggX6_feed_X6_count
theorem dX6_feed_0 : decode cX6_feed 0 = .ok (.aload_n 0, 1) := by decide +kernel
theorem dX6_feed_1 : decode cX6_feed 1 = .ok (.getfield 30, 3) := by decide +kernel
theorem dX6_feed_4 : decode cX6_feed 4 = .ok (.arraylength, 1) := by decide +kernel
theorem dX6_feed_5 : decode cX6_feed 5 = .ok (.ifCond .ne 5, 3) := by decide +kernel
theorem dX6_feed_8 : decode cX6_feed 8 = .ok (.iconst 1, 1) := by decide +kernel
theorem dX6_feed_9 : decode cX6_feed 9 = .ok (.ireturn, 1) := by decide +kernel
theorem dX6_feed_10 : decode cX6_feed 10 = .ok (.aload_n 0, 1) := by decide +kernel
theorem dX6_feed_11 : decode cX6_feed 11 = .ok (.aload_n 0, 1) := by decide +kernel
theorem dX6_feed_12 : decode cX6_feed 12 = .ok (.getfield 22, 3) := by decide +kernel
theorem dX6_feed_15 : decode cX6_feed 15 = .ok (.arraylength, 1) := by decide +kernel
theorem dX6_feed_16 : decode cX6_feed 16 = .ok (.invokevirtual 137, 3) := by decide +kernel
theorem dX6_feed_19 : decode cX6_feed 19 = .ok (.istore_n 1, 1) := by decide +kernel
theorem dX6_feed_20 : decode cX6_feed 20 = .ok (.aload_n 0, 1) := by decide +kernel
theorem dX6_feed_21 : decode cX6_feed 21 = .ok (.aload_n 0, 1) := by decide +kernel
theorem dX6_feed_22 : decode cX6_feed 22 = .ok (.getfield 30, 3) := by decide +kernel
theorem dX6_feed_25 : decode cX6_feed 25 = .ok (.arraylength, 1) := by decide +kernel
theorem dX6_feed_26 : decode cX6_feed 26 = .ok (.invokevirtual 137, 3) := by decide +kernel
theorem dX6_feed_29 : decode cX6_feed 29 = .ok (.istore_n 2, 1) := by decide +kernel
theorem dX6_feed_30 : decode cX6_feed 30 = .ok (.iconst 0, 1) := by decide +kernel
theorem dX6_feed_31 : decode cX6_feed 31 = .ok (.istore_n 3, 1) := by decide +kernel
theorem dX6_feed_32 : decode cX6_feed 32 = .ok (.iload_n 3, 1) := by decide +kernel
theorem dX6_feed_33 : decode cX6_feed 33 = .ok (.aload_n 0, 1) := by decide +kernel
theorem dX6_feed_34 : decode cX6_feed 34 = .ok (.getfield 30, 3) := by decide +kernel
theorem dX6_feed_37 : decode cX6_feed 37 = .ok (.arraylength, 1) := by decide +kernel
theorem dX6_feed_38 : decode cX6_feed 38 = .ok (.if_icmp .ge 30, 3) := by decide +kernel
theorem dX6_feed_41 : decode cX6_feed 41 = .ok (.aload_n 0, 1) := by decide +kernel
theorem dX6_feed_42 : decode cX6_feed 42 = .ok (.getfield 30, 3) := by decide +kernel
theorem dX6_feed_45 : decode cX6_feed 45 = .ok (.iload_n 2, 1) := by decide +kernel
theorem dX6_feed_46 : decode cX6_feed 46 = .ok (.aaload, 1) := by decide +kernel
theorem dX6_feed_47 : decode cX6_feed 47 = .ok (.iconst 4, 1) := by decide +kernel
theorem dX6_feed_48 : decode cX6_feed 48 = .ok (.iaload, 1) := by decide +kernel
theorem dX6_feed_49 : decode cX6_feed 49 = .ok (.ifCond .eq 19, 3) := by decide +kernel
theorem dX6_feed_52 : decode cX6_feed 52 = .ok (.iload_n 2, 1) := by decide +kernel
theorem dX6_feed_53 : decode cX6_feed 53 = .ok (.iconst 1, 1) := by decide +kernel
theorem dX6_feed_54 : decode cX6_feed 54 = .ok (.iadd, 1) := by decide +kernel
theorem dX6_feed_55 : decode cX6_feed 55 = .ok (.aload_n 0, 1) := by decide +kernel
theorem dX6_feed_56 : decode cX6_feed 56 = .ok (.getfield 30, 3) := by decide +kernel
theorem dX6_feed_59 : decode cX6_feed 59 = .ok (.arraylength, 1) := by decide +kernel
theorem dX6_feed_60 : decode cX6_feed 60 = .ok (.irem, 1) := by decide +kernel
theorem dX6_feed_61 : decode cX6_feed 61 = .ok (.istore_n 2, 1) := by decide +kernel
theorem dX6_feed_62 : decode cX6_feed 62 = .ok (.iinc 3 1, 3) := by decide +kernel
theorem dX6_feed_65 : decode cX6_feed 65 = .ok (.goto (-33), 3) := by decide +kernel
theorem dX6_feed_68 : decode cX6_feed 68 = .ok (.aload_n 0, 1) := by decide +kernel
theorem dX6_feed_69 : decode cX6_feed 69 = .ok (.getfield 30, 3) := by decide +kernel
theorem dX6_feed_72 : decode cX6_feed 72 = .ok (.iload_n 2, 1) := by decide +kernel
theorem dX6_feed_73 : decode cX6_feed 73 = .ok (.aaload, 1) := by decide +kernel
theorem dX6_feed_74 : decode cX6_feed 74 = .ok (.iconst 4, 1) := by decide +kernel
theorem dX6_feed_75 : decode cX6_feed 75 = .ok (.iaload, 1) := by decide +kernel
theorem dX6_feed_76 : decode cX6_feed 76 = .ok (.ifCond .ne 25, 3) := by decide +kernel
theorem dX6_feed_79 : decode cX6_feed 79 = .ok (.aload_n 0, 1) := by decide +kernel
theorem dX6_feed_80 : decode cX6_feed 80 = .ok (.getfield 22, 3) := by decide +kernel
theorem dX6_feed_83 : decode cX6_feed 83 = .ok (.iload_n 1, 1) := by decide +kernel
theorem dX6_feed_84 : decode cX6_feed 84 = .ok (.aaload, 1) := by decide +kernel
theorem dX6_feed_85 : decode cX6_feed 85 = .ok (.iconst 0, 1) := by decide +kernel
theorem dX6_feed_86 : decode cX6_feed 86 = .ok (.iaload, 1) := by decide +kernel
theorem dX6_feed_87 : decode cX6_feed 87 = .ok (.ifCond .ge 14, 3) := by decide +kernel
theorem dX6_feed_90 : decode cX6_feed 90 = .ok (.aload_n 0, 1) := by decide +kernel
theorem dX6_feed_91 : decode cX6_feed 91 = .ok (.getfield 22, 3) := by decide +kernel
theorem dX6_feed_94 : decode cX6_feed 94 = .ok (.iload_n 1, 1) := by decide +kernel
theorem dX6_feed_95 : decode cX6_feed 95 = .ok (.aaload, 1) := by decide +kernel
theorem dX6_feed_96 : decode cX6_feed 96 = .ok (.iconst 1, 1) := by decide +kernel
theorem dX6_feed_97 : decode cX6_feed 97 = .ok (.iaload, 1) := by decide +kernel
theorem dX6_feed_98 : decode cX6_feed 98 = .ok (.ifCond .le 5, 3) := by decide +kernel
theorem dX6_feed_101 : decode cX6_feed 101 = .ok (.iconst 1, 1) := by decide +kernel
theorem dX6_feed_102 : decode cX6_feed 102 = .ok (.ireturn, 1) := by decide +kernel
theorem dX6_feed_103 : decode cX6_feed 103 = .ok (.aload_n 0, 1) := by decide +kernel
theorem dX6_feed_104 : decode cX6_feed 104 = .ok (.getfield 22, 3) := by decide +kernel
theorem dX6_feed_107 : decode cX6_feed 107 = .ok (.iload_n 1, 1) := by decide +kernel
theorem dX6_feed_108 : decode cX6_feed 108 = .ok (.aaload, 1) := by decide +kernel
theorem dX6_feed_109 : decode cX6_feed 109 = .ok (.iconst 0, 1) := by decide +kernel
theorem dX6_feed_110 : decode cX6_feed 110 = .ok (.iload_n 2, 1) := by decide +kernel
theorem dX6_feed_111 : decode cX6_feed 111 = .ok (.iastore, 1) := by decide +kernel
theorem dX6_feed_112 : decode cX6_feed 112 = .ok (.aload_n 0, 1) := by decide +kernel
theorem dX6_feed_113 : decode cX6_feed 113 = .ok (.getfield 30, 3) := by decide +kernel
theorem dX6_feed_116 : decode cX6_feed 116 = .ok (.iload_n 2, 1) := by decide +kernel
theorem dX6_feed_117 : decode cX6_feed 117 = .ok (.aaload, 1) := by decide +kernel
theorem dX6_feed_118 : decode cX6_feed 118 = .ok (.iconst 4, 1) := by decide +kernel
theorem dX6_feed_119 : decode cX6_feed 119 = .ok (.iconst 1, 1) := by decide +kernel
theorem dX6_feed_120 : decode cX6_feed 120 = .ok (.iastore, 1) := by decide +kernel
theorem dX6_feed_121 : decode cX6_feed 121 = .ok (.aload_n 0, 1) := by decide +kernel
theorem dX6_feed_122 : decode cX6_feed 122 = .ok (.getfield 10, 3) := by decide +kernel
theorem dX6_feed_125 : decode cX6_feed 125 = .ok (.iload_n 1, 1) := by decide +kernel
theorem dX6_feed_126 : decode cX6_feed 126 = .ok (.iload_n 2, 1) := by decide +kernel
theorem dX6_feed_127 : decode cX6_feed 127 = .ok (.invokevirtual 180, 3) := by decide +kernel
theorem dX6_feed_130 : decode cX6_feed 130 = .ok (.aload_n 0, 1) := by decide +kernel
theorem dX6_feed_131 : decode cX6_feed 131 = .ok (.iconst 0, 1) := by decide +kernel
theorem dX6_feed_132 : decode cX6_feed 132 = .ok (.invokevirtual 183, 3) := by decide +kernel
theorem dX6_feed_135 : decode cX6_feed 135 = .ok (.if_icmp .ne 7, 3) := by decide +kernel
theorem dX6_feed_138 : decode cX6_feed 138 = .ok (.iconst 1, 1) := by decide +kernel
theorem dX6_feed_139 : decode cX6_feed 139 = .ok (.goto 4, 3) := by decide +kernel
theorem dX6_feed_142 : decode cX6_feed 142 = .ok (.iconst 0, 1) := by decide +kernel
theorem dX6_feed_143 : decode cX6_feed 143 = .ok (.ireturn, 1) := by decide +kernel
set_option maxRecDepth 20000 in
theorem ggX6_take_X6_draw : GoodIn wsX6_take wsX6_draw := goodIn_r _ [8, 9, 10, 11, 12, 13, 14, 15, 16, 17, 44, 45, 46, 47, 48, 49, 50, 51, 52, 53, 54, 55, 56, 57, 58, 59, 60, 61, 62, 63, 64, 65, 66] (by decide +kernel) (by decide +kernel)
set_option maxRecDepth 20000 in
theorem gX6_take_X6_draw : GoodIn wsX6_take (wsV RX6 137 RX6 yX6_draw wsX6_draw) := goodIn_app (goodIn_of _ (by decide +kernel)) ggX6_take_X6_draw
set_option maxRecDepth 20000 in
theorem ggX6_take_X5_take : GoodIn wsX6_take wsX5_take := goodIn_ca (goodIn_ca (goodIn_r _ [22, 23, 24, 25, 26, 27, 28, 29, 30, 31, 32, 33, 34, 35, 36, 37, 38, 39, 40, 41, 42, 43, 67, 68, 69, 70, 71, 72, 73, 74, 75, 76, 77, 78, 79, 80, 81, 82, 83, 84, 85, 86, 87, 88, 89, 90, 91] (by decide +kernel) (by decide +kernel)) (goodIn_sub (fun _ h => List.mem_cons_of_mem _ (List.mem_append_left _ (List.mem_append_right _ h))) (by decide +kernel))) (goodIn_sub (fun _ h => List.mem_cons_of_mem _ (List.mem_append_right _ h)) (by decide +kernel))
set_option maxRecDepth 20000 in
theorem gX6_take_X5_take : GoodIn wsX6_take (wsV RX6 186 RX5 yX5_take wsX5_take) := goodIn_app (goodIn_of _ (by decide +kernel)) ggX6_take_X5_take
theorem dX6_take_0 : decode cX6_take 0 = .ok (.aload_n 0, 1) := by decide +kernel
theorem dX6_take_1 : decode cX6_take 1 = .ok (.aload_n 0, 1) := by decide +kernel
theorem dX6_take_2 : decode cX6_take 2 = .ok (.getfield 22, 3) := by decide +kernel
theorem dX6_take_5 : decode cX6_take 5 = .ok (.arraylength, 1) := by decide +kernel
theorem dX6_take_6 : decode cX6_take 6 = .ok (.invokevirtual 137, 3) := by decide +kernel
theorem dX6_take_9 : decode cX6_take 9 = .ok (.istore_n 1, 1) := by decide +kernel
theorem dX6_take_10 : decode cX6_take 10 = .ok (.aload_n 0, 1) := by decide +kernel
theorem dX6_take_11 : decode cX6_take 11 = .ok (.getfield 22, 3) := by decide +kernel
theorem dX6_take_14 : decode cX6_take 14 = .ok (.iload_n 1, 1) := by decide +kernel
theorem dX6_take_15 : decode cX6_take 15 = .ok (.aaload, 1) := by decide +kernel
theorem dX6_take_16 : decode cX6_take 16 = .ok (.iconst 0, 1) := by decide +kernel
theorem dX6_take_17 : decode cX6_take 17 = .ok (.iaload, 1) := by decide +kernel
theorem dX6_take_18 : decode cX6_take 18 = .ok (.istore_n 2, 1) := by decide +kernel
theorem dX6_take_19 : decode cX6_take 19 = .ok (.iload_n 2, 1) := by decide +kernel
theorem dX6_take_20 : decode cX6_take 20 = .ok (.ifCond .ge 5, 3) := by decide +kernel
theorem dX6_take_23 : decode cX6_take 23 = .ok (.iconst 1, 1) := by decide +kernel
theorem dX6_take_24 : decode cX6_take 24 = .ok (.ireturn, 1) := by decide +kernel
theorem dX6_take_25 : decode cX6_take 25 = .ok (.aload_n 0, 1) := by decide +kernel
theorem dX6_take_26 : decode cX6_take 26 = .ok (.getfield 22, 3) := by decide +kernel
theorem dX6_take_29 : decode cX6_take 29 = .ok (.iload_n 1, 1) := by decide +kernel
theorem dX6_take_30 : decode cX6_take 30 = .ok (.aaload, 1) := by decide +kernel
theorem dX6_take_31 : decode cX6_take 31 = .ok (.iconst 0, 1) := by decide +kernel
theorem dX6_take_32 : decode cX6_take 32 = .ok (.iconst (-1), 1) := by decide +kernel
theorem dX6_take_33 : decode cX6_take 33 = .ok (.iastore, 1) := by decide +kernel
theorem dX6_take_34 : decode cX6_take 34 = .ok (.aload_n 0, 1) := by decide +kernel
theorem dX6_take_35 : decode cX6_take 35 = .ok (.getfield 30, 3) := by decide +kernel
theorem dX6_take_38 : decode cX6_take 38 = .ok (.iload_n 2, 1) := by decide +kernel
theorem dX6_take_39 : decode cX6_take 39 = .ok (.aaload, 1) := by decide +kernel
theorem dX6_take_40 : decode cX6_take 40 = .ok (.iconst 4, 1) := by decide +kernel
theorem dX6_take_41 : decode cX6_take 41 = .ok (.iconst 0, 1) := by decide +kernel
theorem dX6_take_42 : decode cX6_take 42 = .ok (.iastore, 1) := by decide +kernel
theorem dX6_take_43 : decode cX6_take 43 = .ok (.aload_n 0, 1) := by decide +kernel
theorem dX6_take_44 : decode cX6_take 44 = .ok (.getfield 10, 3) := by decide +kernel
theorem dX6_take_47 : decode cX6_take 47 = .ok (.iload_n 1, 1) := by decide +kernel
theorem dX6_take_48 : decode cX6_take 48 = .ok (.invokevirtual 186, 3) := by decide +kernel
theorem dX6_take_51 : decode cX6_take 51 = .ok (.iload_n 2, 1) := by decide +kernel
theorem dX6_take_52 : decode cX6_take 52 = .ok (.if_icmp .ne 7, 3) := by decide +kernel
theorem dX6_take_55 : decode cX6_take 55 = .ok (.iconst 1, 1) := by decide +kernel
theorem dX6_take_56 : decode cX6_take 56 = .ok (.goto 4, 3) := by decide +kernel
theorem dX6_take_59 : decode cX6_take 59 = .ok (.iconst 0, 1) := by decide +kernel
theorem dX6_take_60 : decode cX6_take 60 = .ok (.ireturn, 1) := by decide +kernel
set_option maxRecDepth 20000 in
theorem ggX6_dress_X6_draw : GoodIn wsX6_dress wsX6_draw := goodIn_r _ [9, 10, 11, 12, 13, 14, 15, 16, 17, 18, 48, 49, 50, 51, 52, 53, 54, 55, 56, 57, 58, 59, 60, 61, 62, 63, 64, 65, 66, 67, 68, 69, 70] (by decide +kernel) (by decide +kernel)
set_option maxRecDepth 20000 in
theorem gX6_dress_X6_draw : GoodIn wsX6_dress (wsV RX6 137 RX6 yX6_draw wsX6_draw) := goodIn_app (goodIn_of _ (by decide +kernel)) ggX6_dress_X6_draw
set_option maxRecDepth 20000 in
theorem ggX6_dress_X5_dress : GoodIn wsX6_dress wsX5_dress := goodIn_ca (goodIn_ca (goodIn_r _ [23, 24, 25, 26, 27, 28, 29, 30, 31, 32, 33, 34, 35, 36, 37, 38, 39, 40, 41, 42, 43, 44, 45, 46, 22, 47, 71, 72, 73, 74, 75, 76, 77, 78, 79, 80, 81, 82, 83, 84, 85, 86, 87, 88] (by decide +kernel) (by decide +kernel)) (goodIn_sub (fun _ h => List.mem_cons_of_mem _ (List.mem_append_left _ (List.mem_append_right _ h))) (by decide +kernel))) (goodIn_sub (fun _ h => List.mem_cons_of_mem _ (List.mem_append_right _ h)) (by decide +kernel))
set_option maxRecDepth 20000 in
theorem gX6_dress_X5_dress : GoodIn wsX6_dress (wsV RX6 189 RX5 yX5_dress wsX5_dress) := goodIn_app (goodIn_of _ (by decide +kernel)) ggX6_dress_X5_dress
theorem dX6_dress_0 : decode cX6_dress 0 = .ok (.aload_n 0, 1) := by decide +kernel
theorem dX6_dress_1 : decode cX6_dress 1 = .ok (.aload_n 0, 1) := by decide +kernel
theorem dX6_dress_2 : decode cX6_dress 2 = .ok (.getfield 22, 3) := by decide +kernel
theorem dX6_dress_5 : decode cX6_dress 5 = .ok (.arraylength, 1) := by decide +kernel
theorem dX6_dress_6 : decode cX6_dress 6 = .ok (.invokevirtual 137, 3) := by decide +kernel
theorem dX6_dress_9 : decode cX6_dress 9 = .ok (.istore_n 1, 1) := by decide +kernel
theorem dX6_dress_10 : decode cX6_dress 10 = .ok (.aload_n 0, 1) := by decide +kernel
theorem dX6_dress_11 : decode cX6_dress 11 = .ok (.getfield 22, 3) := by decide +kernel
theorem dX6_dress_14 : decode cX6_dress 14 = .ok (.iload_n 1, 1) := by decide +kernel
theorem dX6_dress_15 : decode cX6_dress 15 = .ok (.aaload, 1) := by decide +kernel
theorem dX6_dress_16 : decode cX6_dress 16 = .ok (.iconst 0, 1) := by decide +kernel
theorem dX6_dress_17 : decode cX6_dress 17 = .ok (.iaload, 1) := by decide +kernel
theorem dX6_dress_18 : decode cX6_dress 18 = .ok (.ifCond .ge 14, 3) := by decide +kernel
theorem dX6_dress_21 : decode cX6_dress 21 = .ok (.aload_n 0, 1) := by decide +kernel
theorem dX6_dress_22 : decode cX6_dress 22 = .ok (.getfield 22, 3) := by decide +kernel
theorem dX6_dress_25 : decode cX6_dress 25 = .ok (.iload_n 1, 1) := by decide +kernel
theorem dX6_dress_26 : decode cX6_dress 26 = .ok (.aaload, 1) := by decide +kernel
theorem dX6_dress_27 : decode cX6_dress 27 = .ok (.iconst 1, 1) := by decide +kernel
theorem dX6_dress_28 : decode cX6_dress 28 = .ok (.iaload, 1) := by decide +kernel
theorem dX6_dress_29 : decode cX6_dress 29 = .ok (.ifCond .le 5, 3) := by decide +kernel
theorem dX6_dress_32 : decode cX6_dress 32 = .ok (.iconst 1, 1) := by decide +kernel
theorem dX6_dress_33 : decode cX6_dress 33 = .ok (.ireturn, 1) := by decide +kernel
theorem dX6_dress_34 : decode cX6_dress 34 = .ok (.iconst 0, 1) := by decide +kernel
theorem dX6_dress_35 : decode cX6_dress 35 = .ok (.istore_n 2, 1) := by decide +kernel
theorem dX6_dress_36 : decode cX6_dress 36 = .ok (.iload_n 2, 1) := by decide +kernel
theorem dX6_dress_37 : decode cX6_dress 37 = .ok (.i2d, 1) := by decide +kernel
theorem dX6_dress_38 : decode cX6_dress 38 = .ok (.ldc2_w 85, 3) := by decide +kernel
theorem dX6_dress_41 : decode cX6_dress 41 = .ok (.aload_n 0, 1) := by decide +kernel
theorem dX6_dress_42 : decode cX6_dress 42 = .ok (.getfield 26, 3) := by decide +kernel
theorem dX6_dress_45 : decode cX6_dress 45 = .ok (.iload_n 1, 1) := by decide +kernel
theorem dX6_dress_46 : decode cX6_dress 46 = .ok (.faload, 1) := by decide +kernel
theorem dX6_dress_47 : decode cX6_dress 47 = .ok (.f2d, 1) := by decide +kernel
theorem dX6_dress_48 : decode cX6_dress 48 = .ok (.dmul, 1) := by decide +kernel
theorem dX6_dress_49 : decode cX6_dress 49 = .ok (.dcmp .g, 1) := by decide +kernel
theorem dX6_dress_50 : decode cX6_dress 50 = .ok (.ifCond .ge 9, 3) := by decide +kernel
theorem dX6_dress_53 : decode cX6_dress 53 = .ok (.iinc 2 1, 3) := by decide +kernel
theorem dX6_dress_56 : decode cX6_dress 56 = .ok (.goto (-20), 3) := by decide +kernel
theorem dX6_dress_59 : decode cX6_dress 59 = .ok (.aload_n 0, 1) := by decide +kernel
theorem dX6_dress_60 : decode cX6_dress 60 = .ok (.getfield 22, 3) := by decide +kernel
theorem dX6_dress_63 : decode cX6_dress 63 = .ok (.iload_n 1, 1) := by decide +kernel
theorem dX6_dress_64 : decode cX6_dress 64 = .ok (.aaload, 1) := by decide +kernel
theorem dX6_dress_65 : decode cX6_dress 65 = .ok (.iconst 1, 1) := by decide +kernel
theorem dX6_dress_66 : decode cX6_dress 66 = .ok (.iconst 3, 1) := by decide +kernel
theorem dX6_dress_67 : decode cX6_dress 67 = .ok (.iload_n 2, 1) := by decide +kernel
theorem dX6_dress_68 : decode cX6_dress 68 = .ok (.iadd, 1) := by decide +kernel
theorem dX6_dress_69 : decode cX6_dress 69 = .ok (.iastore, 1) := by decide +kernel
theorem dX6_dress_70 : decode cX6_dress 70 = .ok (.aload_n 0, 1) := by decide +kernel
theorem dX6_dress_71 : decode cX6_dress 71 = .ok (.getfield 10, 3) := by decide +kernel
theorem dX6_dress_74 : decode cX6_dress 74 = .ok (.iload_n 1, 1) := by decide +kernel
theorem dX6_dress_75 : decode cX6_dress 75 = .ok (.invokevirtual 189, 3) := by decide +kernel
theorem dX6_dress_78 : decode cX6_dress 78 = .ok (.aload_n 0, 1) := by decide +kernel
theorem dX6_dress_79 : decode cX6_dress 79 = .ok (.getfield 22, 3) := by decide +kernel
theorem dX6_dress_82 : decode cX6_dress 82 = .ok (.iload_n 1, 1) := by decide +kernel
theorem dX6_dress_83 : decode cX6_dress 83 = .ok (.aaload, 1) := by decide +kernel
theorem dX6_dress_84 : decode cX6_dress 84 = .ok (.iconst 1, 1) := by decide +kernel
theorem dX6_dress_85 : decode cX6_dress 85 = .ok (.iaload, 1) := by decide +kernel
theorem dX6_dress_86 : decode cX6_dress 86 = .ok (.if_icmp .ne 7, 3) := by decide +kernel
theorem dX6_dress_89 : decode cX6_dress 89 = .ok (.iconst 1, 1) := by decide +kernel
theorem dX6_dress_90 : decode cX6_dress 90 = .ok (.goto 4, 3) := by decide +kernel
theorem dX6_dress_93 : decode cX6_dress 93 = .ok (.iconst 0, 1) := by decide +kernel
theorem dX6_dress_94 : decode cX6_dress 94 = .ok (.ireturn, 1) := by decide +kernel
set_option maxRecDepth 20000 in
theorem ggX6_give_X5_give : GoodIn wsX6_give wsX5_give := goodIn_ca (goodIn_ca (goodIn_r _ [11, 12, 13, 14, 15, 16, 17, 18, 19, 20, 21, 22, 23, 24, 25, 26, 27, 28, 29, 30, 31, 32, 33, 34, 35, 36, 37, 38, 39, 40, 41, 42, 43, 10, 44, 68, 69, 70, 71, 72, 73, 74, 75, 76, 77, 78, 79, 80, 81, 82, 83, 84, 85, 86, 87, 88, 89, 90] (by decide +kernel) (by decide +kernel)) (goodIn_sub (fun _ h => List.mem_cons_of_mem _ (List.mem_append_left _ (List.mem_append_right _ h))) (by decide +kernel))) (goodIn_sub (fun _ h => List.mem_cons_of_mem _ (List.mem_append_right _ h)) (by decide +kernel))
set_option maxRecDepth 20000 in
theorem gX6_give_X5_give : GoodIn wsX6_give (wsV RX6 200 RX5 yX5_give wsX5_give) := goodIn_app (goodIn_of _ (by decide +kernel)) ggX6_give_X5_give
theorem dX6_give_0 : decode cX6_give 0 = .ok (.iconst 0, 1) := by decide +kernel
theorem dX6_give_1 : decode cX6_give 1 = .ok (.istore_n 1, 1) := by decide +kernel
theorem dX6_give_2 : decode cX6_give 2 = .ok (.iload_n 1, 1) := by decide +kernel
theorem dX6_give_3 : decode cX6_give 3 = .ok (.aload_n 0, 1) := by decide +kernel
theorem dX6_give_4 : decode cX6_give 4 = .ok (.getfield 30, 3) := by decide +kernel
theorem dX6_give_7 : decode cX6_give 7 = .ok (.arraylength, 1) := by decide +kernel
theorem dX6_give_8 : decode cX6_give 8 = .ok (.if_icmp .ge 138, 3) := by decide +kernel
theorem dX6_give_11 : decode cX6_give 11 = .ok (.aload_n 0, 1) := by decide +kernel
theorem dX6_give_12 : decode cX6_give 12 = .ok (.getfield 30, 3) := by decide +kernel
theorem dX6_give_15 : decode cX6_give 15 = .ok (.iload_n 1, 1) := by decide +kernel
theorem dX6_give_16 : decode cX6_give 16 = .ok (.aaload, 1) := by decide +kernel
theorem dX6_give_17 : decode cX6_give 17 = .ok (.astore_n 2, 1) := by decide +kernel
theorem dX6_give_18 : decode cX6_give 18 = .ok (.aload_n 2, 1) := by decide +kernel
theorem dX6_give_19 : decode cX6_give 19 = .ok (.iconst 4, 1) := by decide +kernel
theorem dX6_give_20 : decode cX6_give 20 = .ok (.iaload, 1) := by decide +kernel
theorem dX6_give_21 : decode cX6_give 21 = .ok (.iconst 2, 1) := by decide +kernel
theorem dX6_give_22 : decode cX6_give 22 = .ok (.if_icmp .eq 6, 3) := by decide +kernel
theorem dX6_give_25 : decode cX6_give 25 = .ok (.goto 115, 3) := by decide +kernel
theorem dX6_give_28 : decode cX6_give 28 = .ok (.aload_n 2, 1) := by decide +kernel
theorem dX6_give_29 : decode cX6_give 29 = .ok (.iconst 4, 1) := by decide +kernel
theorem dX6_give_30 : decode cX6_give 30 = .ok (.iconst 3, 1) := by decide +kernel
theorem dX6_give_31 : decode cX6_give 31 = .ok (.iastore, 1) := by decide +kernel
theorem dX6_give_32 : decode cX6_give 32 = .ok (.aload_n 0, 1) := by decide +kernel
theorem dX6_give_33 : decode cX6_give 33 = .ok (.dup, 1) := by decide +kernel
theorem dX6_give_34 : decode cX6_give 34 = .ok (.getfield 192, 3) := by decide +kernel
theorem dX6_give_37 : decode cX6_give 37 = .ok (.aload_n 2, 1) := by decide +kernel
theorem dX6_give_38 : decode cX6_give 38 = .ok (.iconst 2, 1) := by decide +kernel
theorem dX6_give_39 : decode cX6_give 39 = .ok (.iaload, 1) := by decide +kernel
theorem dX6_give_40 : decode cX6_give 40 = .ok (.i2d, 1) := by decide +kernel
