theorem dL_acts_524 : decode cL_acts 524 = .ok (.iload 6, 2) := by decide +kernel
theorem dL_acts_526 : decode cL_acts 526 = .ok (.iadd, 1) := by decide +kernel
theorem dL_acts_527 : decode cL_acts 527 = .ok (.sipush 9999, 3) := by decide +kernel
theorem dL_acts_530 : decode cL_acts 530 = .ok (.if_icmp .le 20, 3) := by decide +kernel
theorem dL_acts_533 : decode cL_acts 533 = .ok (.aload_n 0, 1) := by decide +kernel
theorem dL_acts_534 : decode cL_acts 534 = .ok (.iload 6, 2) := by decide +kernel
theorem dL_acts_536 : decode cL_acts 536 = .ok (.invokevirtual 79, 3) := by decide +kernel
theorem dL_acts_539 : decode cL_acts 539 = .ok (.ldc 24, 2) := by decide +kernel
theorem dL_acts_541 : decode cL_acts 541 = .ok (.if_icmp .ne 7, 3) := by decide +kernel
theorem dL_acts_544 : decode cL_acts 544 = .ok (.iconst 1, 1) := by decide +kernel
theorem dL_acts_545 : decode cL_acts 545 = .ok (.goto 4, 3) := by decide +kernel
theorem dL_acts_548 : decode cL_acts 548 = .ok (.iconst 0, 1) := by decide +kernel
theorem dL_acts_549 : decode cL_acts 549 = .ok (.ireturn, 1) := by decide +kernel
theorem dL_acts_550 : decode cL_acts 550 = .ok (.aload_n 1, 1) := by decide +kernel
theorem dL_acts_551 : decode cL_acts 551 = .ok (.aload_n 2, 1) := by decide +kernel
theorem dL_acts_552 : decode cL_acts 552 = .ok (.iload 6, 2) := by decide +kernel
theorem dL_acts_554 : decode cL_acts 554 = .ok (.invokestatic 82, 3) := by decide +kernel
theorem dL_acts_557 : decode cL_acts 557 = .ok (.istore 7, 2) := by decide +kernel
theorem dL_acts_559 : decode cL_acts 559 = .ok (.aload_n 0, 1) := by decide +kernel
theorem dL_acts_560 : decode cL_acts 560 = .ok (.iload 6, 2) := by decide +kernel
theorem dL_acts_562 : decode cL_acts 562 = .ok (.invokevirtual 79, 3) := by decide +kernel
theorem dL_acts_565 : decode cL_acts 565 = .ok (.iload 7, 2) := by decide +kernel
theorem dL_acts_567 : decode cL_acts 567 = .ok (.if_icmp .ne 7, 3) := by decide +kernel
theorem dL_acts_570 : decode cL_acts 570 = .ok (.iconst 1, 1) := by decide +kernel
theorem dL_acts_571 : decode cL_acts 571 = .ok (.goto 4, 3) := by decide +kernel
theorem dL_acts_574 : decode cL_acts 574 = .ok (.iconst 0, 1) := by decide +kernel
theorem dL_acts_575 : decode cL_acts 575 = .ok (.ireturn, 1) := by decide +kernel
theorem dL_acts_576 : decode cL_acts 576 = .ok (.iload 4, 2) := by decide +kernel
theorem dL_acts_578 : decode cL_acts 578 = .ok (.iconst 4, 1) := by decide +kernel
theorem dL_acts_579 : decode cL_acts 579 = .ok (.irem, 1) := by decide +kernel
theorem dL_acts_580 : decode cL_acts 580 = .ok (.istore 6, 2) := by decide +kernel
theorem dL_acts_582 : decode cL_acts 582 = .ok (.aload_n 1, 1) := by decide +kernel
theorem dL_acts_583 : decode cL_acts 583 = .ok (.bipush 10, 2) := by decide +kernel
theorem dL_acts_585 : decode cL_acts 585 = .ok (.iload 6, 2) := by decide +kernel
theorem dL_acts_587 : decode cL_acts 587 = .ok (.iadd, 1) := by decide +kernel
theorem dL_acts_588 : decode cL_acts 588 = .ok (.iaload, 1) := by decide +kernel
theorem dL_acts_589 : decode cL_acts 589 = .ok (.istore 7, 2) := by decide +kernel
theorem dL_acts_591 : decode cL_acts 591 = .ok (.aload_n 1, 1) := by decide +kernel
theorem dL_acts_592 : decode cL_acts 592 = .ok (.bipush 10, 2) := by decide +kernel
theorem dL_acts_594 : decode cL_acts 594 = .ok (.iload 6, 2) := by decide +kernel
theorem dL_acts_596 : decode cL_acts 596 = .ok (.iadd, 1) := by decide +kernel
theorem dL_acts_597 : decode cL_acts 597 = .ok (.iload 6, 2) := by decide +kernel
theorem dL_acts_599 : decode cL_acts 599 = .ok (.ifCond .ne 15, 3) := by decide +kernel
theorem dL_acts_602 : decode cL_acts 602 = .ok (.iconst 1, 1) := by decide +kernel
theorem dL_acts_603 : decode cL_acts 603 = .ok (.iload 4, 2) := by decide +kernel
theorem dL_acts_605 : decode cL_acts 605 = .ok (.iconst 4, 1) := by decide +kernel
theorem dL_acts_606 : decode cL_acts 606 = .ok (.idiv, 1) := by decide +kernel
theorem dL_acts_607 : decode cL_acts 607 = .ok (.bipush 99, 2) := by decide +kernel
theorem dL_acts_609 : decode cL_acts 609 = .ok (.irem, 1) := by decide +kernel
theorem dL_acts_610 : decode cL_acts 610 = .ok (.iadd, 1) := by decide +kernel
theorem dL_acts_611 : decode cL_acts 611 = .ok (.goto 45, 3) := by decide +kernel
theorem dL_acts_614 : decode cL_acts 614 = .ok (.iload 6, 2) := by decide +kernel
theorem dL_acts_616 : decode cL_acts 616 = .ok (.iconst 1, 1) := by decide +kernel
theorem dL_acts_617 : decode cL_acts 617 = .ok (.if_icmp .ne 15, 3) := by decide +kernel
theorem dL_acts_620 : decode cL_acts 620 = .ok (.iconst 1, 1) := by decide +kernel
theorem dL_acts_621 : decode cL_acts 621 = .ok (.iload 4, 2) := by decide +kernel
theorem dL_acts_623 : decode cL_acts 623 = .ok (.iconst 4, 1) := by decide +kernel
theorem dL_acts_624 : decode cL_acts 624 = .ok (.idiv, 1) := by decide +kernel
theorem dL_acts_625 : decode cL_acts 625 = .ok (.bipush 24, 2) := by decide +kernel
theorem dL_acts_627 : decode cL_acts 627 = .ok (.irem, 1) := by decide +kernel
theorem dL_acts_628 : decode cL_acts 628 = .ok (.iadd, 1) := by decide +kernel
theorem dL_acts_629 : decode cL_acts 629 = .ok (.goto 27, 3) := by decide +kernel
theorem dL_acts_632 : decode cL_acts 632 = .ok (.iload 6, 2) := by decide +kernel
theorem dL_acts_634 : decode cL_acts 634 = .ok (.iconst 2, 1) := by decide +kernel
theorem dL_acts_635 : decode cL_acts 635 = .ok (.if_icmp .ne 13, 3) := by decide +kernel
theorem dL_acts_638 : decode cL_acts 638 = .ok (.iload 4, 2) := by decide +kernel
theorem dL_acts_640 : decode cL_acts 640 = .ok (.iconst 4, 1) := by decide +kernel
theorem dL_acts_641 : decode cL_acts 641 = .ok (.idiv, 1) := by decide +kernel
theorem dL_acts_642 : decode cL_acts 642 = .ok (.bipush 21, 2) := by decide +kernel
theorem dL_acts_644 : decode cL_acts 644 = .ok (.irem, 1) := by decide +kernel
theorem dL_acts_645 : decode cL_acts 645 = .ok (.goto 11, 3) := by decide +kernel
theorem dL_acts_648 : decode cL_acts 648 = .ok (.iload 4, 2) := by decide +kernel
theorem dL_acts_650 : decode cL_acts 650 = .ok (.iconst 4, 1) := by decide +kernel
theorem dL_acts_651 : decode cL_acts 651 = .ok (.idiv, 1) := by decide +kernel
theorem dL_acts_652 : decode cL_acts 652 = .ok (.sipush 501, 3) := by decide +kernel
theorem dL_acts_655 : decode cL_acts 655 = .ok (.irem, 1) := by decide +kernel
theorem dL_acts_656 : decode cL_acts 656 = .ok (.iastore, 1) := by decide +kernel
theorem dL_acts_657 : decode cL_acts 657 = .ok (.aload_n 0, 1) := by decide +kernel
theorem dL_acts_658 : decode cL_acts 658 = .ok (.iload 6, 2) := by decide +kernel
theorem dL_acts_660 : decode cL_acts 660 = .ok (.aload_n 1, 1) := by decide +kernel
theorem dL_acts_661 : decode cL_acts 661 = .ok (.bipush 10, 2) := by decide +kernel
theorem dL_acts_663 : decode cL_acts 663 = .ok (.iload 6, 2) := by decide +kernel
theorem dL_acts_665 : decode cL_acts 665 = .ok (.iadd, 1) := by decide +kernel
theorem dL_acts_666 : decode cL_acts 666 = .ok (.iaload, 1) := by decide +kernel
theorem dL_acts_667 : decode cL_acts 667 = .ok (.invokevirtual 85, 3) := by decide +kernel
theorem dL_acts_670 : decode cL_acts 670 = .ok (.iload 7, 2) := by decide +kernel
theorem dL_acts_672 : decode cL_acts 672 = .ok (.if_icmp .ne 7, 3) := by decide +kernel
theorem dL_acts_675 : decode cL_acts 675 = .ok (.iconst 1, 1) := by decide +kernel
theorem dL_acts_676 : decode cL_acts 676 = .ok (.goto 4, 3) := by decide +kernel
theorem dL_acts_679 : decode cL_acts 679 = .ok (.iconst 0, 1) := by decide +kernel
theorem dL_acts_680 : decode cL_acts 680 = .ok (.ireturn, 1) := by decide +kernel
set_option maxRecDepth 20000 in
theorem ggL_areSmithies_X3_smithyOf : GoodIn wsL_areSmithies wsX3_smithyOf := goodIn_r _ [6, 7, 8, 9, 10, 11, 12, 13, 14, 15, 16, 17, 18, 19, 20, 21, 22, 23, 24, 25, 26, 5, 27, 28, 29, 30, 31, 32, 33, 34, 35, 36, 37, 38, 39, 40, 41, 42, 136, 137, 138, 139, 140, 141, 142, 143, 144, 145, 146, 147, 148, 149, 150, 151, 152, 153, 154, 155, 156, 157, 158, 159, 160, 161, 162, 163, 164, 165, 166, 167] (by decide +kernel) (by decide +kernel)
set_option maxRecDepth 20000 in
theorem gL_areSmithies_X3_smithyOf : GoodIn wsL_areSmithies (wsV RL 88 RX3 yX3_smithyOf wsX3_smithyOf) := goodIn_app (goodIn_of _ (by decide +kernel)) ggL_areSmithies_X3_smithyOf
set_option maxRecDepth 20000 in
theorem ggL_areSmithies_X3_why : GoodIn wsL_areSmithies wsX3_why := goodIn_r _ [46, 7, 8, 18, 19, 20, 21, 22, 23, 24, 47, 48, 5, 49, 50, 51, 52, 53, 54, 55, 56, 57, 58, 59, 60, 61, 62, 63, 64, 65, 66, 41, 42, 67, 68, 69, 70, 71, 72, 73, 136, 137, 138, 139, 140, 141, 142, 143, 144, 153, 154, 155, 156, 157, 158, 159, 160, 161, 162, 163, 164, 165, 166, 167, 145, 146, 147, 148, 149, 150, 151, 152] (by decide +kernel) (by decide +kernel)
set_option maxRecDepth 20000 in
theorem gL_areSmithies_X3_why : GoodIn wsL_areSmithies (wsV RL 91 RX3 yX3_why wsX3_why) := goodIn_app (goodIn_of _ (by decide +kernel)) ggL_areSmithies_X3_why
set_option maxRecDepth 20000 in
theorem ggL_areSmithies_X3_mend : GoodIn wsL_areSmithies wsX3_mend := goodIn_r _ [77, 7, 8, 18, 19, 20, 21, 22, 23, 24, 47, 48, 5, 49, 78, 58, 59, 79, 61, 62, 63, 64, 65, 66, 41, 42, 80, 81, 82, 83, 84, 60, 85, 86, 87, 88, 136, 137, 138, 139, 140, 141, 142, 143, 144, 153, 154, 155, 156, 157, 158, 159, 160, 161, 162, 163, 164, 165, 166, 167, 145, 146, 147, 148, 149, 150, 151, 152] (by decide +kernel) (by decide +kernel)
set_option maxRecDepth 20000 in
theorem gL_areSmithies_X3_mend : GoodIn wsL_areSmithies (wsV RL 93 RX3 yX3_mend wsX3_mend) := goodIn_app (goodIn_of _ (by decide +kernel)) ggL_areSmithies_X3_mend
set_option maxRecDepth 20000 in
theorem ggL_areSmithies_L_apart : GoodIn wsL_areSmithies wsL_apart := goodIn_r _ [92] (by decide +kernel) (by decide +kernel)
set_option maxRecDepth 20000 in
theorem gL_areSmithies_L_apart : GoodIn wsL_areSmithies (va_wsS RL 19 yL_apart wsL_apart) := goodIn_app (goodIn_of _ (by decide +kernel)) ggL_areSmithies_L_apart
set_option maxRecDepth 20000 in
theorem ggL_areSmithies_L_tens : GoodIn wsL_areSmithies wsL_tens := goodIn_r _ [95] (by decide +kernel) (by decide +kernel)
set_option maxRecDepth 20000 in
theorem gL_areSmithies_L_tens : GoodIn wsL_areSmithies (va_wsS RL 9 yL_tens wsL_tens) := goodIn_app (goodIn_of _ (by decide +kernel)) ggL_areSmithies_L_tens
set_option maxRecDepth 20000 in
theorem ggL_areSmithies_L_why : GoodIn wsL_areSmithies wsL_why := goodIn_r _ [98, 99, 100, 91, 101, 93, 94, 95] (by decide +kernel) (by decide +kernel)
set_option maxRecDepth 20000 in
theorem gL_areSmithies_L_why : GoodIn wsL_areSmithies (va_wsS RL 25 yL_why wsL_why) := goodIn_app (goodIn_of _ (by decide +kernel)) ggL_areSmithies_L_why
set_option maxRecDepth 20000 in
theorem ggL_areSmithies_L_takes : GoodIn wsL_areSmithies wsL_takes := goodIn_r _ [101, 93, 94, 91, 95] (by decide +kernel) (by decide +kernel)
set_option maxRecDepth 20000 in
theorem gL_areSmithies_L_takes : GoodIn wsL_areSmithies (va_wsS RL 15 yL_takes wsL_takes) := goodIn_app (goodIn_of _ (by decide +kernel)) ggL_areSmithies_L_takes
set_option maxRecDepth 20000 in
theorem ggL_areSmithies_L_owes : GoodIn wsL_areSmithies wsL_owes := goodIn_r _ [104, 99, 100, 91, 101, 93, 94, 95] (by decide +kernel) (by decide +kernel)
set_option maxRecDepth 20000 in
theorem gL_areSmithies_L_owes : GoodIn wsL_areSmithies (va_wsS RL 29 yL_owes wsL_owes) := goodIn_app (goodIn_of _ (by decide +kernel)) ggL_areSmithies_L_owes
set_option maxRecDepth 20000 in
theorem ggL_areSmithies_X3_count : GoodIn wsL_areSmithies wsX3_count := goodIn_r _ [108, 7, 109, 110, 17, 111, 112, 113, 114, 115, 116, 117, 118, 119, 120, 121, 122, 123, 124, 8, 125, 126, 127, 21, 128, 23, 71, 129, 19, 20, 22, 24, 130, 131, 132, 133, 134, 135, 29, 30, 31, 32, 136, 137, 138, 139, 140, 141, 142, 143, 144, 153, 154, 155, 156, 157, 158, 159, 160, 161, 162, 163, 164, 165, 166, 167, 168, 169, 170, 171, 172, 173, 145, 146, 147, 148, 149, 150, 151, 152] (by decide +kernel) (by decide +kernel)
set_option maxRecDepth 20000 in
theorem gL_areSmithies_X3_count : GoodIn wsL_areSmithies (wsV RL 97 RX3 yX3_count wsX3_count) := goodIn_app (goodIn_of _ (by decide +kernel)) ggL_areSmithies_X3_count
theorem dL_areSmithies_0 : decode cL_areSmithies 0 = .ok (.iconst 0, 1) := by decide +kernel
theorem dL_areSmithies_1 : decode cL_areSmithies 1 = .ok (.istore_n 3, 1) := by decide +kernel
theorem dL_areSmithies_2 : decode cL_areSmithies 2 = .ok (.iconst 0, 1) := by decide +kernel
theorem dL_areSmithies_3 : decode cL_areSmithies 3 = .ok (.istore 4, 2) := by decide +kernel
theorem dL_areSmithies_5 : decode cL_areSmithies 5 = .ok (.aload_n 0, 1) := by decide +kernel
theorem dL_areSmithies_6 : decode cL_areSmithies 6 = .ok (.aload_n 1, 1) := by decide +kernel
theorem dL_areSmithies_7 : decode cL_areSmithies 7 = .ok (.iconst 0, 1) := by decide +kernel
theorem dL_areSmithies_8 : decode cL_areSmithies 8 = .ok (.iaload, 1) := by decide +kernel
theorem dL_areSmithies_9 : decode cL_areSmithies 9 = .ok (.iconst 0, 1) := by decide +kernel
theorem dL_areSmithies_10 : decode cL_areSmithies 10 = .ok (.invokevirtual 88, 3) := by decide +kernel
theorem dL_areSmithies_13 : decode cL_areSmithies 13 = .ok (.ldc 65, 2) := by decide +kernel
theorem dL_areSmithies_15 : decode cL_areSmithies 15 = .ok (.if_icmp .ne 45, 3) := by decide +kernel
theorem dL_areSmithies_18 : decode cL_areSmithies 18 = .ok (.aload_n 0, 1) := by decide +kernel
theorem dL_areSmithies_19 : decode cL_areSmithies 19 = .ok (.iconst (-1), 1) := by decide +kernel
theorem dL_areSmithies_20 : decode cL_areSmithies 20 = .ok (.iconst 0, 1) := by decide +kernel
theorem dL_areSmithies_21 : decode cL_areSmithies 21 = .ok (.invokevirtual 88, 3) := by decide +kernel
theorem dL_areSmithies_24 : decode cL_areSmithies 24 = .ok (.ldc 65, 2) := by decide +kernel
theorem dL_areSmithies_26 : decode cL_areSmithies 26 = .ok (.if_icmp .ne 34, 3) := by decide +kernel
theorem dL_areSmithies_29 : decode cL_areSmithies 29 = .ok (.aload_n 0, 1) := by decide +kernel
theorem dL_areSmithies_30 : decode cL_areSmithies 30 = .ok (.aload_n 1, 1) := by decide +kernel
theorem dL_areSmithies_31 : decode cL_areSmithies 31 = .ok (.iconst 0, 1) := by decide +kernel
theorem dL_areSmithies_32 : decode cL_areSmithies 32 = .ok (.iaload, 1) := by decide +kernel
theorem dL_areSmithies_33 : decode cL_areSmithies 33 = .ok (.iconst 0, 1) := by decide +kernel
theorem dL_areSmithies_34 : decode cL_areSmithies 34 = .ok (.invokevirtual 91, 3) := by decide +kernel
theorem dL_areSmithies_37 : decode cL_areSmithies 37 = .ok (.ldc 65, 2) := by decide +kernel
theorem dL_areSmithies_39 : decode cL_areSmithies 39 = .ok (.if_icmp .ne 21, 3) := by decide +kernel
theorem dL_areSmithies_42 : decode cL_areSmithies 42 = .ok (.aload_n 0, 1) := by decide +kernel
theorem dL_areSmithies_43 : decode cL_areSmithies 43 = .ok (.aload_n 1, 1) := by decide +kernel
theorem dL_areSmithies_44 : decode cL_areSmithies 44 = .ok (.iconst 0, 1) := by decide +kernel
theorem dL_areSmithies_45 : decode cL_areSmithies 45 = .ok (.iaload, 1) := by decide +kernel
theorem dL_areSmithies_46 : decode cL_areSmithies 46 = .ok (.iconst 0, 1) := by decide +kernel
theorem dL_areSmithies_47 : decode cL_areSmithies 47 = .ok (.iconst 0, 1) := by decide +kernel
theorem dL_areSmithies_48 : decode cL_areSmithies 48 = .ok (.invokevirtual 93, 3) := by decide +kernel
theorem dL_areSmithies_51 : decode cL_areSmithies 51 = .ok (.ldc 65, 2) := by decide +kernel
theorem dL_areSmithies_53 : decode cL_areSmithies 53 = .ok (.if_icmp .ne 7, 3) := by decide +kernel
theorem dL_areSmithies_56 : decode cL_areSmithies 56 = .ok (.iconst 1, 1) := by decide +kernel
theorem dL_areSmithies_57 : decode cL_areSmithies 57 = .ok (.goto 4, 3) := by decide +kernel
theorem dL_areSmithies_60 : decode cL_areSmithies 60 = .ok (.iconst 0, 1) := by decide +kernel
theorem dL_areSmithies_61 : decode cL_areSmithies 61 = .ok (.istore 5, 2) := by decide +kernel
theorem dL_areSmithies_63 : decode cL_areSmithies 63 = .ok (.iconst 0, 1) := by decide +kernel
theorem dL_areSmithies_64 : decode cL_areSmithies 64 = .ok (.istore 6, 2) := by decide +kernel
theorem dL_areSmithies_66 : decode cL_areSmithies 66 = .ok (.iload 6, 2) := by decide +kernel
theorem dL_areSmithies_68 : decode cL_areSmithies 68 = .ok (.aload_n 1, 1) := by decide +kernel
theorem dL_areSmithies_69 : decode cL_areSmithies 69 = .ok (.iconst 0, 1) := by decide +kernel
theorem dL_areSmithies_70 : decode cL_areSmithies 70 = .ok (.iaload, 1) := by decide +kernel
theorem dL_areSmithies_71 : decode cL_areSmithies 71 = .ok (.if_icmp .ge 478, 3) := by decide +kernel
theorem dL_areSmithies_74 : decode cL_areSmithies 74 = .ok (.iload 5, 2) := by decide +kernel
theorem dL_areSmithies_76 : decode cL_areSmithies 76 = .ok (.ifCond .eq 473, 3) := by decide +kernel
theorem dL_areSmithies_79 : decode cL_areSmithies 79 = .ok (.bipush 8, 2) := by decide +kernel
theorem dL_areSmithies_81 : decode cL_areSmithies 81 = .ok (.iload 6, 2) := by decide +kernel
theorem dL_areSmithies_83 : decode cL_areSmithies 83 = .ok (.imul, 1) := by decide +kernel
theorem dL_areSmithies_84 : decode cL_areSmithies 84 = .ok (.istore 7, 2) := by decide +kernel
theorem dL_areSmithies_86 : decode cL_areSmithies 86 = .ok (.iload_n 3, 1) := by decide +kernel
theorem dL_areSmithies_87 : decode cL_areSmithies 87 = .ok (.aload_n 2, 1) := by decide +kernel
theorem dL_areSmithies_88 : decode cL_areSmithies 88 = .ok (.iload 7, 2) := by decide +kernel
theorem dL_areSmithies_90 : decode cL_areSmithies 90 = .ok (.iconst 5, 1) := by decide +kernel
theorem dL_areSmithies_91 : decode cL_areSmithies 91 = .ok (.iadd, 1) := by decide +kernel
theorem dL_areSmithies_92 : decode cL_areSmithies 92 = .ok (.iaload, 1) := by decide +kernel
theorem dL_areSmithies_93 : decode cL_areSmithies 93 = .ok (.iadd, 1) := by decide +kernel
theorem dL_areSmithies_94 : decode cL_areSmithies 94 = .ok (.istore_n 3, 1) := by decide +kernel
theorem dL_areSmithies_95 : decode cL_areSmithies 95 = .ok (.iload 4, 2) := by decide +kernel
theorem dL_areSmithies_97 : decode cL_areSmithies 97 = .ok (.aload_n 2, 1) := by decide +kernel
theorem dL_areSmithies_98 : decode cL_areSmithies 98 = .ok (.iload 7, 2) := by decide +kernel
theorem dL_areSmithies_100 : decode cL_areSmithies 100 = .ok (.bipush 6, 2) := by decide +kernel
theorem dL_areSmithies_102 : decode cL_areSmithies 102 = .ok (.iadd, 1) := by decide +kernel
theorem dL_areSmithies_103 : decode cL_areSmithies 103 = .ok (.iaload, 1) := by decide +kernel
theorem dL_areSmithies_104 : decode cL_areSmithies 104 = .ok (.iadd, 1) := by decide +kernel
theorem dL_areSmithies_105 : decode cL_areSmithies 105 = .ok (.istore 4, 2) := by decide +kernel
theorem dL_areSmithies_107 : decode cL_areSmithies 107 = .ok (.aload_n 0, 1) := by decide +kernel
theorem dL_areSmithies_108 : decode cL_areSmithies 108 = .ok (.iload 6, 2) := by decide +kernel
theorem dL_areSmithies_110 : decode cL_areSmithies 110 = .ok (.iconst 0, 1) := by decide +kernel
theorem dL_areSmithies_111 : decode cL_areSmithies 111 = .ok (.invokevirtual 88, 3) := by decide +kernel
theorem dL_areSmithies_114 : decode cL_areSmithies 114 = .ok (.aload_n 2, 1) := by decide +kernel
theorem dL_areSmithies_115 : decode cL_areSmithies 115 = .ok (.iload 7, 2) := by decide +kernel
theorem dL_areSmithies_117 : decode cL_areSmithies 117 = .ok (.iaload, 1) := by decide +kernel
theorem dL_areSmithies_118 : decode cL_areSmithies 118 = .ok (.if_icmp .ne 209, 3) := by decide +kernel
theorem dL_areSmithies_121 : decode cL_areSmithies 121 = .ok (.aload_n 0, 1) := by decide +kernel
theorem dL_areSmithies_122 : decode cL_areSmithies 122 = .ok (.iload 6, 2) := by decide +kernel
theorem dL_areSmithies_124 : decode cL_areSmithies 124 = .ok (.iconst 1, 1) := by decide +kernel
theorem dL_areSmithies_125 : decode cL_areSmithies 125 = .ok (.invokevirtual 88, 3) := by decide +kernel
theorem dL_areSmithies_128 : decode cL_areSmithies 128 = .ok (.aload_n 2, 1) := by decide +kernel
theorem dL_areSmithies_129 : decode cL_areSmithies 129 = .ok (.iload 7, 2) := by decide +kernel
theorem dL_areSmithies_131 : decode cL_areSmithies 131 = .ok (.iconst 1, 1) := by decide +kernel
theorem dL_areSmithies_132 : decode cL_areSmithies 132 = .ok (.iadd, 1) := by decide +kernel
theorem dL_areSmithies_133 : decode cL_areSmithies 133 = .ok (.iaload, 1) := by decide +kernel
theorem dL_areSmithies_134 : decode cL_areSmithies 134 = .ok (.if_icmp .ne 193, 3) := by decide +kernel
theorem dL_areSmithies_137 : decode cL_areSmithies 137 = .ok (.aload_n 0, 1) := by decide +kernel
theorem dL_areSmithies_138 : decode cL_areSmithies 138 = .ok (.iload 6, 2) := by decide +kernel
theorem dL_areSmithies_140 : decode cL_areSmithies 140 = .ok (.iconst 2, 1) := by decide +kernel
theorem dL_areSmithies_141 : decode cL_areSmithies 141 = .ok (.invokevirtual 88, 3) := by decide +kernel
theorem dL_areSmithies_144 : decode cL_areSmithies 144 = .ok (.aload_n 2, 1) := by decide +kernel
theorem dL_areSmithies_145 : decode cL_areSmithies 145 = .ok (.iload 7, 2) := by decide +kernel
theorem dL_areSmithies_147 : decode cL_areSmithies 147 = .ok (.iconst 2, 1) := by decide +kernel
theorem dL_areSmithies_148 : decode cL_areSmithies 148 = .ok (.iadd, 1) := by decide +kernel
theorem dL_areSmithies_149 : decode cL_areSmithies 149 = .ok (.iaload, 1) := by decide +kernel
theorem dL_areSmithies_150 : decode cL_areSmithies 150 = .ok (.if_icmp .ne 177, 3) := by decide +kernel
theorem dL_areSmithies_153 : decode cL_areSmithies 153 = .ok (.aload_n 0, 1) := by decide +kernel
theorem dL_areSmithies_154 : decode cL_areSmithies 154 = .ok (.iload 6, 2) := by decide +kernel
theorem dL_areSmithies_156 : decode cL_areSmithies 156 = .ok (.iconst 3, 1) := by decide +kernel
theorem dL_areSmithies_157 : decode cL_areSmithies 157 = .ok (.invokevirtual 88, 3) := by decide +kernel
theorem dL_areSmithies_160 : decode cL_areSmithies 160 = .ok (.aload_n 2, 1) := by decide +kernel
theorem dL_areSmithies_161 : decode cL_areSmithies 161 = .ok (.iload 7, 2) := by decide +kernel
theorem dL_areSmithies_163 : decode cL_areSmithies 163 = .ok (.iconst 2, 1) := by decide +kernel
theorem dL_areSmithies_164 : decode cL_areSmithies 164 = .ok (.iadd, 1) := by decide +kernel
theorem dL_areSmithies_165 : decode cL_areSmithies 165 = .ok (.iaload, 1) := by decide +kernel
theorem dL_areSmithies_166 : decode cL_areSmithies 166 = .ok (.bipush 10, 2) := by decide +kernel
theorem dL_areSmithies_168 : decode cL_areSmithies 168 = .ok (.idiv, 1) := by decide +kernel
theorem dL_areSmithies_169 : decode cL_areSmithies 169 = .ok (.if_icmp .ne 158, 3) := by decide +kernel
theorem dL_areSmithies_172 : decode cL_areSmithies 172 = .ok (.aload_n 0, 1) := by decide +kernel
theorem dL_areSmithies_173 : decode cL_areSmithies 173 = .ok (.iload 6, 2) := by decide +kernel
theorem dL_areSmithies_175 : decode cL_areSmithies 175 = .ok (.iconst 4, 1) := by decide +kernel
theorem dL_areSmithies_176 : decode cL_areSmithies 176 = .ok (.invokevirtual 88, 3) := by decide +kernel
theorem dL_areSmithies_179 : decode cL_areSmithies 179 = .ok (.aload_n 2, 1) := by decide +kernel
theorem dL_areSmithies_180 : decode cL_areSmithies 180 = .ok (.iload 7, 2) := by decide +kernel
theorem dL_areSmithies_182 : decode cL_areSmithies 182 = .ok (.iconst 3, 1) := by decide +kernel
theorem dL_areSmithies_183 : decode cL_areSmithies 183 = .ok (.iadd, 1) := by decide +kernel
theorem dL_areSmithies_184 : decode cL_areSmithies 184 = .ok (.iaload, 1) := by decide +kernel
theorem dL_areSmithies_185 : decode cL_areSmithies 185 = .ok (.if_icmp .ne 142, 3) := by decide +kernel
theorem dL_areSmithies_188 : decode cL_areSmithies 188 = .ok (.aload_n 0, 1) := by decide +kernel
theorem dL_areSmithies_189 : decode cL_areSmithies 189 = .ok (.iload 6, 2) := by decide +kernel
theorem dL_areSmithies_191 : decode cL_areSmithies 191 = .ok (.iconst 5, 1) := by decide +kernel
theorem dL_areSmithies_192 : decode cL_areSmithies 192 = .ok (.invokevirtual 88, 3) := by decide +kernel
theorem dL_areSmithies_195 : decode cL_areSmithies 195 = .ok (.aload_n 2, 1) := by decide +kernel
theorem dL_areSmithies_196 : decode cL_areSmithies 196 = .ok (.iload 7, 2) := by decide +kernel
theorem dL_areSmithies_198 : decode cL_areSmithies 198 = .ok (.iconst 3, 1) := by decide +kernel
theorem dL_areSmithies_199 : decode cL_areSmithies 199 = .ok (.iadd, 1) := by decide +kernel
theorem dL_areSmithies_200 : decode cL_areSmithies 200 = .ok (.iaload, 1) := by decide +kernel
theorem dL_areSmithies_201 : decode cL_areSmithies 201 = .ok (.aload_n 1, 1) := by decide +kernel
theorem dL_areSmithies_202 : decode cL_areSmithies 202 = .ok (.bipush 10, 2) := by decide +kernel
theorem dL_areSmithies_204 : decode cL_areSmithies 204 = .ok (.iaload, 1) := by decide +kernel
theorem dL_areSmithies_205 : decode cL_areSmithies 205 = .ok (.if_icmp .ge 7, 3) := by decide +kernel
theorem dL_areSmithies_208 : decode cL_areSmithies 208 = .ok (.iconst 1, 1) := by decide +kernel
theorem dL_areSmithies_209 : decode cL_areSmithies 209 = .ok (.goto 4, 3) := by decide +kernel
theorem dL_areSmithies_212 : decode cL_areSmithies 212 = .ok (.iconst 0, 1) := by decide +kernel
theorem dL_areSmithies_213 : decode cL_areSmithies 213 = .ok (.if_icmp .ne 114, 3) := by decide +kernel
theorem dL_areSmithies_216 : decode cL_areSmithies 216 = .ok (.aload_n 0, 1) := by decide +kernel
theorem dL_areSmithies_217 : decode cL_areSmithies 217 = .ok (.iload 6, 2) := by decide +kernel
theorem dL_areSmithies_219 : decode cL_areSmithies 219 = .ok (.bipush 6, 2) := by decide +kernel
theorem dL_areSmithies_221 : decode cL_areSmithies 221 = .ok (.invokevirtual 88, 3) := by decide +kernel
theorem dL_areSmithies_224 : decode cL_areSmithies 224 = .ok (.aload_n 2, 1) := by decide +kernel
theorem dL_areSmithies_225 : decode cL_areSmithies 225 = .ok (.iload 7, 2) := by decide +kernel
theorem dL_areSmithies_227 : decode cL_areSmithies 227 = .ok (.iconst 4, 1) := by decide +kernel
theorem dL_areSmithies_228 : decode cL_areSmithies 228 = .ok (.iadd, 1) := by decide +kernel
theorem dL_areSmithies_229 : decode cL_areSmithies 229 = .ok (.iaload, 1) := by decide +kernel
theorem dL_areSmithies_230 : decode cL_areSmithies 230 = .ok (.if_icmp .ne 97, 3) := by decide +kernel
theorem dL_areSmithies_233 : decode cL_areSmithies 233 = .ok (.aload_n 0, 1) := by decide +kernel
theorem dL_areSmithies_234 : decode cL_areSmithies 234 = .ok (.iload 6, 2) := by decide +kernel
theorem dL_areSmithies_236 : decode cL_areSmithies 236 = .ok (.bipush 7, 2) := by decide +kernel
theorem dL_areSmithies_238 : decode cL_areSmithies 238 = .ok (.invokevirtual 88, 3) := by decide +kernel
theorem dL_areSmithies_241 : decode cL_areSmithies 241 = .ok (.aload_n 2, 1) := by decide +kernel
theorem dL_areSmithies_242 : decode cL_areSmithies 242 = .ok (.iload 7, 2) := by decide +kernel
theorem dL_areSmithies_244 : decode cL_areSmithies 244 = .ok (.iconst 5, 1) := by decide +kernel
theorem dL_areSmithies_245 : decode cL_areSmithies 245 = .ok (.iadd, 1) := by decide +kernel
theorem dL_areSmithies_246 : decode cL_areSmithies 246 = .ok (.iaload, 1) := by decide +kernel
theorem dL_areSmithies_247 : decode cL_areSmithies 247 = .ok (.if_icmp .ne 80, 3) := by decide +kernel
theorem dL_areSmithies_250 : decode cL_areSmithies 250 = .ok (.aload_n 0, 1) := by decide +kernel
theorem dL_areSmithies_251 : decode cL_areSmithies 251 = .ok (.iload 6, 2) := by decide +kernel
theorem dL_areSmithies_253 : decode cL_areSmithies 253 = .ok (.bipush 8, 2) := by decide +kernel
theorem dL_areSmithies_255 : decode cL_areSmithies 255 = .ok (.invokevirtual 88, 3) := by decide +kernel
theorem dL_areSmithies_258 : decode cL_areSmithies 258 = .ok (.aload_n 2, 1) := by decide +kernel
theorem dL_areSmithies_259 : decode cL_areSmithies 259 = .ok (.iload 7, 2) := by decide +kernel
theorem dL_areSmithies_261 : decode cL_areSmithies 261 = .ok (.bipush 6, 2) := by decide +kernel
theorem dL_areSmithies_263 : decode cL_areSmithies 263 = .ok (.iadd, 1) := by decide +kernel
theorem dL_areSmithies_264 : decode cL_areSmithies 264 = .ok (.iaload, 1) := by decide +kernel
theorem dL_areSmithies_265 : decode cL_areSmithies 265 = .ok (.if_icmp .ne 62, 3) := by decide +kernel
theorem dL_areSmithies_268 : decode cL_areSmithies 268 = .ok (.aload_n 0, 1) := by decide +kernel
theorem dL_areSmithies_269 : decode cL_areSmithies 269 = .ok (.iload 6, 2) := by decide +kernel
theorem dL_areSmithies_271 : decode cL_areSmithies 271 = .ok (.bipush 9, 2) := by decide +kernel
theorem dL_areSmithies_273 : decode cL_areSmithies 273 = .ok (.invokevirtual 88, 3) := by decide +kernel
theorem dL_areSmithies_276 : decode cL_areSmithies 276 = .ok (.aload_n 2, 1) := by decide +kernel
theorem dL_areSmithies_277 : decode cL_areSmithies 277 = .ok (.iload 7, 2) := by decide +kernel
theorem dL_areSmithies_279 : decode cL_areSmithies 279 = .ok (.bipush 7, 2) := by decide +kernel
theorem dL_areSmithies_281 : decode cL_areSmithies 281 = .ok (.iadd, 1) := by decide +kernel
theorem dL_areSmithies_282 : decode cL_areSmithies 282 = .ok (.iaload, 1) := by decide +kernel
theorem dL_areSmithies_283 : decode cL_areSmithies 283 = .ok (.if_icmp .ne 44, 3) := by decide +kernel
theorem dL_areSmithies_286 : decode cL_areSmithies 286 = .ok (.aload_n 0, 1) := by decide +kernel
theorem dL_areSmithies_287 : decode cL_areSmithies 287 = .ok (.iload 6, 2) := by decide +kernel
theorem dL_areSmithies_289 : decode cL_areSmithies 289 = .ok (.bipush 10, 2) := by decide +kernel
theorem dL_areSmithies_291 : decode cL_areSmithies 291 = .ok (.invokevirtual 88, 3) := by decide +kernel
theorem dL_areSmithies_294 : decode cL_areSmithies 294 = .ok (.aload_n 1, 1) := by decide +kernel
theorem dL_areSmithies_295 : decode cL_areSmithies 295 = .ok (.iconst 2, 1) := by decide +kernel
theorem dL_areSmithies_296 : decode cL_areSmithies 296 = .ok (.iaload, 1) := by decide +kernel
theorem dL_areSmithies_297 : decode cL_areSmithies 297 = .ok (.aload_n 2, 1) := by decide +kernel
theorem dL_areSmithies_298 : decode cL_areSmithies 298 = .ok (.iload 7, 2) := by decide +kernel
theorem dL_areSmithies_300 : decode cL_areSmithies 300 = .ok (.iaload, 1) := by decide +kernel
theorem dL_areSmithies_301 : decode cL_areSmithies 301 = .ok (.invokestatic 19, 3) := by decide +kernel
theorem dL_areSmithies_304 : decode cL_areSmithies 304 = .ok (.invokestatic 9, 3) := by decide +kernel
theorem dL_areSmithies_307 : decode cL_areSmithies 307 = .ok (.if_icmp .ne 20, 3) := by decide +kernel
theorem dL_areSmithies_310 : decode cL_areSmithies 310 = .ok (.aload_n 0, 1) := by decide +kernel
theorem dL_areSmithies_311 : decode cL_areSmithies 311 = .ok (.iload 6, 2) := by decide +kernel
theorem dL_areSmithies_313 : decode cL_areSmithies 313 = .ok (.bipush 11, 2) := by decide +kernel
theorem dL_areSmithies_315 : decode cL_areSmithies 315 = .ok (.invokevirtual 88, 3) := by decide +kernel
theorem dL_areSmithies_318 : decode cL_areSmithies 318 = .ok (.ldc 65, 2) := by decide +kernel
theorem dL_areSmithies_320 : decode cL_areSmithies 320 = .ok (.if_icmp .ne 7, 3) := by decide +kernel
theorem dL_areSmithies_323 : decode cL_areSmithies 323 = .ok (.iconst 1, 1) := by decide +kernel
theorem dL_areSmithies_324 : decode cL_areSmithies 324 = .ok (.goto 4, 3) := by decide +kernel
theorem dL_areSmithies_327 : decode cL_areSmithies 327 = .ok (.iconst 0, 1) := by decide +kernel
theorem dL_areSmithies_328 : decode cL_areSmithies 328 = .ok (.istore 5, 2) := by decide +kernel
theorem dL_areSmithies_330 : decode cL_areSmithies 330 = .ok (.iconst 0, 1) := by decide +kernel
theorem dL_areSmithies_331 : decode cL_areSmithies 331 = .ok (.istore 8, 2) := by decide +kernel
theorem dL_areSmithies_333 : decode cL_areSmithies 333 = .ok (.iload 8, 2) := by decide +kernel
theorem dL_areSmithies_335 : decode cL_areSmithies 335 = .ok (.iconst 2, 1) := by decide +kernel
theorem dL_areSmithies_336 : decode cL_areSmithies 336 = .ok (.if_icmp .ge 157, 3) := by decide +kernel
theorem dL_areSmithies_339 : decode cL_areSmithies 339 = .ok (.iload 5, 2) := by decide +kernel
theorem dL_areSmithies_341 : decode cL_areSmithies 341 = .ok (.ifCond .eq 152, 3) := by decide +kernel
theorem dL_areSmithies_344 : decode cL_areSmithies 344 = .ok (.aload_n 0, 1) := by decide +kernel
theorem dL_areSmithies_345 : decode cL_areSmithies 345 = .ok (.iload 6, 2) := by decide +kernel
theorem dL_areSmithies_347 : decode cL_areSmithies 347 = .ok (.iload 8, 2) := by decide +kernel
theorem dL_areSmithies_349 : decode cL_areSmithies 349 = .ok (.invokevirtual 91, 3) := by decide +kernel
theorem dL_areSmithies_352 : decode cL_areSmithies 352 = .ok (.aload_n 1, 1) := by decide +kernel
theorem dL_areSmithies_353 : decode cL_areSmithies 353 = .ok (.aload_n 2, 1) := by decide +kernel
theorem dL_areSmithies_354 : decode cL_areSmithies 354 = .ok (.iload 7, 2) := by decide +kernel
theorem dL_areSmithies_356 : decode cL_areSmithies 356 = .ok (.iload 8, 2) := by decide +kernel
theorem dL_areSmithies_358 : decode cL_areSmithies 358 = .ok (.iconst 1, 1) := by decide +kernel
theorem dL_areSmithies_359 : decode cL_areSmithies 359 = .ok (.if_icmp .ne 7, 3) := by decide +kernel
theorem dL_areSmithies_362 : decode cL_areSmithies 362 = .ok (.iconst 1, 1) := by decide +kernel
theorem dL_areSmithies_363 : decode cL_areSmithies 363 = .ok (.goto 4, 3) := by decide +kernel
theorem dL_areSmithies_366 : decode cL_areSmithies 366 = .ok (.iconst 0, 1) := by decide +kernel
theorem dL_areSmithies_367 : decode cL_areSmithies 367 = .ok (.invokestatic 25, 3) := by decide +kernel
theorem dL_areSmithies_370 : decode cL_areSmithies 370 = .ok (.if_icmp .ne 114, 3) := by decide +kernel
theorem dL_areSmithies_373 : decode cL_areSmithies 373 = .ok (.aload_n 0, 1) := by decide +kernel
theorem dL_areSmithies_374 : decode cL_areSmithies 374 = .ok (.iload 6, 2) := by decide +kernel
theorem dL_areSmithies_376 : decode cL_areSmithies 376 = .ok (.iload 8, 2) := by decide +kernel
theorem dL_areSmithies_378 : decode cL_areSmithies 378 = .ok (.iconst 0, 1) := by decide +kernel
theorem dL_areSmithies_379 : decode cL_areSmithies 379 = .ok (.invokevirtual 93, 3) := by decide +kernel
theorem dL_areSmithies_382 : decode cL_areSmithies 382 = .ok (.iconst 1, 1) := by decide +kernel
theorem dL_areSmithies_383 : decode cL_areSmithies 383 = .ok (.iconst 2, 1) := by decide +kernel
theorem dL_areSmithies_384 : decode cL_areSmithies 384 = .ok (.iload 8, 2) := by decide +kernel
theorem dL_areSmithies_386 : decode cL_areSmithies 386 = .ok (.imul, 1) := by decide +kernel
theorem dL_areSmithies_387 : decode cL_areSmithies 387 = .ok (.iadd, 1) := by decide +kernel
theorem dL_areSmithies_388 : decode cL_areSmithies 388 = .ok (.if_icmp .ne 96, 3) := by decide +kernel
theorem dL_areSmithies_391 : decode cL_areSmithies 391 = .ok (.aload_n 0, 1) := by decide +kernel
theorem dL_areSmithies_392 : decode cL_areSmithies 392 = .ok (.iload 6, 2) := by decide +kernel
theorem dL_areSmithies_394 : decode cL_areSmithies 394 = .ok (.iload 8, 2) := by decide +kernel
theorem dL_areSmithies_396 : decode cL_areSmithies 396 = .ok (.iconst 1, 1) := by decide +kernel
theorem dL_areSmithies_397 : decode cL_areSmithies 397 = .ok (.invokevirtual 93, 3) := by decide +kernel
theorem dL_areSmithies_400 : decode cL_areSmithies 400 = .ok (.aload_n 2, 1) := by decide +kernel
theorem dL_areSmithies_401 : decode cL_areSmithies 401 = .ok (.iload 7, 2) := by decide +kernel
theorem dL_areSmithies_403 : decode cL_areSmithies 403 = .ok (.iload 8, 2) := by decide +kernel
theorem dL_areSmithies_405 : decode cL_areSmithies 405 = .ok (.iconst 1, 1) := by decide +kernel
theorem dL_areSmithies_406 : decode cL_areSmithies 406 = .ok (.if_icmp .ne 7, 3) := by decide +kernel
theorem dL_areSmithies_409 : decode cL_areSmithies 409 = .ok (.iconst 1, 1) := by decide +kernel
theorem dL_areSmithies_410 : decode cL_areSmithies 410 = .ok (.goto 4, 3) := by decide +kernel
theorem dL_areSmithies_413 : decode cL_areSmithies 413 = .ok (.iconst 0, 1) := by decide +kernel
theorem dL_areSmithies_414 : decode cL_areSmithies 414 = .ok (.invokestatic 15, 3) := by decide +kernel
theorem dL_areSmithies_417 : decode cL_areSmithies 417 = .ok (.if_icmp .ne 67, 3) := by decide +kernel
theorem dL_areSmithies_420 : decode cL_areSmithies 420 = .ok (.aload_n 0, 1) := by decide +kernel
theorem dL_areSmithies_421 : decode cL_areSmithies 421 = .ok (.iload 6, 2) := by decide +kernel
theorem dL_areSmithies_423 : decode cL_areSmithies 423 = .ok (.iload 8, 2) := by decide +kernel
theorem dL_areSmithies_425 : decode cL_areSmithies 425 = .ok (.iconst 2, 1) := by decide +kernel
theorem dL_areSmithies_426 : decode cL_areSmithies 426 = .ok (.invokevirtual 93, 3) := by decide +kernel
theorem dL_areSmithies_429 : decode cL_areSmithies 429 = .ok (.aload_n 1, 1) := by decide +kernel
theorem dL_areSmithies_430 : decode cL_areSmithies 430 = .ok (.aload_n 2, 1) := by decide +kernel
theorem dL_areSmithies_431 : decode cL_areSmithies 431 = .ok (.iload 7, 2) := by decide +kernel
theorem dL_areSmithies_433 : decode cL_areSmithies 433 = .ok (.iload 8, 2) := by decide +kernel
theorem dL_areSmithies_435 : decode cL_areSmithies 435 = .ok (.iconst 1, 1) := by decide +kernel
theorem dL_areSmithies_436 : decode cL_areSmithies 436 = .ok (.if_icmp .ne 7, 3) := by decide +kernel
theorem dL_areSmithies_439 : decode cL_areSmithies 439 = .ok (.iconst 1, 1) := by decide +kernel
theorem dL_areSmithies_440 : decode cL_areSmithies 440 = .ok (.goto 4, 3) := by decide +kernel
theorem dL_areSmithies_443 : decode cL_areSmithies 443 = .ok (.iconst 0, 1) := by decide +kernel
theorem dL_areSmithies_444 : decode cL_areSmithies 444 = .ok (.invokestatic 29, 3) := by decide +kernel
theorem dL_areSmithies_447 : decode cL_areSmithies 447 = .ok (.if_icmp .ne 37, 3) := by decide +kernel
theorem dL_areSmithies_450 : decode cL_areSmithies 450 = .ok (.aload_n 0, 1) := by decide +kernel
theorem dL_areSmithies_451 : decode cL_areSmithies 451 = .ok (.iload 6, 2) := by decide +kernel
theorem dL_areSmithies_453 : decode cL_areSmithies 453 = .ok (.iload 8, 2) := by decide +kernel
theorem dL_areSmithies_455 : decode cL_areSmithies 455 = .ok (.iconst 3, 1) := by decide +kernel
theorem dL_areSmithies_456 : decode cL_areSmithies 456 = .ok (.invokevirtual 93, 3) := by decide +kernel
theorem dL_areSmithies_459 : decode cL_areSmithies 459 = .ok (.iload 8, 2) := by decide +kernel
theorem dL_areSmithies_461 : decode cL_areSmithies 461 = .ok (.iconst 1, 1) := by decide +kernel
theorem dL_areSmithies_462 : decode cL_areSmithies 462 = .ok (.if_icmp .ne 7, 3) := by decide +kernel
theorem dL_areSmithies_465 : decode cL_areSmithies 465 = .ok (.iconst 0, 1) := by decide +kernel
theorem dL_areSmithies_466 : decode cL_areSmithies 466 = .ok (.goto 11, 3) := by decide +kernel
theorem dL_areSmithies_469 : decode cL_areSmithies 469 = .ok (.aload_n 2, 1) := by decide +kernel
theorem dL_areSmithies_470 : decode cL_areSmithies 470 = .ok (.iload 7, 2) := by decide +kernel
theorem dL_areSmithies_472 : decode cL_areSmithies 472 = .ok (.iconst 2, 1) := by decide +kernel
theorem dL_areSmithies_473 : decode cL_areSmithies 473 = .ok (.iadd, 1) := by decide +kernel
theorem dL_areSmithies_474 : decode cL_areSmithies 474 = .ok (.iaload, 1) := by decide +kernel
theorem dL_areSmithies_475 : decode cL_areSmithies 475 = .ok (.iconst 3, 1) := by decide +kernel
theorem dL_areSmithies_476 : decode cL_areSmithies 476 = .ok (.idiv, 1) := by decide +kernel
theorem dL_areSmithies_477 : decode cL_areSmithies 477 = .ok (.if_icmp .ne 7, 3) := by decide +kernel
theorem dL_areSmithies_480 : decode cL_areSmithies 480 = .ok (.iconst 1, 1) := by decide +kernel
theorem dL_areSmithies_481 : decode cL_areSmithies 481 = .ok (.goto 4, 3) := by decide +kernel
theorem dL_areSmithies_484 : decode cL_areSmithies 484 = .ok (.iconst 0, 1) := by decide +kernel
theorem dL_areSmithies_485 : decode cL_areSmithies 485 = .ok (.istore 5, 2) := by decide +kernel
theorem dL_areSmithies_487 : decode cL_areSmithies 487 = .ok (.iinc 8 1, 3) := by decide +kernel
theorem dL_areSmithies_490 : decode cL_areSmithies 490 = .ok (.goto (-157), 3) := by decide +kernel
theorem dL_areSmithies_493 : decode cL_areSmithies 493 = .ok (.iload 5, 2) := by decide +kernel
theorem dL_areSmithies_495 : decode cL_areSmithies 495 = .ok (.ifCond .eq 45, 3) := by decide +kernel
theorem dL_areSmithies_498 : decode cL_areSmithies 498 = .ok (.aload_n 0, 1) := by decide +kernel
theorem dL_areSmithies_499 : decode cL_areSmithies 499 = .ok (.iload 6, 2) := by decide +kernel
theorem dL_areSmithies_501 : decode cL_areSmithies 501 = .ok (.iconst 2, 1) := by decide +kernel
theorem dL_areSmithies_502 : decode cL_areSmithies 502 = .ok (.invokevirtual 91, 3) := by decide +kernel
theorem dL_areSmithies_505 : decode cL_areSmithies 505 = .ok (.ldc 65, 2) := by decide +kernel
theorem dL_areSmithies_507 : decode cL_areSmithies 507 = .ok (.if_icmp .ne 33, 3) := by decide +kernel
theorem dL_areSmithies_510 : decode cL_areSmithies 510 = .ok (.aload_n 0, 1) := by decide +kernel
theorem dL_areSmithies_511 : decode cL_areSmithies 511 = .ok (.iload 6, 2) := by decide +kernel
theorem dL_areSmithies_513 : decode cL_areSmithies 513 = .ok (.iconst 2, 1) := by decide +kernel
theorem dL_areSmithies_514 : decode cL_areSmithies 514 = .ok (.iconst 0, 1) := by decide +kernel
theorem dL_areSmithies_515 : decode cL_areSmithies 515 = .ok (.invokevirtual 93, 3) := by decide +kernel
theorem dL_areSmithies_518 : decode cL_areSmithies 518 = .ok (.ldc 65, 2) := by decide +kernel
theorem dL_areSmithies_520 : decode cL_areSmithies 520 = .ok (.if_icmp .ne 20, 3) := by decide +kernel
theorem dL_areSmithies_523 : decode cL_areSmithies 523 = .ok (.aload_n 0, 1) := by decide +kernel
theorem dL_areSmithies_524 : decode cL_areSmithies 524 = .ok (.iload 6, 2) := by decide +kernel
theorem dL_areSmithies_526 : decode cL_areSmithies 526 = .ok (.iconst 0, 1) := by decide +kernel
theorem dL_areSmithies_527 : decode cL_areSmithies 527 = .ok (.iconst 4, 1) := by decide +kernel
theorem dL_areSmithies_528 : decode cL_areSmithies 528 = .ok (.invokevirtual 93, 3) := by decide +kernel
theorem dL_areSmithies_531 : decode cL_areSmithies 531 = .ok (.ldc 65, 2) := by decide +kernel
theorem dL_areSmithies_533 : decode cL_areSmithies 533 = .ok (.if_icmp .ne 7, 3) := by decide +kernel
theorem dL_areSmithies_536 : decode cL_areSmithies 536 = .ok (.iconst 1, 1) := by decide +kernel
theorem dL_areSmithies_537 : decode cL_areSmithies 537 = .ok (.goto 4, 3) := by decide +kernel
theorem dL_areSmithies_540 : decode cL_areSmithies 540 = .ok (.iconst 0, 1) := by decide +kernel
theorem dL_areSmithies_541 : decode cL_areSmithies 541 = .ok (.istore 5, 2) := by decide +kernel
theorem dL_areSmithies_543 : decode cL_areSmithies 543 = .ok (.iinc 6 1, 3) := by decide +kernel
theorem dL_areSmithies_546 : decode cL_areSmithies 546 = .ok (.goto (-480), 3) := by decide +kernel
theorem dL_areSmithies_549 : decode cL_areSmithies 549 = .ok (.iload 5, 2) := by decide +kernel
theorem dL_areSmithies_551 : decode cL_areSmithies 551 = .ok (.ifCond .eq 50, 3) := by decide +kernel
theorem dL_areSmithies_554 : decode cL_areSmithies 554 = .ok (.aload_n 0, 1) := by decide +kernel
theorem dL_areSmithies_555 : decode cL_areSmithies 555 = .ok (.bipush 6, 2) := by decide +kernel
theorem dL_areSmithies_557 : decode cL_areSmithies 557 = .ok (.invokevirtual 97, 3) := by decide +kernel
theorem dL_areSmithies_560 : decode cL_areSmithies 560 = .ok (.iload_n 3, 1) := by decide +kernel
theorem dL_areSmithies_561 : decode cL_areSmithies 561 = .ok (.if_icmp .ne 40, 3) := by decide +kernel
theorem dL_areSmithies_564 : decode cL_areSmithies 564 = .ok (.aload_n 0, 1) := by decide +kernel
theorem dL_areSmithies_565 : decode cL_areSmithies 565 = .ok (.bipush 8, 2) := by decide +kernel
theorem dL_areSmithies_567 : decode cL_areSmithies 567 = .ok (.invokevirtual 97, 3) := by decide +kernel
theorem dL_areSmithies_570 : decode cL_areSmithies 570 = .ok (.iload_n 3, 1) := by decide +kernel
theorem dL_areSmithies_571 : decode cL_areSmithies 571 = .ok (.iload 4, 2) := by decide +kernel
theorem dL_areSmithies_573 : decode cL_areSmithies 573 = .ok (.iadd, 1) := by decide +kernel
theorem dL_areSmithies_574 : decode cL_areSmithies 574 = .ok (.if_icmp .ne 27, 3) := by decide +kernel
theorem dL_areSmithies_577 : decode cL_areSmithies 577 = .ok (.aload_n 0, 1) := by decide +kernel
theorem dL_areSmithies_578 : decode cL_areSmithies 578 = .ok (.iconst 5, 1) := by decide +kernel
theorem dL_areSmithies_579 : decode cL_areSmithies 579 = .ok (.invokevirtual 97, 3) := by decide +kernel
theorem dL_areSmithies_582 : decode cL_areSmithies 582 = .ok (.bipush 100, 2) := by decide +kernel
theorem dL_areSmithies_584 : decode cL_areSmithies 584 = .ok (.iload 4, 2) := by decide +kernel
theorem dL_areSmithies_586 : decode cL_areSmithies 586 = .ok (.iadd, 1) := by decide +kernel
theorem dL_areSmithies_587 : decode cL_areSmithies 587 = .ok (.aload_n 0, 1) := by decide +kernel
theorem dL_areSmithies_588 : decode cL_areSmithies 588 = .ok (.bipush 7, 2) := by decide +kernel
theorem dL_areSmithies_590 : decode cL_areSmithies 590 = .ok (.invokevirtual 97, 3) := by decide +kernel
theorem dL_areSmithies_593 : decode cL_areSmithies 593 = .ok (.isub, 1) := by decide +kernel
theorem dL_areSmithies_594 : decode cL_areSmithies 594 = .ok (.if_icmp .ne 7, 3) := by decide +kernel
theorem dL_areSmithies_597 : decode cL_areSmithies 597 = .ok (.iconst 1, 1) := by decide +kernel
theorem dL_areSmithies_598 : decode cL_areSmithies 598 = .ok (.goto 4, 3) := by decide +kernel
theorem dL_areSmithies_601 : decode cL_areSmithies 601 = .ok (.iconst 0, 1) := by decide +kernel
theorem dL_areSmithies_602 : decode cL_areSmithies 602 = .ok (.ireturn, 1) := by decide +kernel
set_option maxRecDepth 20000 in
theorem ggL_isSo_X3_count : GoodIn wsL_isSo wsX3_count := goodIn_r _ [111, 11, 112, 113, 21, 114, 115, 116, 117, 118, 119, 120, 121, 122, 123, 124, 125, 126, 127, 12, 128, 129, 130, 25, 131, 27, 75, 132, 23, 24, 26, 28, 133, 134, 135, 136, 137, 138, 33, 34, 35, 36, 142, 143, 144, 145, 146, 147, 148, 149, 150, 159, 160, 161, 162, 163, 164, 165, 166, 167, 168, 169, 170, 171, 172, 173, 174, 175, 176, 177, 178, 179, 151, 152, 153, 154, 155, 156, 157, 158] (by decide +kernel) (by decide +kernel)
set_option maxRecDepth 20000 in
theorem gL_isSo_X3_count : GoodIn wsL_isSo (wsV RL 97 RX3 yX3_count wsX3_count) := goodIn_app (goodIn_of _ (by decide +kernel)) ggL_isSo_X3_count
set_option maxRecDepth 20000 in
theorem ggL_isSo_L_colds : GoodIn wsL_isSo wsL_colds := goodIn_r _ [141] (by decide +kernel) (by decide +kernel)
set_option maxRecDepth 20000 in
theorem gL_isSo_L_colds : GoodIn wsL_isSo (va_wsS RL 36 yL_colds wsL_colds) := goodIn_app (goodIn_of _ (by decide +kernel)) ggL_isSo_L_colds
theorem dL_isSo_0 : decode cL_isSo 0 = .ok (.aload_n 0, 1) := by decide +kernel
theorem dL_isSo_1 : decode cL_isSo 1 = .ok (.aload_n 1, 1) := by decide +kernel
theorem dL_isSo_2 : decode cL_isSo 2 = .ok (.aload_n 2, 1) := by decide +kernel
theorem dL_isSo_3 : decode cL_isSo 3 = .ok (.invokestatic 100, 3) := by decide +kernel
theorem dL_isSo_6 : decode cL_isSo 6 = .ok (.istore_n 3, 1) := by decide +kernel
theorem dL_isSo_7 : decode cL_isSo 7 = .ok (.iconst 0, 1) := by decide +kernel
theorem dL_isSo_8 : decode cL_isSo 8 = .ok (.istore 4, 2) := by decide +kernel
theorem dL_isSo_10 : decode cL_isSo 10 = .ok (.iload 4, 2) := by decide +kernel
theorem dL_isSo_12 : decode cL_isSo 12 = .ok (.bipush 6, 2) := by decide +kernel
theorem dL_isSo_14 : decode cL_isSo 14 = .ok (.if_icmp .ge 32, 3) := by decide +kernel
theorem dL_isSo_17 : decode cL_isSo 17 = .ok (.iload_n 3, 1) := by decide +kernel
theorem dL_isSo_18 : decode cL_isSo 18 = .ok (.ifCond .eq 28, 3) := by decide +kernel
theorem dL_isSo_21 : decode cL_isSo 21 = .ok (.aload_n 0, 1) := by decide +kernel
theorem dL_isSo_22 : decode cL_isSo 22 = .ok (.iload 4, 2) := by decide +kernel
theorem dL_isSo_24 : decode cL_isSo 24 = .ok (.invokevirtual 97, 3) := by decide +kernel
theorem dL_isSo_27 : decode cL_isSo 27 = .ok (.aload_n 1, 1) := by decide +kernel
theorem dL_isSo_28 : decode cL_isSo 28 = .ok (.iload 4, 2) := by decide +kernel
theorem dL_isSo_30 : decode cL_isSo 30 = .ok (.iaload, 1) := by decide +kernel
theorem dL_isSo_31 : decode cL_isSo 31 = .ok (.if_icmp .ne 7, 3) := by decide +kernel
theorem dL_isSo_34 : decode cL_isSo 34 = .ok (.iconst 1, 1) := by decide +kernel
theorem dL_isSo_35 : decode cL_isSo 35 = .ok (.goto 4, 3) := by decide +kernel
theorem dL_isSo_38 : decode cL_isSo 38 = .ok (.iconst 0, 1) := by decide +kernel
theorem dL_isSo_39 : decode cL_isSo 39 = .ok (.istore_n 3, 1) := by decide +kernel
theorem dL_isSo_40 : decode cL_isSo 40 = .ok (.iinc 4 1, 3) := by decide +kernel
theorem dL_isSo_43 : decode cL_isSo 43 = .ok (.goto (-33), 3) := by decide +kernel
theorem dL_isSo_46 : decode cL_isSo 46 = .ok (.iload_n 3, 1) := by decide +kernel
theorem dL_isSo_47 : decode cL_isSo 47 = .ok (.ifCond .eq 134, 3) := by decide +kernel
theorem dL_isSo_50 : decode cL_isSo 50 = .ok (.aload_n 0, 1) := by decide +kernel
theorem dL_isSo_51 : decode cL_isSo 51 = .ok (.bipush 7, 2) := by decide +kernel
theorem dL_isSo_53 : decode cL_isSo 53 = .ok (.invokevirtual 97, 3) := by decide +kernel
theorem dL_isSo_56 : decode cL_isSo 56 = .ok (.aload_n 1, 1) := by decide +kernel
theorem dL_isSo_57 : decode cL_isSo 57 = .ok (.bipush 6, 2) := by decide +kernel
theorem dL_isSo_59 : decode cL_isSo 59 = .ok (.iaload, 1) := by decide +kernel
theorem dL_isSo_60 : decode cL_isSo 60 = .ok (.if_icmp .ne 121, 3) := by decide +kernel
theorem dL_isSo_63 : decode cL_isSo 63 = .ok (.aload_n 0, 1) := by decide +kernel
theorem dL_isSo_64 : decode cL_isSo 64 = .ok (.bipush 8, 2) := by decide +kernel
theorem dL_isSo_66 : decode cL_isSo 66 = .ok (.invokevirtual 97, 3) := by decide +kernel
theorem dL_isSo_69 : decode cL_isSo 69 = .ok (.aload_n 1, 1) := by decide +kernel
theorem dL_isSo_70 : decode cL_isSo 70 = .ok (.bipush 7, 2) := by decide +kernel
theorem dL_isSo_72 : decode cL_isSo 72 = .ok (.iaload, 1) := by decide +kernel
theorem dL_isSo_73 : decode cL_isSo 73 = .ok (.if_icmp .ne 108, 3) := by decide +kernel
theorem dL_isSo_76 : decode cL_isSo 76 = .ok (.aload_n 0, 1) := by decide +kernel
theorem dL_isSo_77 : decode cL_isSo 77 = .ok (.bipush 9, 2) := by decide +kernel
theorem dL_isSo_79 : decode cL_isSo 79 = .ok (.invokevirtual 97, 3) := by decide +kernel
theorem dL_isSo_82 : decode cL_isSo 82 = .ok (.aload_n 1, 1) := by decide +kernel
theorem dL_isSo_83 : decode cL_isSo 83 = .ok (.aload_n 2, 1) := by decide +kernel
theorem dL_isSo_84 : decode cL_isSo 84 = .ok (.invokestatic 36, 3) := by decide +kernel
theorem dL_isSo_87 : decode cL_isSo 87 = .ok (.if_icmp .ne 94, 3) := by decide +kernel
theorem dL_isSo_90 : decode cL_isSo 90 = .ok (.aload_n 0, 1) := by decide +kernel
theorem dL_isSo_91 : decode cL_isSo 91 = .ok (.bipush 10, 2) := by decide +kernel
theorem dL_isSo_93 : decode cL_isSo 93 = .ok (.invokevirtual 97, 3) := by decide +kernel
theorem dL_isSo_96 : decode cL_isSo 96 = .ok (.aload_n 1, 1) := by decide +kernel
theorem dL_isSo_97 : decode cL_isSo 97 = .ok (.bipush 8, 2) := by decide +kernel
theorem dL_isSo_99 : decode cL_isSo 99 = .ok (.iaload, 1) := by decide +kernel
theorem dL_isSo_100 : decode cL_isSo 100 = .ok (.if_icmp .ne 81, 3) := by decide +kernel
theorem dL_isSo_103 : decode cL_isSo 103 = .ok (.aload_n 0, 1) := by decide +kernel
theorem dL_isSo_104 : decode cL_isSo 104 = .ok (.bipush 11, 2) := by decide +kernel
theorem dL_isSo_106 : decode cL_isSo 106 = .ok (.invokevirtual 97, 3) := by decide +kernel
theorem dL_isSo_109 : decode cL_isSo 109 = .ok (.aload_n 1, 1) := by decide +kernel
theorem dL_isSo_110 : decode cL_isSo 110 = .ok (.bipush 9, 2) := by decide +kernel
theorem dL_isSo_112 : decode cL_isSo 112 = .ok (.iaload, 1) := by decide +kernel
theorem dL_isSo_113 : decode cL_isSo 113 = .ok (.if_icmp .ne 68, 3) := by decide +kernel
theorem dL_isSo_116 : decode cL_isSo 116 = .ok (.aload_n 0, 1) := by decide +kernel
theorem dL_isSo_117 : decode cL_isSo 117 = .ok (.bipush 13, 2) := by decide +kernel
theorem dL_isSo_119 : decode cL_isSo 119 = .ok (.invokevirtual 97, 3) := by decide +kernel
theorem dL_isSo_122 : decode cL_isSo 122 = .ok (.ifCond .ne 59, 3) := by decide +kernel
theorem dL_isSo_125 : decode cL_isSo 125 = .ok (.aload_n 0, 1) := by decide +kernel
theorem dL_isSo_126 : decode cL_isSo 126 = .ok (.bipush 20, 2) := by decide +kernel
theorem dL_isSo_128 : decode cL_isSo 128 = .ok (.invokevirtual 97, 3) := by decide +kernel
theorem dL_isSo_131 : decode cL_isSo 131 = .ok (.aload_n 1, 1) := by decide +kernel
theorem dL_isSo_132 : decode cL_isSo 132 = .ok (.bipush 10, 2) := by decide +kernel
theorem dL_isSo_134 : decode cL_isSo 134 = .ok (.iaload, 1) := by decide +kernel
theorem dL_isSo_135 : decode cL_isSo 135 = .ok (.if_icmp .ne 46, 3) := by decide +kernel
theorem dL_isSo_138 : decode cL_isSo 138 = .ok (.aload_n 0, 1) := by decide +kernel
theorem dL_isSo_139 : decode cL_isSo 139 = .ok (.bipush 21, 2) := by decide +kernel
theorem dL_isSo_141 : decode cL_isSo 141 = .ok (.invokevirtual 97, 3) := by decide +kernel
theorem dL_isSo_144 : decode cL_isSo 144 = .ok (.aload_n 1, 1) := by decide +kernel
theorem dL_isSo_145 : decode cL_isSo 145 = .ok (.bipush 11, 2) := by decide +kernel
theorem dL_isSo_147 : decode cL_isSo 147 = .ok (.iaload, 1) := by decide +kernel
theorem dL_isSo_148 : decode cL_isSo 148 = .ok (.if_icmp .ne 33, 3) := by decide +kernel
theorem dL_isSo_151 : decode cL_isSo 151 = .ok (.aload_n 0, 1) := by decide +kernel
theorem dL_isSo_152 : decode cL_isSo 152 = .ok (.bipush 22, 2) := by decide +kernel
theorem dL_isSo_154 : decode cL_isSo 154 = .ok (.invokevirtual 97, 3) := by decide +kernel
theorem dL_isSo_157 : decode cL_isSo 157 = .ok (.aload_n 1, 1) := by decide +kernel
theorem dL_isSo_158 : decode cL_isSo 158 = .ok (.bipush 12, 2) := by decide +kernel
theorem dL_isSo_160 : decode cL_isSo 160 = .ok (.iaload, 1) := by decide +kernel
theorem dL_isSo_161 : decode cL_isSo 161 = .ok (.if_icmp .ne 20, 3) := by decide +kernel
theorem dL_isSo_164 : decode cL_isSo 164 = .ok (.aload_n 0, 1) := by decide +kernel
theorem dL_isSo_165 : decode cL_isSo 165 = .ok (.bipush 23, 2) := by decide +kernel
theorem dL_isSo_167 : decode cL_isSo 167 = .ok (.invokevirtual 97, 3) := by decide +kernel
theorem dL_isSo_170 : decode cL_isSo 170 = .ok (.aload_n 1, 1) := by decide +kernel
theorem dL_isSo_171 : decode cL_isSo 171 = .ok (.bipush 13, 2) := by decide +kernel
theorem dL_isSo_173 : decode cL_isSo 173 = .ok (.iaload, 1) := by decide +kernel
theorem dL_isSo_174 : decode cL_isSo 174 = .ok (.if_icmp .ne 7, 3) := by decide +kernel
theorem dL_isSo_177 : decode cL_isSo 177 = .ok (.iconst 1, 1) := by decide +kernel
theorem dL_isSo_178 : decode cL_isSo 178 = .ok (.goto 4, 3) := by decide +kernel
theorem dL_isSo_181 : decode cL_isSo 181 = .ok (.iconst 0, 1) := by decide +kernel
theorem dL_isSo_182 : decode cL_isSo 182 = .ok (.ireturn, 1) := by decide +kernel
