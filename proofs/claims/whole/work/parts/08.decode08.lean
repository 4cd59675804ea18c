theorem d_Mo_act_15 : decode b_Mo_act 15 = .ok (.putfield 144, 3) := by decide +kernel
theorem d_Mo_act_18 : decode b_Mo_act 18 = .ok (.return_, 1) := by decide +kernel
theorem d_Mo_act_19 : decode b_Mo_act 19 = .ok (.aload_n 0, 1) := by decide +kernel
theorem d_Mo_act_20 : decode b_Mo_act 20 = .ok (.dup, 1) := by decide +kernel
theorem d_Mo_act_21 : decode b_Mo_act 21 = .ok (.getfield 141, 3) := by decide +kernel
theorem d_Mo_act_24 : decode b_Mo_act 24 = .ok (.iload_n 2, 1) := by decide +kernel
theorem d_Mo_act_25 : decode b_Mo_act 25 = .ok (.isub, 1) := by decide +kernel
theorem d_Mo_act_26 : decode b_Mo_act 26 = .ok (.putfield 141, 3) := by decide +kernel
theorem d_Mo_act_29 : decode b_Mo_act 29 = .ok (.iload_n 2, 1) := by decide +kernel
theorem d_Mo_act_30 : decode b_Mo_act 30 = .ok (.ifCond .le 15, 3) := by decide +kernel
theorem d_Mo_act_33 : decode b_Mo_act 33 = .ok (.aload_n 0, 1) := by decide +kernel
theorem d_Mo_act_34 : decode b_Mo_act 34 = .ok (.getfield 72, 3) := by decide +kernel
theorem d_Mo_act_37 : decode b_Mo_act 37 = .ok (.aload_n 0, 1) := by decide +kernel
theorem d_Mo_act_38 : decode b_Mo_act 38 = .ok (.getfield 141, 3) := by decide +kernel
theorem d_Mo_act_41 : decode b_Mo_act 41 = .ok (.iaload, 1) := by decide +kernel
theorem d_Mo_act_42 : decode b_Mo_act 42 = .ok (.goto 4, 3) := by decide +kernel
theorem d_Mo_act_45 : decode b_Mo_act 45 = .ok (.iconst 0, 1) := by decide +kernel
theorem d_Mo_act_46 : decode b_Mo_act 46 = .ok (.istore_n 3, 1) := by decide +kernel
theorem d_Mo_act_47 : decode b_Mo_act 47 = .ok (.iload_n 2, 1) := by decide +kernel
theorem d_Mo_act_48 : decode b_Mo_act 48 = .ok (.iconst 1, 1) := by decide +kernel
theorem d_Mo_act_49 : decode b_Mo_act 49 = .ok (.if_icmp .le 17, 3) := by decide +kernel
theorem d_Mo_act_52 : decode b_Mo_act 52 = .ok (.aload_n 0, 1) := by decide +kernel
theorem d_Mo_act_53 : decode b_Mo_act 53 = .ok (.getfield 72, 3) := by decide +kernel
theorem d_Mo_act_56 : decode b_Mo_act 56 = .ok (.aload_n 0, 1) := by decide +kernel
theorem d_Mo_act_57 : decode b_Mo_act 57 = .ok (.getfield 141, 3) := by decide +kernel
theorem d_Mo_act_60 : decode b_Mo_act 60 = .ok (.iconst 1, 1) := by decide +kernel
theorem d_Mo_act_61 : decode b_Mo_act 61 = .ok (.iadd, 1) := by decide +kernel
theorem d_Mo_act_62 : decode b_Mo_act 62 = .ok (.iaload, 1) := by decide +kernel
theorem d_Mo_act_63 : decode b_Mo_act 63 = .ok (.goto 4, 3) := by decide +kernel
theorem d_Mo_act_66 : decode b_Mo_act 66 = .ok (.iconst 0, 1) := by decide +kernel
theorem d_Mo_act_67 : decode b_Mo_act 67 = .ok (.istore 4, 2) := by decide +kernel
theorem d_Mo_act_69 : decode b_Mo_act 69 = .ok (.iload_n 2, 1) := by decide +kernel
theorem d_Mo_act_70 : decode b_Mo_act 70 = .ok (.iconst 2, 1) := by decide +kernel
theorem d_Mo_act_71 : decode b_Mo_act 71 = .ok (.if_icmp .le 17, 3) := by decide +kernel
theorem d_Mo_act_74 : decode b_Mo_act 74 = .ok (.aload_n 0, 1) := by decide +kernel
theorem d_Mo_act_75 : decode b_Mo_act 75 = .ok (.getfield 72, 3) := by decide +kernel
theorem d_Mo_act_78 : decode b_Mo_act 78 = .ok (.aload_n 0, 1) := by decide +kernel
theorem d_Mo_act_79 : decode b_Mo_act 79 = .ok (.getfield 141, 3) := by decide +kernel
theorem d_Mo_act_82 : decode b_Mo_act 82 = .ok (.iconst 2, 1) := by decide +kernel
theorem d_Mo_act_83 : decode b_Mo_act 83 = .ok (.iadd, 1) := by decide +kernel
theorem d_Mo_act_84 : decode b_Mo_act 84 = .ok (.iaload, 1) := by decide +kernel
theorem d_Mo_act_85 : decode b_Mo_act 85 = .ok (.goto 4, 3) := by decide +kernel
theorem d_Mo_act_88 : decode b_Mo_act 88 = .ok (.iconst 0, 1) := by decide +kernel
theorem d_Mo_act_89 : decode b_Mo_act 89 = .ok (.istore 5, 2) := by decide +kernel
theorem d_Mo_act_91 : decode b_Mo_act 91 = .ok (.iload_n 1, 1) := by decide +kernel
theorem d_Mo_act_92 : decode b_Mo_act 92 = .ok (.bipush 48, 2) := by decide +kernel
theorem d_Mo_act_94 : decode b_Mo_act 94 = .ok (.if_icmp .lt 18, 3) := by decide +kernel
theorem d_Mo_act_97 : decode b_Mo_act 97 = .ok (.iload_n 1, 1) := by decide +kernel
theorem d_Mo_act_98 : decode b_Mo_act 98 = .ok (.bipush 57, 2) := by decide +kernel
theorem d_Mo_act_100 : decode b_Mo_act 100 = .ok (.if_icmp .gt 12, 3) := by decide +kernel
theorem d_Mo_act_103 : decode b_Mo_act 103 = .ok (.aload_n 0, 1) := by decide +kernel
theorem d_Mo_act_104 : decode b_Mo_act 104 = .ok (.iload_n 1, 1) := by decide +kernel
theorem d_Mo_act_105 : decode b_Mo_act 105 = .ok (.bipush 48, 2) := by decide +kernel
theorem d_Mo_act_107 : decode b_Mo_act 107 = .ok (.isub, 1) := by decide +kernel
theorem d_Mo_act_108 : decode b_Mo_act 108 = .ok (.invokevirtual 164, 3) := by decide +kernel
theorem d_Mo_act_111 : decode b_Mo_act 111 = .ok (.return_, 1) := by decide +kernel
theorem d_Mo_act_112 : decode b_Mo_act 112 = .ok (.iload_n 1, 1) := by decide +kernel
theorem d_Mo_act_113 : decode b_Mo_act 113 = .ok (.tableswitch 585 42 125 #[384, 362, 585, 373, 585, 585, 585, 585, 585, 585, 585, 585, 585, 585, 585, 585, 585, 585, 585, 585, 585, 585, 585, 585, 585, 585, 468, 585, 585, 585, 585, 585, 585, 585, 585, 585, 585, 585, 585, 585, 458, 585, 585, 585, 585, 585, 585, 585, 585, 585, 585, 585, 585, 585, 585, 585, 585, 502, 395, 585, 540, 448, 585, 585, 585, 585, 585, 425, 585, 492, 422, 577, 532, 441, 351, 585, 585, 510, 408, 585, 585, 562, 585, 570], 351) := by decide +kernel
theorem d_Mo_act_464 : decode b_Mo_act 464 = .ok (.aload_n 0, 1) := by decide +kernel
theorem d_Mo_act_465 : decode b_Mo_act 465 = .ok (.bipush 10, 2) := by decide +kernel
theorem d_Mo_act_467 : decode b_Mo_act 467 = .ok (.iload_n 3, 1) := by decide +kernel
theorem d_Mo_act_468 : decode b_Mo_act 468 = .ok (.imul, 1) := by decide +kernel
theorem d_Mo_act_469 : decode b_Mo_act 469 = .ok (.invokevirtual 164, 3) := by decide +kernel
theorem d_Mo_act_472 : decode b_Mo_act 472 = .ok (.goto 231, 3) := by decide +kernel
theorem d_Mo_act_475 : decode b_Mo_act 475 = .ok (.aload_n 0, 1) := by decide +kernel
theorem d_Mo_act_476 : decode b_Mo_act 476 = .ok (.iload_n 3, 1) := by decide +kernel
theorem d_Mo_act_477 : decode b_Mo_act 477 = .ok (.iload 4, 2) := by decide +kernel
theorem d_Mo_act_479 : decode b_Mo_act 479 = .ok (.iadd, 1) := by decide +kernel
theorem d_Mo_act_480 : decode b_Mo_act 480 = .ok (.invokevirtual 164, 3) := by decide +kernel
theorem d_Mo_act_483 : decode b_Mo_act 483 = .ok (.goto 220, 3) := by decide +kernel
theorem d_Mo_act_486 : decode b_Mo_act 486 = .ok (.aload_n 0, 1) := by decide +kernel
theorem d_Mo_act_487 : decode b_Mo_act 487 = .ok (.iload_n 3, 1) := by decide +kernel
theorem d_Mo_act_488 : decode b_Mo_act 488 = .ok (.iload 4, 2) := by decide +kernel
theorem d_Mo_act_490 : decode b_Mo_act 490 = .ok (.isub, 1) := by decide +kernel
theorem d_Mo_act_491 : decode b_Mo_act 491 = .ok (.invokevirtual 164, 3) := by decide +kernel
theorem d_Mo_act_494 : decode b_Mo_act 494 = .ok (.goto 209, 3) := by decide +kernel
theorem d_Mo_act_497 : decode b_Mo_act 497 = .ok (.aload_n 0, 1) := by decide +kernel
theorem d_Mo_act_498 : decode b_Mo_act 498 = .ok (.iload_n 3, 1) := by decide +kernel
theorem d_Mo_act_499 : decode b_Mo_act 499 = .ok (.iload 4, 2) := by decide +kernel
theorem d_Mo_act_501 : decode b_Mo_act 501 = .ok (.imul, 1) := by decide +kernel
theorem d_Mo_act_502 : decode b_Mo_act 502 = .ok (.invokevirtual 164, 3) := by decide +kernel
theorem d_Mo_act_505 : decode b_Mo_act 505 = .ok (.goto 198, 3) := by decide +kernel
theorem d_Mo_act_508 : decode b_Mo_act 508 = .ok (.aload_n 0, 1) := by decide +kernel
theorem d_Mo_act_509 : decode b_Mo_act 509 = .ok (.iload_n 3, 1) := by decide +kernel
theorem d_Mo_act_510 : decode b_Mo_act 510 = .ok (.invokevirtual 164, 3) := by decide +kernel
theorem d_Mo_act_513 : decode b_Mo_act 513 = .ok (.aload_n 0, 1) := by decide +kernel
theorem d_Mo_act_514 : decode b_Mo_act 514 = .ok (.iload_n 3, 1) := by decide +kernel
theorem d_Mo_act_515 : decode b_Mo_act 515 = .ok (.invokevirtual 164, 3) := by decide +kernel
theorem d_Mo_act_518 : decode b_Mo_act 518 = .ok (.goto 185, 3) := by decide +kernel
theorem d_Mo_act_521 : decode b_Mo_act 521 = .ok (.aload_n 0, 1) := by decide +kernel
theorem d_Mo_act_522 : decode b_Mo_act 522 = .ok (.iload 4, 2) := by decide +kernel
theorem d_Mo_act_524 : decode b_Mo_act 524 = .ok (.invokevirtual 164, 3) := by decide +kernel
theorem d_Mo_act_527 : decode b_Mo_act 527 = .ok (.aload_n 0, 1) := by decide +kernel
theorem d_Mo_act_528 : decode b_Mo_act 528 = .ok (.iload_n 3, 1) := by decide +kernel
theorem d_Mo_act_529 : decode b_Mo_act 529 = .ok (.invokevirtual 164, 3) := by decide +kernel
theorem d_Mo_act_532 : decode b_Mo_act 532 = .ok (.goto 171, 3) := by decide +kernel
theorem d_Mo_act_535 : decode b_Mo_act 535 = .ok (.goto 168, 3) := by decide +kernel
theorem d_Mo_act_538 : decode b_Mo_act 538 = .ok (.aload_n 0, 1) := by decide +kernel
theorem d_Mo_act_539 : decode b_Mo_act 539 = .ok (.bipush 31, 2) := by decide +kernel
theorem d_Mo_act_541 : decode b_Mo_act 541 = .ok (.aload_n 0, 1) := by decide +kernel
theorem d_Mo_act_542 : decode b_Mo_act 542 = .ok (.getfield 150, 3) := by decide +kernel
theorem d_Mo_act_545 : decode b_Mo_act 545 = .ok (.imul, 1) := by decide +kernel
theorem d_Mo_act_546 : decode b_Mo_act 546 = .ok (.iload_n 3, 1) := by decide +kernel
theorem d_Mo_act_547 : decode b_Mo_act 547 = .ok (.iadd, 1) := by decide +kernel
theorem d_Mo_act_548 : decode b_Mo_act 548 = .ok (.putfield 150, 3) := by decide +kernel
theorem d_Mo_act_551 : decode b_Mo_act 551 = .ok (.goto 152, 3) := by decide +kernel
theorem d_Mo_act_554 : decode b_Mo_act 554 = .ok (.aload_n 0, 1) := by decide +kernel
theorem d_Mo_act_555 : decode b_Mo_act 555 = .ok (.invokevirtual 174, 3) := by decide +kernel
theorem d_Mo_act_558 : decode b_Mo_act 558 = .ok (.goto 145, 3) := by decide +kernel
theorem d_Mo_act_561 : decode b_Mo_act 561 = .ok (.aload_n 0, 1) := by decide +kernel
theorem d_Mo_act_562 : decode b_Mo_act 562 = .ok (.iload_n 3, 1) := by decide +kernel
theorem d_Mo_act_563 : decode b_Mo_act 563 = .ok (.iload 4, 2) := by decide +kernel
theorem d_Mo_act_565 : decode b_Mo_act 565 = .ok (.invokevirtual 177, 3) := by decide +kernel
theorem d_Mo_act_568 : decode b_Mo_act 568 = .ok (.goto 135, 3) := by decide +kernel
theorem d_Mo_act_571 : decode b_Mo_act 571 = .ok (.aload_n 0, 1) := by decide +kernel
theorem d_Mo_act_572 : decode b_Mo_act 572 = .ok (.iload_n 3, 1) := by decide +kernel
theorem d_Mo_act_573 : decode b_Mo_act 573 = .ok (.iload 4, 2) := by decide +kernel
theorem d_Mo_act_575 : decode b_Mo_act 575 = .ok (.invokevirtual 181, 3) := by decide +kernel
theorem d_Mo_act_578 : decode b_Mo_act 578 = .ok (.goto 125, 3) := by decide +kernel
theorem d_Mo_act_581 : decode b_Mo_act 581 = .ok (.aload_n 0, 1) := by decide +kernel
theorem d_Mo_act_582 : decode b_Mo_act 582 = .ok (.aload_n 0, 1) := by decide +kernel
theorem d_Mo_act_583 : decode b_Mo_act 583 = .ok (.iload_n 3, 1) := by decide +kernel
theorem d_Mo_act_584 : decode b_Mo_act 584 = .ok (.iload 4, 2) := by decide +kernel
theorem d_Mo_act_586 : decode b_Mo_act 586 = .ok (.iload 5, 2) := by decide +kernel
theorem d_Mo_act_588 : decode b_Mo_act 588 = .ok (.invokevirtual 184, 3) := by decide +kernel
theorem d_Mo_act_591 : decode b_Mo_act 591 = .ok (.ifCond .ge 7, 3) := by decide +kernel
theorem d_Mo_act_594 : decode b_Mo_act 594 = .ok (.iconst 2, 1) := by decide +kernel
theorem d_Mo_act_595 : decode b_Mo_act 595 = .ok (.goto 4, 3) := by decide +kernel
theorem d_Mo_act_598 : decode b_Mo_act 598 = .ok (.iconst 0, 1) := by decide +kernel
theorem d_Mo_act_599 : decode b_Mo_act 599 = .ok (.putfield 144, 3) := by decide +kernel
theorem d_Mo_act_602 : decode b_Mo_act 602 = .ok (.goto 101, 3) := by decide +kernel
theorem d_Mo_act_605 : decode b_Mo_act 605 = .ok (.aload_n 0, 1) := by decide +kernel
theorem d_Mo_act_606 : decode b_Mo_act 606 = .ok (.iload_n 3, 1) := by decide +kernel
theorem d_Mo_act_607 : decode b_Mo_act 607 = .ok (.iload 4, 2) := by decide +kernel
theorem d_Mo_act_609 : decode b_Mo_act 609 = .ok (.invokevirtual 188, 3) := by decide +kernel
theorem d_Mo_act_612 : decode b_Mo_act 612 = .ok (.goto 91, 3) := by decide +kernel
theorem d_Mo_act_615 : decode b_Mo_act 615 = .ok (.aload_n 0, 1) := by decide +kernel
theorem d_Mo_act_616 : decode b_Mo_act 616 = .ok (.iload_n 3, 1) := by decide +kernel
theorem d_Mo_act_617 : decode b_Mo_act 617 = .ok (.invokevirtual 191, 3) := by decide +kernel
theorem d_Mo_act_620 : decode b_Mo_act 620 = .ok (.goto 83, 3) := by decide +kernel
theorem d_Mo_act_623 : decode b_Mo_act 623 = .ok (.aload_n 0, 1) := by decide +kernel
theorem d_Mo_act_624 : decode b_Mo_act 624 = .ok (.aload_n 0, 1) := by decide +kernel
theorem d_Mo_act_625 : decode b_Mo_act 625 = .ok (.iload_n 3, 1) := by decide +kernel
theorem d_Mo_act_626 : decode b_Mo_act 626 = .ok (.iload 4, 2) := by decide +kernel
theorem d_Mo_act_628 : decode b_Mo_act 628 = .ok (.invokevirtual 119, 3) := by decide +kernel
theorem d_Mo_act_631 : decode b_Mo_act 631 = .ok (.ifCond .ge 7, 3) := by decide +kernel
theorem d_Mo_act_634 : decode b_Mo_act 634 = .ok (.iconst 4, 1) := by decide +kernel
theorem d_Mo_act_635 : decode b_Mo_act 635 = .ok (.goto 4, 3) := by decide +kernel
theorem d_Mo_act_638 : decode b_Mo_act 638 = .ok (.iconst 0, 1) := by decide +kernel
theorem d_Mo_act_639 : decode b_Mo_act 639 = .ok (.putfield 144, 3) := by decide +kernel
theorem d_Mo_act_642 : decode b_Mo_act 642 = .ok (.goto 61, 3) := by decide +kernel
theorem d_Mo_act_645 : decode b_Mo_act 645 = .ok (.aload_n 0, 1) := by decide +kernel
theorem d_Mo_act_646 : decode b_Mo_act 646 = .ok (.iload_n 3, 1) := by decide +kernel
theorem d_Mo_act_647 : decode b_Mo_act 647 = .ok (.invokevirtual 194, 3) := by decide +kernel
theorem d_Mo_act_650 : decode b_Mo_act 650 = .ok (.goto 53, 3) := by decide +kernel
theorem d_Mo_act_653 : decode b_Mo_act 653 = .ok (.aload_n 0, 1) := by decide +kernel
theorem d_Mo_act_654 : decode b_Mo_act 654 = .ok (.aload_n 0, 1) := by decide +kernel
theorem d_Mo_act_655 : decode b_Mo_act 655 = .ok (.iload_n 3, 1) := by decide +kernel
theorem d_Mo_act_656 : decode b_Mo_act 656 = .ok (.iload 4, 2) := by decide +kernel
theorem d_Mo_act_658 : decode b_Mo_act 658 = .ok (.invokevirtual 125, 3) := by decide +kernel
theorem d_Mo_act_661 : decode b_Mo_act 661 = .ok (.ifCond .ge 7, 3) := by decide +kernel
theorem d_Mo_act_664 : decode b_Mo_act 664 = .ok (.iconst 4, 1) := by decide +kernel
theorem d_Mo_act_665 : decode b_Mo_act 665 = .ok (.goto 4, 3) := by decide +kernel
theorem d_Mo_act_668 : decode b_Mo_act 668 = .ok (.iconst 0, 1) := by decide +kernel
theorem d_Mo_act_669 : decode b_Mo_act 669 = .ok (.putfield 144, 3) := by decide +kernel
theorem d_Mo_act_672 : decode b_Mo_act 672 = .ok (.goto 31, 3) := by decide +kernel
theorem d_Mo_act_675 : decode b_Mo_act 675 = .ok (.aload_n 0, 1) := by decide +kernel
theorem d_Mo_act_676 : decode b_Mo_act 676 = .ok (.iload_n 3, 1) := by decide +kernel
theorem d_Mo_act_677 : decode b_Mo_act 677 = .ok (.invokevirtual 197, 3) := by decide +kernel
theorem d_Mo_act_680 : decode b_Mo_act 680 = .ok (.goto 23, 3) := by decide +kernel
theorem d_Mo_act_683 : decode b_Mo_act 683 = .ok (.aload_n 0, 1) := by decide +kernel
theorem d_Mo_act_684 : decode b_Mo_act 684 = .ok (.invokevirtual 200, 3) := by decide +kernel
theorem d_Mo_act_687 : decode b_Mo_act 687 = .ok (.goto 16, 3) := by decide +kernel
theorem d_Mo_act_690 : decode b_Mo_act 690 = .ok (.aload_n 0, 1) := by decide +kernel
theorem d_Mo_act_691 : decode b_Mo_act 691 = .ok (.iconst 1, 1) := by decide +kernel
theorem d_Mo_act_692 : decode b_Mo_act 692 = .ok (.putfield 203, 3) := by decide +kernel
theorem d_Mo_act_695 : decode b_Mo_act 695 = .ok (.goto 8, 3) := by decide +kernel
theorem d_Mo_act_698 : decode b_Mo_act 698 = .ok (.aload_n 0, 1) := by decide +kernel
theorem d_Mo_act_699 : decode b_Mo_act 699 = .ok (.iconst 1, 1) := by decide +kernel
theorem d_Mo_act_700 : decode b_Mo_act 700 = .ok (.putfield 144, 3) := by decide +kernel
theorem d_Mo_act_703 : decode b_Mo_act 703 = .ok (.return_, 1) := by decide +kernel
theorem d_Mo_runJob_0 : decode b_Mo_runJob 0 = .ok (.aload_n 0, 1) := by decide +kernel
theorem d_Mo_runJob_1 : decode b_Mo_runJob 1 = .ok (.iconst 0, 1) := by decide +kernel
theorem d_Mo_runJob_2 : decode b_Mo_runJob 2 = .ok (.putfield 153, 3) := by decide +kernel
theorem d_Mo_runJob_5 : decode b_Mo_runJob 5 = .ok (.aload_n 0, 1) := by decide +kernel
theorem d_Mo_runJob_6 : decode b_Mo_runJob 6 = .ok (.iconst 0, 1) := by decide +kernel
theorem d_Mo_runJob_7 : decode b_Mo_runJob 7 = .ok (.putfield 206, 3) := by decide +kernel
theorem d_Mo_runJob_10 : decode b_Mo_runJob 10 = .ok (.aload_n 0, 1) := by decide +kernel
theorem d_Mo_runJob_11 : decode b_Mo_runJob 11 = .ok (.iconst 0, 1) := by decide +kernel
theorem d_Mo_runJob_12 : decode b_Mo_runJob 12 = .ok (.putfield 141, 3) := by decide +kernel
theorem d_Mo_runJob_15 : decode b_Mo_runJob 15 = .ok (.aload_n 0, 1) := by decide +kernel
theorem d_Mo_runJob_16 : decode b_Mo_runJob 16 = .ok (.iconst 0, 1) := by decide +kernel
theorem d_Mo_runJob_17 : decode b_Mo_runJob 17 = .ok (.putfield 150, 3) := by decide +kernel
theorem d_Mo_runJob_20 : decode b_Mo_runJob 20 = .ok (.aload_n 0, 1) := by decide +kernel
theorem d_Mo_runJob_21 : decode b_Mo_runJob 21 = .ok (.iconst 0, 1) := by decide +kernel
theorem d_Mo_runJob_22 : decode b_Mo_runJob 22 = .ok (.putfield 147, 3) := by decide +kernel
theorem d_Mo_runJob_25 : decode b_Mo_runJob 25 = .ok (.aload_n 0, 1) := by decide +kernel
theorem d_Mo_runJob_26 : decode b_Mo_runJob 26 = .ok (.iconst 0, 1) := by decide +kernel
theorem d_Mo_runJob_27 : decode b_Mo_runJob 27 = .ok (.putfield 159, 3) := by decide +kernel
theorem d_Mo_runJob_30 : decode b_Mo_runJob 30 = .ok (.aload_n 0, 1) := by decide +kernel
theorem d_Mo_runJob_31 : decode b_Mo_runJob 31 = .ok (.iconst 0, 1) := by decide +kernel
theorem d_Mo_runJob_32 : decode b_Mo_runJob 32 = .ok (.putfield 144, 3) := by decide +kernel
theorem d_Mo_runJob_35 : decode b_Mo_runJob 35 = .ok (.aload_n 0, 1) := by decide +kernel
theorem d_Mo_runJob_36 : decode b_Mo_runJob 36 = .ok (.iconst 0, 1) := by decide +kernel
theorem d_Mo_runJob_37 : decode b_Mo_runJob 37 = .ok (.putfield 203, 3) := by decide +kernel
theorem d_Mo_runJob_40 : decode b_Mo_runJob 40 = .ok (.iconst 0, 1) := by decide +kernel
theorem d_Mo_runJob_41 : decode b_Mo_runJob 41 = .ok (.istore_n 1, 1) := by decide +kernel
theorem d_Mo_runJob_42 : decode b_Mo_runJob 42 = .ok (.aload_n 0, 1) := by decide +kernel
theorem d_Mo_runJob_43 : decode b_Mo_runJob 43 = .ok (.getfield 153, 3) := by decide +kernel
theorem d_Mo_runJob_46 : decode b_Mo_runJob 46 = .ok (.aload_n 0, 1) := by decide +kernel
theorem d_Mo_runJob_47 : decode b_Mo_runJob 47 = .ok (.getfield 13, 3) := by decide +kernel
theorem d_Mo_runJob_50 : decode b_Mo_runJob 50 = .ok (.aload_n 0, 1) := by decide +kernel
theorem d_Mo_runJob_51 : decode b_Mo_runJob 51 = .ok (.getfield 132, 3) := by decide +kernel
theorem d_Mo_runJob_54 : decode b_Mo_runJob 54 = .ok (.iaload, 1) := by decide +kernel
theorem d_Mo_runJob_55 : decode b_Mo_runJob 55 = .ok (.if_icmp .ge 134, 3) := by decide +kernel
theorem d_Mo_runJob_58 : decode b_Mo_runJob 58 = .ok (.aload_n 0, 1) := by decide +kernel
theorem d_Mo_runJob_59 : decode b_Mo_runJob 59 = .ok (.getfield 144, 3) := by decide +kernel
theorem d_Mo_runJob_62 : decode b_Mo_runJob 62 = .ok (.ifCond .ne 127, 3) := by decide +kernel
theorem d_Mo_runJob_65 : decode b_Mo_runJob 65 = .ok (.aload_n 0, 1) := by decide +kernel
theorem d_Mo_runJob_66 : decode b_Mo_runJob 66 = .ok (.getfield 203, 3) := by decide +kernel
theorem d_Mo_runJob_69 : decode b_Mo_runJob 69 = .ok (.ifCond .ne 120, 3) := by decide +kernel
theorem d_Mo_runJob_72 : decode b_Mo_runJob 72 = .ok (.iload_n 1, 1) := by decide +kernel
theorem d_Mo_runJob_73 : decode b_Mo_runJob 73 = .ok (.ifCond .ne 116, 3) := by decide +kernel
theorem d_Mo_runJob_76 : decode b_Mo_runJob 76 = .ok (.aload_n 0, 1) := by decide +kernel
theorem d_Mo_runJob_77 : decode b_Mo_runJob 77 = .ok (.aload_n 0, 1) := by decide +kernel
theorem d_Mo_runJob_78 : decode b_Mo_runJob 78 = .ok (.getfield 153, 3) := by decide +kernel
theorem d_Mo_runJob_81 : decode b_Mo_runJob 81 = .ok (.invokevirtual 135, 3) := by decide +kernel
theorem d_Mo_runJob_84 : decode b_Mo_runJob 84 = .ok (.istore_n 2, 1) := by decide +kernel
theorem d_Mo_runJob_85 : decode b_Mo_runJob 85 = .ok (.iload_n 2, 1) := by decide +kernel
theorem d_Mo_runJob_86 : decode b_Mo_runJob 86 = .ok (.bipush 37, 2) := by decide +kernel
theorem d_Mo_runJob_88 : decode b_Mo_runJob 88 = .ok (.if_icmp .ne 18, 3) := by decide +kernel
theorem d_Mo_runJob_91 : decode b_Mo_runJob 91 = .ok (.aload_n 0, 1) := by decide +kernel
theorem d_Mo_runJob_92 : decode b_Mo_runJob 92 = .ok (.aload_n 0, 1) := by decide +kernel
theorem d_Mo_runJob_93 : decode b_Mo_runJob 93 = .ok (.aload_n 0, 1) := by decide +kernel
theorem d_Mo_runJob_94 : decode b_Mo_runJob 94 = .ok (.getfield 153, 3) := by decide +kernel
theorem d_Mo_runJob_97 : decode b_Mo_runJob 97 = .ok (.invokevirtual 138, 3) := by decide +kernel
theorem d_Mo_runJob_100 : decode b_Mo_runJob 100 = .ok (.putfield 153, 3) := by decide +kernel
theorem d_Mo_runJob_103 : decode b_Mo_runJob 103 = .ok (.goto 83, 3) := by decide +kernel
theorem d_Mo_runJob_106 : decode b_Mo_runJob 106 = .ok (.iload_n 2, 1) := by decide +kernel
theorem d_Mo_runJob_107 : decode b_Mo_runJob 107 = .ok (.bipush 32, 2) := by decide +kernel
theorem d_Mo_runJob_109 : decode b_Mo_runJob 109 = .ok (.if_icmp .eq 9, 3) := by decide +kernel
theorem d_Mo_runJob_112 : decode b_Mo_runJob 112 = .ok (.iload_n 2, 1) := by decide +kernel
theorem d_Mo_runJob_113 : decode b_Mo_runJob 113 = .ok (.bipush 10, 2) := by decide +kernel
theorem d_Mo_runJob_115 : decode b_Mo_runJob 115 = .ok (.if_icmp .ne 16, 3) := by decide +kernel
theorem d_Mo_runJob_118 : decode b_Mo_runJob 118 = .ok (.aload_n 0, 1) := by decide +kernel
theorem d_Mo_runJob_119 : decode b_Mo_runJob 119 = .ok (.dup, 1) := by decide +kernel
theorem d_Mo_runJob_120 : decode b_Mo_runJob 120 = .ok (.getfield 153, 3) := by decide +kernel
theorem d_Mo_runJob_123 : decode b_Mo_runJob 123 = .ok (.iconst 1, 1) := by decide +kernel
theorem d_Mo_runJob_124 : decode b_Mo_runJob 124 = .ok (.iadd, 1) := by decide +kernel
theorem d_Mo_runJob_125 : decode b_Mo_runJob 125 = .ok (.putfield 153, 3) := by decide +kernel
theorem d_Mo_runJob_128 : decode b_Mo_runJob 128 = .ok (.goto 58, 3) := by decide +kernel
theorem d_Mo_runJob_131 : decode b_Mo_runJob 131 = .ok (.aload_n 0, 1) := by decide +kernel
theorem d_Mo_runJob_132 : decode b_Mo_runJob 132 = .ok (.getfield 206, 3) := by decide +kernel
theorem d_Mo_runJob_135 : decode b_Mo_runJob 135 = .ok (.aload_n 0, 1) := by decide +kernel
theorem d_Mo_runJob_136 : decode b_Mo_runJob 136 = .ok (.getfield 83, 3) := by decide +kernel
theorem d_Mo_runJob_139 : decode b_Mo_runJob 139 = .ok (.if_icmp .ne 8, 3) := by decide +kernel
theorem d_Mo_runJob_142 : decode b_Mo_runJob 142 = .ok (.iconst 1, 1) := by decide +kernel
theorem d_Mo_runJob_143 : decode b_Mo_runJob 143 = .ok (.istore_n 1, 1) := by decide +kernel
theorem d_Mo_runJob_144 : decode b_Mo_runJob 144 = .ok (.goto 42, 3) := by decide +kernel
theorem d_Mo_runJob_147 : decode b_Mo_runJob 147 = .ok (.aload_n 0, 1) := by decide +kernel
theorem d_Mo_runJob_148 : decode b_Mo_runJob 148 = .ok (.dup, 1) := by decide +kernel
theorem d_Mo_runJob_149 : decode b_Mo_runJob 149 = .ok (.getfield 206, 3) := by decide +kernel
theorem d_Mo_runJob_152 : decode b_Mo_runJob 152 = .ok (.iconst 1, 1) := by decide +kernel
theorem d_Mo_runJob_153 : decode b_Mo_runJob 153 = .ok (.iadd, 1) := by decide +kernel
theorem d_Mo_runJob_154 : decode b_Mo_runJob 154 = .ok (.putfield 206, 3) := by decide +kernel
theorem d_Mo_runJob_157 : decode b_Mo_runJob 157 = .ok (.aload_n 0, 1) := by decide +kernel
theorem d_Mo_runJob_158 : decode b_Mo_runJob 158 = .ok (.iload_n 2, 1) := by decide +kernel
theorem d_Mo_runJob_159 : decode b_Mo_runJob 159 = .ok (.invokevirtual 209, 3) := by decide +kernel
theorem d_Mo_runJob_162 : decode b_Mo_runJob 162 = .ok (.aload_n 0, 1) := by decide +kernel
theorem d_Mo_runJob_163 : decode b_Mo_runJob 163 = .ok (.aload_n 0, 1) := by decide +kernel
theorem d_Mo_runJob_164 : decode b_Mo_runJob 164 = .ok (.getfield 144, 3) := by decide +kernel
theorem d_Mo_runJob_167 : decode b_Mo_runJob 167 = .ok (.ifCond .ne 12, 3) := by decide +kernel
theorem d_Mo_runJob_170 : decode b_Mo_runJob 170 = .ok (.aload_n 0, 1) := by decide +kernel
theorem d_Mo_runJob_171 : decode b_Mo_runJob 171 = .ok (.getfield 153, 3) := by decide +kernel
theorem d_Mo_runJob_174 : decode b_Mo_runJob 174 = .ok (.iconst 1, 1) := by decide +kernel
theorem d_Mo_runJob_175 : decode b_Mo_runJob 175 = .ok (.iadd, 1) := by decide +kernel
theorem d_Mo_runJob_176 : decode b_Mo_runJob 176 = .ok (.goto 7, 3) := by decide +kernel
theorem d_Mo_runJob_179 : decode b_Mo_runJob 179 = .ok (.aload_n 0, 1) := by decide +kernel
theorem d_Mo_runJob_180 : decode b_Mo_runJob 180 = .ok (.getfield 153, 3) := by decide +kernel
theorem d_Mo_runJob_183 : decode b_Mo_runJob 183 = .ok (.putfield 153, 3) := by decide +kernel
theorem d_Mo_runJob_186 : decode b_Mo_runJob 186 = .ok (.goto (-144), 3) := by decide +kernel
theorem d_Mo_runJob_189 : decode b_Mo_runJob 189 = .ok (.bipush 6, 2) := by decide +kernel
theorem d_Mo_runJob_191 : decode b_Mo_runJob 191 = .ok (.aload_n 0, 1) := by decide +kernel
theorem d_Mo_runJob_192 : decode b_Mo_runJob 192 = .ok (.getfield 132, 3) := by decide +kernel
theorem d_Mo_runJob_195 : decode b_Mo_runJob 195 = .ok (.imul, 1) := by decide +kernel
theorem d_Mo_runJob_196 : decode b_Mo_runJob 196 = .ok (.istore_n 2, 1) := by decide +kernel
theorem d_Mo_runJob_197 : decode b_Mo_runJob 197 = .ok (.aload_n 0, 1) := by decide +kernel
theorem d_Mo_runJob_198 : decode b_Mo_runJob 198 = .ok (.getfield 17, 3) := by decide +kernel
theorem d_Mo_runJob_201 : decode b_Mo_runJob 201 = .ok (.iload_n 2, 1) := by decide +kernel
theorem d_Mo_runJob_202 : decode b_Mo_runJob 202 = .ok (.aload_n 0, 1) := by decide +kernel
theorem d_Mo_runJob_203 : decode b_Mo_runJob 203 = .ok (.getfield 144, 3) := by decide +kernel
theorem d_Mo_runJob_206 : decode b_Mo_runJob 206 = .ok (.ifCond .le 7, 3) := by decide +kernel
theorem d_Mo_runJob_209 : decode b_Mo_runJob 209 = .ok (.iconst 2, 1) := by decide +kernel
theorem d_Mo_runJob_210 : decode b_Mo_runJob 210 = .ok (.goto 12, 3) := by decide +kernel
theorem d_Mo_runJob_213 : decode b_Mo_runJob 213 = .ok (.iload_n 1, 1) := by decide +kernel
theorem d_Mo_runJob_214 : decode b_Mo_runJob 214 = .ok (.ifCond .eq 7, 3) := by decide +kernel
theorem d_Mo_runJob_217 : decode b_Mo_runJob 217 = .ok (.iconst 3, 1) := by decide +kernel
theorem d_Mo_runJob_218 : decode b_Mo_runJob 218 = .ok (.goto 4, 3) := by decide +kernel
theorem d_Mo_runJob_221 : decode b_Mo_runJob 221 = .ok (.iconst 1, 1) := by decide +kernel
theorem d_Mo_runJob_222 : decode b_Mo_runJob 222 = .ok (.iastore, 1) := by decide +kernel
theorem d_Mo_runJob_223 : decode b_Mo_runJob 223 = .ok (.aload_n 0, 1) := by decide +kernel
theorem d_Mo_runJob_224 : decode b_Mo_runJob 224 = .ok (.getfield 17, 3) := by decide +kernel
theorem d_Mo_runJob_227 : decode b_Mo_runJob 227 = .ok (.iload_n 2, 1) := by decide +kernel
theorem d_Mo_runJob_228 : decode b_Mo_runJob 228 = .ok (.iconst 1, 1) := by decide +kernel
theorem d_Mo_runJob_229 : decode b_Mo_runJob 229 = .ok (.iadd, 1) := by decide +kernel
theorem d_Mo_runJob_230 : decode b_Mo_runJob 230 = .ok (.aload_n 0, 1) := by decide +kernel
theorem d_Mo_runJob_231 : decode b_Mo_runJob 231 = .ok (.getfield 144, 3) := by decide +kernel
theorem d_Mo_runJob_234 : decode b_Mo_runJob 234 = .ok (.iastore, 1) := by decide +kernel
theorem d_Mo_runJob_235 : decode b_Mo_runJob 235 = .ok (.aload_n 0, 1) := by decide +kernel
theorem d_Mo_runJob_236 : decode b_Mo_runJob 236 = .ok (.getfield 17, 3) := by decide +kernel
theorem d_Mo_runJob_239 : decode b_Mo_runJob 239 = .ok (.iload_n 2, 1) := by decide +kernel
theorem d_Mo_runJob_240 : decode b_Mo_runJob 240 = .ok (.iconst 2, 1) := by decide +kernel
theorem d_Mo_runJob_241 : decode b_Mo_runJob 241 = .ok (.iadd, 1) := by decide +kernel
theorem d_Mo_runJob_242 : decode b_Mo_runJob 242 = .ok (.aload_n 0, 1) := by decide +kernel
theorem d_Mo_runJob_243 : decode b_Mo_runJob 243 = .ok (.getfield 144, 3) := by decide +kernel
theorem d_Mo_runJob_246 : decode b_Mo_runJob 246 = .ok (.ifCond .le 10, 3) := by decide +kernel
theorem d_Mo_runJob_249 : decode b_Mo_runJob 249 = .ok (.aload_n 0, 1) := by decide +kernel
theorem d_Mo_runJob_250 : decode b_Mo_runJob 250 = .ok (.getfield 153, 3) := by decide +kernel
theorem d_Mo_runJob_253 : decode b_Mo_runJob 253 = .ok (.goto 4, 3) := by decide +kernel
theorem d_Mo_runJob_256 : decode b_Mo_runJob 256 = .ok (.iconst 0, 1) := by decide +kernel
theorem d_Mo_runJob_257 : decode b_Mo_runJob 257 = .ok (.iastore, 1) := by decide +kernel
theorem d_Mo_runJob_258 : decode b_Mo_runJob 258 = .ok (.aload_n 0, 1) := by decide +kernel
theorem d_Mo_runJob_259 : decode b_Mo_runJob 259 = .ok (.getfield 17, 3) := by decide +kernel
theorem d_Mo_runJob_262 : decode b_Mo_runJob 262 = .ok (.iload_n 2, 1) := by decide +kernel
theorem d_Mo_runJob_263 : decode b_Mo_runJob 263 = .ok (.iconst 3, 1) := by decide +kernel
theorem d_Mo_runJob_264 : decode b_Mo_runJob 264 = .ok (.iadd, 1) := by decide +kernel
theorem d_Mo_runJob_265 : decode b_Mo_runJob 265 = .ok (.aload_n 0, 1) := by decide +kernel
theorem d_Mo_runJob_266 : decode b_Mo_runJob 266 = .ok (.getfield 147, 3) := by decide +kernel
theorem d_Mo_runJob_269 : decode b_Mo_runJob 269 = .ok (.iastore, 1) := by decide +kernel
theorem d_Mo_runJob_270 : decode b_Mo_runJob 270 = .ok (.aload_n 0, 1) := by decide +kernel
theorem d_Mo_runJob_271 : decode b_Mo_runJob 271 = .ok (.getfield 17, 3) := by decide +kernel
theorem d_Mo_runJob_274 : decode b_Mo_runJob 274 = .ok (.iload_n 2, 1) := by decide +kernel
theorem d_Mo_runJob_275 : decode b_Mo_runJob 275 = .ok (.iconst 4, 1) := by decide +kernel
theorem d_Mo_runJob_276 : decode b_Mo_runJob 276 = .ok (.iadd, 1) := by decide +kernel
theorem d_Mo_runJob_277 : decode b_Mo_runJob 277 = .ok (.aload_n 0, 1) := by decide +kernel
theorem d_Mo_runJob_278 : decode b_Mo_runJob 278 = .ok (.getfield 206, 3) := by decide +kernel
theorem d_Mo_runJob_281 : decode b_Mo_runJob 281 = .ok (.iastore, 1) := by decide +kernel
theorem d_Mo_runJob_282 : decode b_Mo_runJob 282 = .ok (.aload_n 0, 1) := by decide +kernel
theorem d_Mo_runJob_283 : decode b_Mo_runJob 283 = .ok (.getfield 17, 3) := by decide +kernel
theorem d_Mo_runJob_286 : decode b_Mo_runJob 286 = .ok (.iload_n 2, 1) := by decide +kernel
theorem d_Mo_runJob_287 : decode b_Mo_runJob 287 = .ok (.iconst 5, 1) := by decide +kernel
theorem d_Mo_runJob_288 : decode b_Mo_runJob 288 = .ok (.iadd, 1) := by decide +kernel
theorem d_Mo_runJob_289 : decode b_Mo_runJob 289 = .ok (.aload_n 0, 1) := by decide +kernel
theorem d_Mo_runJob_290 : decode b_Mo_runJob 290 = .ok (.getfield 144, 3) := by decide +kernel
theorem d_Mo_runJob_293 : decode b_Mo_runJob 293 = .ok (.ifCond .le 22, 3) := by decide +kernel
theorem d_Mo_runJob_296 : decode b_Mo_runJob 296 = .ok (.aload_n 0, 1) := by decide +kernel
theorem d_Mo_runJob_297 : decode b_Mo_runJob 297 = .ok (.getfield 13, 3) := by decide +kernel
theorem d_Mo_runJob_300 : decode b_Mo_runJob 300 = .ok (.aload_n 0, 1) := by decide +kernel
theorem d_Mo_runJob_301 : decode b_Mo_runJob 301 = .ok (.getfield 132, 3) := by decide +kernel
theorem d_Mo_runJob_304 : decode b_Mo_runJob 304 = .ok (.iaload, 1) := by decide +kernel
theorem d_Mo_runJob_305 : decode b_Mo_runJob 305 = .ok (.aload_n 0, 1) := by decide +kernel
theorem d_Mo_runJob_306 : decode b_Mo_runJob 306 = .ok (.getfield 153, 3) := by decide +kernel
theorem d_Mo_runJob_309 : decode b_Mo_runJob 309 = .ok (.isub, 1) := by decide +kernel
theorem d_Mo_runJob_310 : decode b_Mo_runJob 310 = .ok (.iconst 1, 1) := by decide +kernel
theorem d_Mo_runJob_311 : decode b_Mo_runJob 311 = .ok (.isub, 1) := by decide +kernel
theorem d_Mo_runJob_312 : decode b_Mo_runJob 312 = .ok (.goto 4, 3) := by decide +kernel
theorem d_Mo_runJob_315 : decode b_Mo_runJob 315 = .ok (.iconst 0, 1) := by decide +kernel
theorem d_Mo_runJob_316 : decode b_Mo_runJob 316 = .ok (.iastore, 1) := by decide +kernel
theorem d_Mo_runJob_317 : decode b_Mo_runJob 317 = .ok (.return_, 1) := by decide +kernel
theorem d_Mo_run_0 : decode b_Mo_run 0 = .ok (.aload_n 0, 1) := by decide +kernel
theorem d_Mo_run_1 : decode b_Mo_run 1 = .ok (.iconst 0, 1) := by decide +kernel
theorem d_Mo_run_2 : decode b_Mo_run 2 = .ok (.putfield 87, 3) := by decide +kernel
theorem d_Mo_run_5 : decode b_Mo_run 5 = .ok (.aload_n 0, 1) := by decide +kernel
theorem d_Mo_run_6 : decode b_Mo_run 6 = .ok (.getfield 128, 3) := by decide +kernel
theorem d_Mo_run_9 : decode b_Mo_run 9 = .ok (.ifCond .eq 6, 3) := by decide +kernel
theorem d_Mo_run_12 : decode b_Mo_run 12 = .ok (.bipush (-3), 2) := by decide +kernel
theorem d_Mo_run_14 : decode b_Mo_run 14 = .ok (.ireturn, 1) := by decide +kernel
theorem d_Mo_run_15 : decode b_Mo_run 15 = .ok (.iconst 0, 1) := by decide +kernel
theorem d_Mo_run_16 : decode b_Mo_run 16 = .ok (.istore_n 1, 1) := by decide +kernel
theorem d_Mo_run_17 : decode b_Mo_run 17 = .ok (.iconst 0, 1) := by decide +kernel
theorem d_Mo_run_18 : decode b_Mo_run 18 = .ok (.istore_n 2, 1) := by decide +kernel
theorem d_Mo_run_19 : decode b_Mo_run 19 = .ok (.iload_n 2, 1) := by decide +kernel
theorem d_Mo_run_20 : decode b_Mo_run 20 = .ok (.aload_n 0, 1) := by decide +kernel
theorem d_Mo_run_21 : decode b_Mo_run 21 = .ok (.getfield 90, 3) := by decide +kernel
theorem d_Mo_run_24 : decode b_Mo_run 24 = .ok (.if_icmp .ge 236, 3) := by decide +kernel
theorem d_Mo_run_27 : decode b_Mo_run 27 = .ok (.aload_n 0, 1) := by decide +kernel
theorem d_Mo_run_28 : decode b_Mo_run 28 = .ok (.getfield 17, 3) := by decide +kernel
theorem d_Mo_run_31 : decode b_Mo_run 31 = .ok (.bipush 6, 2) := by decide +kernel
theorem d_Mo_run_33 : decode b_Mo_run 33 = .ok (.iload_n 2, 1) := by decide +kernel
theorem d_Mo_run_34 : decode b_Mo_run 34 = .ok (.imul, 1) := by decide +kernel
theorem d_Mo_run_35 : decode b_Mo_run 35 = .ok (.iaload, 1) := by decide +kernel
theorem d_Mo_run_36 : decode b_Mo_run 36 = .ok (.ifCond .ne 218, 3) := by decide +kernel
theorem d_Mo_run_39 : decode b_Mo_run 39 = .ok (.iconst 0, 1) := by decide +kernel
theorem d_Mo_run_40 : decode b_Mo_run 40 = .ok (.istore_n 3, 1) := by decide +kernel
theorem d_Mo_run_41 : decode b_Mo_run 41 = .ok (.iload_n 3, 1) := by decide +kernel
theorem d_Mo_run_42 : decode b_Mo_run 42 = .ok (.iconst 4, 1) := by decide +kernel
theorem d_Mo_run_43 : decode b_Mo_run 43 = .ok (.if_icmp .ge 21, 3) := by decide +kernel
theorem d_Mo_run_46 : decode b_Mo_run 46 = .ok (.aload_n 0, 1) := by decide +kernel
theorem d_Mo_run_47 : decode b_Mo_run 47 = .ok (.getfield 29, 3) := by decide +kernel
theorem d_Mo_run_50 : decode b_Mo_run 50 = .ok (.iload_n 3, 1) := by decide +kernel
theorem d_Mo_run_51 : decode b_Mo_run 51 = .ok (.aload_n 0, 1) := by decide +kernel
theorem d_Mo_run_52 : decode b_Mo_run 52 = .ok (.getfield 23, 3) := by decide +kernel
theorem d_Mo_run_55 : decode b_Mo_run 55 = .ok (.iload_n 3, 1) := by decide +kernel
theorem d_Mo_run_56 : decode b_Mo_run 56 = .ok (.iaload, 1) := by decide +kernel
theorem d_Mo_run_57 : decode b_Mo_run 57 = .ok (.iastore, 1) := by decide +kernel
theorem d_Mo_run_58 : decode b_Mo_run 58 = .ok (.iinc 3 1, 3) := by decide +kernel
theorem d_Mo_run_61 : decode b_Mo_run 61 = .ok (.goto (-20), 3) := by decide +kernel
theorem d_Mo_run_64 : decode b_Mo_run 64 = .ok (.iconst 0, 1) := by decide +kernel
theorem d_Mo_run_65 : decode b_Mo_run 65 = .ok (.istore_n 3, 1) := by decide +kernel
theorem d_Mo_run_66 : decode b_Mo_run 66 = .ok (.iload_n 3, 1) := by decide +kernel
