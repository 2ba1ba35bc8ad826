theorem dX12_init_466 : decode cX12_init 466 = .ok (.lastore, 1) := by decide +kernel
theorem dX12_init_467 : decode cX12_init 467 = .ok (.dup, 1) := by decide +kernel
theorem dX12_init_468 : decode cX12_init 468 = .ok (.bipush 28, 2) := by decide +kernel
theorem dX12_init_470 : decode cX12_init 470 = .ok (.ldc2_w 135, 3) := by decide +kernel
theorem dX12_init_473 : decode cX12_init 473 = .ok (.lastore, 1) := by decide +kernel
theorem dX12_init_474 : decode cX12_init 474 = .ok (.dup, 1) := by decide +kernel
theorem dX12_init_475 : decode cX12_init 475 = .ok (.bipush 29, 2) := by decide +kernel
theorem dX12_init_477 : decode cX12_init 477 = .ok (.ldc2_w 137, 3) := by decide +kernel
theorem dX12_init_480 : decode cX12_init 480 = .ok (.lastore, 1) := by decide +kernel
theorem dX12_init_481 : decode cX12_init 481 = .ok (.dup, 1) := by decide +kernel
theorem dX12_init_482 : decode cX12_init 482 = .ok (.bipush 30, 2) := by decide +kernel
theorem dX12_init_484 : decode cX12_init 484 = .ok (.ldc2_w 139, 3) := by decide +kernel
theorem dX12_init_487 : decode cX12_init 487 = .ok (.lastore, 1) := by decide +kernel
theorem dX12_init_488 : decode cX12_init 488 = .ok (.dup, 1) := by decide +kernel
theorem dX12_init_489 : decode cX12_init 489 = .ok (.bipush 31, 2) := by decide +kernel
theorem dX12_init_491 : decode cX12_init 491 = .ok (.ldc2_w 141, 3) := by decide +kernel
theorem dX12_init_494 : decode cX12_init 494 = .ok (.lastore, 1) := by decide +kernel
theorem dX12_init_495 : decode cX12_init 495 = .ok (.dup, 1) := by decide +kernel
theorem dX12_init_496 : decode cX12_init 496 = .ok (.bipush 32, 2) := by decide +kernel
theorem dX12_init_498 : decode cX12_init 498 = .ok (.ldc2_w 143, 3) := by decide +kernel
theorem dX12_init_501 : decode cX12_init 501 = .ok (.lastore, 1) := by decide +kernel
theorem dX12_init_502 : decode cX12_init 502 = .ok (.dup, 1) := by decide +kernel
theorem dX12_init_503 : decode cX12_init 503 = .ok (.bipush 33, 2) := by decide +kernel
theorem dX12_init_505 : decode cX12_init 505 = .ok (.ldc2_w 145, 3) := by decide +kernel
theorem dX12_init_508 : decode cX12_init 508 = .ok (.lastore, 1) := by decide +kernel
theorem dX12_init_509 : decode cX12_init 509 = .ok (.dup, 1) := by decide +kernel
theorem dX12_init_510 : decode cX12_init 510 = .ok (.bipush 34, 2) := by decide +kernel
theorem dX12_init_512 : decode cX12_init 512 = .ok (.ldc2_w 147, 3) := by decide +kernel
theorem dX12_init_515 : decode cX12_init 515 = .ok (.lastore, 1) := by decide +kernel
theorem dX12_init_516 : decode cX12_init 516 = .ok (.dup, 1) := by decide +kernel
theorem dX12_init_517 : decode cX12_init 517 = .ok (.bipush 35, 2) := by decide +kernel
theorem dX12_init_519 : decode cX12_init 519 = .ok (.ldc2_w 149, 3) := by decide +kernel
theorem dX12_init_522 : decode cX12_init 522 = .ok (.lastore, 1) := by decide +kernel
theorem dX12_init_523 : decode cX12_init 523 = .ok (.dup, 1) := by decide +kernel
theorem dX12_init_524 : decode cX12_init 524 = .ok (.bipush 36, 2) := by decide +kernel
theorem dX12_init_526 : decode cX12_init 526 = .ok (.ldc2_w 151, 3) := by decide +kernel
theorem dX12_init_529 : decode cX12_init 529 = .ok (.lastore, 1) := by decide +kernel
theorem dX12_init_530 : decode cX12_init 530 = .ok (.dup, 1) := by decide +kernel
theorem dX12_init_531 : decode cX12_init 531 = .ok (.bipush 37, 2) := by decide +kernel
theorem dX12_init_533 : decode cX12_init 533 = .ok (.ldc2_w 153, 3) := by decide +kernel
theorem dX12_init_536 : decode cX12_init 536 = .ok (.lastore, 1) := by decide +kernel
theorem dX12_init_537 : decode cX12_init 537 = .ok (.dup, 1) := by decide +kernel
theorem dX12_init_538 : decode cX12_init 538 = .ok (.bipush 38, 2) := by decide +kernel
theorem dX12_init_540 : decode cX12_init 540 = .ok (.ldc2_w 155, 3) := by decide +kernel
theorem dX12_init_543 : decode cX12_init 543 = .ok (.lastore, 1) := by decide +kernel
theorem dX12_init_544 : decode cX12_init 544 = .ok (.dup, 1) := by decide +kernel
theorem dX12_init_545 : decode cX12_init 545 = .ok (.bipush 39, 2) := by decide +kernel
theorem dX12_init_547 : decode cX12_init 547 = .ok (.ldc2_w 157, 3) := by decide +kernel
theorem dX12_init_550 : decode cX12_init 550 = .ok (.lastore, 1) := by decide +kernel
theorem dX12_init_551 : decode cX12_init 551 = .ok (.putfield 159, 3) := by decide +kernel
theorem dX12_init_554 : decode cX12_init 554 = .ok (.aload_n 0, 1) := by decide +kernel
theorem dX12_init_555 : decode cX12_init 555 = .ok (.sipush 200, 3) := by decide +kernel
theorem dX12_init_558 : decode cX12_init 558 = .ok (.newarray .int, 2) := by decide +kernel
theorem dX12_init_560 : decode cX12_init 560 = .ok (.putfield 162, 3) := by decide +kernel
theorem dX12_init_563 : decode cX12_init 563 = .ok (.aload_n 0, 1) := by decide +kernel
theorem dX12_init_564 : decode cX12_init 564 = .ok (.sipush 300, 3) := by decide +kernel
theorem dX12_init_567 : decode cX12_init 567 = .ok (.newarray .int, 2) := by decide +kernel
theorem dX12_init_569 : decode cX12_init 569 = .ok (.putfield 166, 3) := by decide +kernel
theorem dX12_init_572 : decode cX12_init 572 = .ok (.aload_n 0, 1) := by decide +kernel
theorem dX12_init_573 : decode cX12_init 573 = .ok (.bipush 30, 2) := by decide +kernel
theorem dX12_init_575 : decode cX12_init 575 = .ok (.newarray .int, 2) := by decide +kernel
theorem dX12_init_577 : decode cX12_init 577 = .ok (.putfield 169, 3) := by decide +kernel
theorem dX12_init_580 : decode cX12_init 580 = .ok (.aload_n 0, 1) := by decide +kernel
theorem dX12_init_581 : decode cX12_init 581 = .ok (.bipush 30, 2) := by decide +kernel
theorem dX12_init_583 : decode cX12_init 583 = .ok (.newarray .int, 2) := by decide +kernel
theorem dX12_init_585 : decode cX12_init 585 = .ok (.putfield 172, 3) := by decide +kernel
theorem dX12_init_588 : decode cX12_init 588 = .ok (.aload_n 0, 1) := by decide +kernel
theorem dX12_init_589 : decode cX12_init 589 = .ok (.bipush 30, 2) := by decide +kernel
theorem dX12_init_591 : decode cX12_init 591 = .ok (.newarray .int, 2) := by decide +kernel
theorem dX12_init_593 : decode cX12_init 593 = .ok (.putfield 175, 3) := by decide +kernel
theorem dX12_init_596 : decode cX12_init 596 = .ok (.aload_n 0, 1) := by decide +kernel
theorem dX12_init_597 : decode cX12_init 597 = .ok (.bipush 30, 2) := by decide +kernel
theorem dX12_init_599 : decode cX12_init 599 = .ok (.newarray .int, 2) := by decide +kernel
theorem dX12_init_601 : decode cX12_init 601 = .ok (.putfield 178, 3) := by decide +kernel
theorem dX12_init_604 : decode cX12_init 604 = .ok (.aload_n 0, 1) := by decide +kernel
theorem dX12_init_605 : decode cX12_init 605 = .ok (.bipush 30, 2) := by decide +kernel
theorem dX12_init_607 : decode cX12_init 607 = .ok (.newarray .int, 2) := by decide +kernel
theorem dX12_init_609 : decode cX12_init 609 = .ok (.putfield 181, 3) := by decide +kernel
theorem dX12_init_612 : decode cX12_init 612 = .ok (.aload_n 0, 1) := by decide +kernel
theorem dX12_init_613 : decode cX12_init 613 = .ok (.sipush 400, 3) := by decide +kernel
theorem dX12_init_616 : decode cX12_init 616 = .ok (.newarray .int, 2) := by decide +kernel
theorem dX12_init_618 : decode cX12_init 618 = .ok (.putfield 184, 3) := by decide +kernel
theorem dX12_init_621 : decode cX12_init 621 = .ok (.aload_n 0, 1) := by decide +kernel
theorem dX12_init_622 : decode cX12_init 622 = .ok (.bipush 40, 2) := by decide +kernel
theorem dX12_init_624 : decode cX12_init 624 = .ok (.newarray .int, 2) := by decide +kernel
theorem dX12_init_626 : decode cX12_init 626 = .ok (.putfield 187, 3) := by decide +kernel
theorem dX12_init_629 : decode cX12_init 629 = .ok (.aload_n 0, 1) := by decide +kernel
theorem dX12_init_630 : decode cX12_init 630 = .ok (.bipush 40, 2) := by decide +kernel
theorem dX12_init_632 : decode cX12_init 632 = .ok (.newarray .int, 2) := by decide +kernel
theorem dX12_init_634 : decode cX12_init 634 = .ok (.putfield 190, 3) := by decide +kernel
theorem dX12_init_637 : decode cX12_init 637 = .ok (.aload_n 0, 1) := by decide +kernel
theorem dX12_init_638 : decode cX12_init 638 = .ok (.bipush 40, 2) := by decide +kernel
theorem dX12_init_640 : decode cX12_init 640 = .ok (.newarray .int, 2) := by decide +kernel
theorem dX12_init_642 : decode cX12_init 642 = .ok (.putfield 193, 3) := by decide +kernel
theorem dX12_init_645 : decode cX12_init 645 = .ok (.aload_n 0, 1) := by decide +kernel
theorem dX12_init_646 : decode cX12_init 646 = .ok (.bipush 40, 2) := by decide +kernel
theorem dX12_init_648 : decode cX12_init 648 = .ok (.newarray .boolean, 2) := by decide +kernel
theorem dX12_init_650 : decode cX12_init 650 = .ok (.putfield 196, 3) := by decide +kernel
theorem dX12_init_653 : decode cX12_init 653 = .ok (.aload_n 0, 1) := by decide +kernel
theorem dX12_init_654 : decode cX12_init 654 = .ok (.bipush 40, 2) := by decide +kernel
theorem dX12_init_656 : decode cX12_init 656 = .ok (.newarray .boolean, 2) := by decide +kernel
theorem dX12_init_658 : decode cX12_init 658 = .ok (.putfield 200, 3) := by decide +kernel
theorem dX12_init_661 : decode cX12_init 661 = .ok (.aload_n 0, 1) := by decide +kernel
theorem dX12_init_662 : decode cX12_init 662 = .ok (.sipush 360, 3) := by decide +kernel
theorem dX12_init_665 : decode cX12_init 665 = .ok (.newarray .int, 2) := by decide +kernel
theorem dX12_init_667 : decode cX12_init 667 = .ok (.putfield 203, 3) := by decide +kernel
theorem dX12_init_670 : decode cX12_init 670 = .ok (.aload_n 0, 1) := by decide +kernel
theorem dX12_init_671 : decode cX12_init 671 = .ok (.bipush 40, 2) := by decide +kernel
theorem dX12_init_673 : decode cX12_init 673 = .ok (.newarray .int, 2) := by decide +kernel
theorem dX12_init_675 : decode cX12_init 675 = .ok (.putfield 206, 3) := by decide +kernel
theorem dX12_init_678 : decode cX12_init 678 = .ok (.aload_n 0, 1) := by decide +kernel
theorem dX12_init_679 : decode cX12_init 679 = .ok (.bipush 12, 2) := by decide +kernel
theorem dX12_init_681 : decode cX12_init 681 = .ok (.newarray .int, 2) := by decide +kernel
theorem dX12_init_683 : decode cX12_init 683 = .ok (.putfield 209, 3) := by decide +kernel
theorem dX12_init_686 : decode cX12_init 686 = .ok (.aload_n 0, 1) := by decide +kernel
theorem dX12_init_687 : decode cX12_init 687 = .ok (.bipush 12, 2) := by decide +kernel
theorem dX12_init_689 : decode cX12_init 689 = .ok (.newarray .int, 2) := by decide +kernel
theorem dX12_init_691 : decode cX12_init 691 = .ok (.putfield 212, 3) := by decide +kernel
theorem dX12_init_694 : decode cX12_init 694 = .ok (.return_, 1) := by decide +kernel
theorem dX12_thrown_0 : decode cX12_thrown 0 = .ok (.aload_n 0, 1) := by decide +kernel
theorem dX12_thrown_1 : decode cX12_thrown 1 = .ok (.getfield 215, 3) := by decide +kernel
theorem dX12_thrown_4 : decode cX12_thrown 4 = .ok (.ireturn, 1) := by decide +kernel
theorem dX12_type_0 : decode cX12_type 0 = .ok (.aload_n 0, 1) := by decide +kernel
theorem dX12_type_1 : decode cX12_type 1 = .ok (.iconst 0, 1) := by decide +kernel
theorem dX12_type_2 : decode cX12_type 2 = .ok (.putfield 215, 3) := by decide +kernel
theorem dX12_type_5 : decode cX12_type 5 = .ok (.aload_n 0, 1) := by decide +kernel
theorem dX12_type_6 : decode cX12_type 6 = .ok (.getfield 219, 3) := by decide +kernel
theorem dX12_type_9 : decode cX12_type 9 = .ok (.sipush 200, 3) := by decide +kernel
theorem dX12_type_12 : decode cX12_type 12 = .ok (.if_icmp .ne 5, 3) := by decide +kernel
theorem dX12_type_15 : decode cX12_type 15 = .ok (.iconst 0, 1) := by decide +kernel
theorem dX12_type_16 : decode cX12_type 16 = .ok (.ireturn, 1) := by decide +kernel
theorem dX12_type_17 : decode cX12_type 17 = .ok (.aload_n 0, 1) := by decide +kernel
theorem dX12_type_18 : decode cX12_type 18 = .ok (.getfield 162, 3) := by decide +kernel
theorem dX12_type_21 : decode cX12_type 21 = .ok (.aload_n 0, 1) := by decide +kernel
theorem dX12_type_22 : decode cX12_type 22 = .ok (.getfield 219, 3) := by decide +kernel
theorem dX12_type_25 : decode cX12_type 25 = .ok (.iload_n 1, 1) := by decide +kernel
theorem dX12_type_26 : decode cX12_type 26 = .ok (.iastore, 1) := by decide +kernel
theorem dX12_type_27 : decode cX12_type 27 = .ok (.aload_n 0, 1) := by decide +kernel
theorem dX12_type_28 : decode cX12_type 28 = .ok (.dup, 1) := by decide +kernel
theorem dX12_type_29 : decode cX12_type 29 = .ok (.getfield 219, 3) := by decide +kernel
theorem dX12_type_32 : decode cX12_type 32 = .ok (.iconst 1, 1) := by decide +kernel
theorem dX12_type_33 : decode cX12_type 33 = .ok (.iadd, 1) := by decide +kernel
theorem dX12_type_34 : decode cX12_type 34 = .ok (.putfield 219, 3) := by decide +kernel
theorem dX12_type_37 : decode cX12_type 37 = .ok (.iconst 1, 1) := by decide +kernel
theorem dX12_type_38 : decode cX12_type 38 = .ok (.ireturn, 1) := by decide +kernel
theorem dX12_isBlank_0 : decode cX12_isBlank 0 = .ok (.aload_n 0, 1) := by decide +kernel
theorem dX12_isBlank_1 : decode cX12_isBlank 1 = .ok (.getfield 162, 3) := by decide +kernel
theorem dX12_isBlank_4 : decode cX12_isBlank 4 = .ok (.iload_n 1, 1) := by decide +kernel
theorem dX12_isBlank_5 : decode cX12_isBlank 5 = .ok (.iaload, 1) := by decide +kernel
theorem dX12_isBlank_6 : decode cX12_isBlank 6 = .ok (.bipush 32, 2) := by decide +kernel
theorem dX12_isBlank_8 : decode cX12_isBlank 8 = .ok (.if_icmp .eq 14, 3) := by decide +kernel
theorem dX12_isBlank_11 : decode cX12_isBlank 11 = .ok (.aload_n 0, 1) := by decide +kernel
theorem dX12_isBlank_12 : decode cX12_isBlank 12 = .ok (.getfield 162, 3) := by decide +kernel
theorem dX12_isBlank_15 : decode cX12_isBlank 15 = .ok (.iload_n 1, 1) := by decide +kernel
theorem dX12_isBlank_16 : decode cX12_isBlank 16 = .ok (.iaload, 1) := by decide +kernel
theorem dX12_isBlank_17 : decode cX12_isBlank 17 = .ok (.bipush 10, 2) := by decide +kernel
theorem dX12_isBlank_19 : decode cX12_isBlank 19 = .ok (.if_icmp .ne 7, 3) := by decide +kernel
theorem dX12_isBlank_22 : decode cX12_isBlank 22 = .ok (.iconst 1, 1) := by decide +kernel
theorem dX12_isBlank_23 : decode cX12_isBlank 23 = .ok (.goto 4, 3) := by decide +kernel
theorem dX12_isBlank_26 : decode cX12_isBlank 26 = .ok (.iconst 0, 1) := by decide +kernel
theorem dX12_isBlank_27 : decode cX12_isBlank 27 = .ok (.ireturn, 1) := by decide +kernel
theorem dX12_takes_0 : decode cX12_takes 0 = .ok (.aload_n 0, 1) := by decide +kernel
theorem dX12_takes_1 : decode cX12_takes 1 = .ok (.getfield 222, 3) := by decide +kernel
theorem dX12_takes_4 : decode cX12_takes 4 = .ok (.aload_n 0, 1) := by decide +kernel
theorem dX12_takes_5 : decode cX12_takes 5 = .ok (.getfield 219, 3) := by decide +kernel
theorem dX12_takes_8 : decode cX12_takes 8 = .ok (.if_icmp .ge 27, 3) := by decide +kernel
theorem dX12_takes_11 : decode cX12_takes 11 = .ok (.aload_n 0, 1) := by decide +kernel
theorem dX12_takes_12 : decode cX12_takes 12 = .ok (.aload_n 0, 1) := by decide +kernel
theorem dX12_takes_13 : decode cX12_takes 13 = .ok (.getfield 222, 3) := by decide +kernel
theorem dX12_takes_16 : decode cX12_takes 16 = .ok (.invokevirtual 225, 3) := by decide +kernel
theorem dX12_takes_19 : decode cX12_takes 19 = .ok (.ifCond .eq 16, 3) := by decide +kernel
theorem dX12_takes_22 : decode cX12_takes 22 = .ok (.aload_n 0, 1) := by decide +kernel
theorem dX12_takes_23 : decode cX12_takes 23 = .ok (.dup, 1) := by decide +kernel
theorem dX12_takes_24 : decode cX12_takes 24 = .ok (.getfield 222, 3) := by decide +kernel
theorem dX12_takes_27 : decode cX12_takes 27 = .ok (.iconst 1, 1) := by decide +kernel
theorem dX12_takes_28 : decode cX12_takes 28 = .ok (.iadd, 1) := by decide +kernel
theorem dX12_takes_29 : decode cX12_takes 29 = .ok (.putfield 222, 3) := by decide +kernel
theorem dX12_takes_32 : decode cX12_takes 32 = .ok (.goto (-32), 3) := by decide +kernel
theorem dX12_takes_35 : decode cX12_takes 35 = .ok (.aload_n 0, 1) := by decide +kernel
theorem dX12_takes_36 : decode cX12_takes 36 = .ok (.aload_n 0, 1) := by decide +kernel
theorem dX12_takes_37 : decode cX12_takes 37 = .ok (.getfield 222, 3) := by decide +kernel
theorem dX12_takes_40 : decode cX12_takes 40 = .ok (.putfield 229, 3) := by decide +kernel
theorem dX12_takes_43 : decode cX12_takes 43 = .ok (.aload_n 0, 1) := by decide +kernel
theorem dX12_takes_44 : decode cX12_takes 44 = .ok (.getfield 222, 3) := by decide +kernel
theorem dX12_takes_47 : decode cX12_takes 47 = .ok (.aload_n 0, 1) := by decide +kernel
theorem dX12_takes_48 : decode cX12_takes 48 = .ok (.getfield 219, 3) := by decide +kernel
theorem dX12_takes_51 : decode cX12_takes 51 = .ok (.if_icmp .ge 27, 3) := by decide +kernel
theorem dX12_takes_54 : decode cX12_takes 54 = .ok (.aload_n 0, 1) := by decide +kernel
theorem dX12_takes_55 : decode cX12_takes 55 = .ok (.aload_n 0, 1) := by decide +kernel
theorem dX12_takes_56 : decode cX12_takes 56 = .ok (.getfield 222, 3) := by decide +kernel
theorem dX12_takes_59 : decode cX12_takes 59 = .ok (.invokevirtual 225, 3) := by decide +kernel
theorem dX12_takes_62 : decode cX12_takes 62 = .ok (.ifCond .ne 16, 3) := by decide +kernel
theorem dX12_takes_65 : decode cX12_takes 65 = .ok (.aload_n 0, 1) := by decide +kernel
theorem dX12_takes_66 : decode cX12_takes 66 = .ok (.dup, 1) := by decide +kernel
theorem dX12_takes_67 : decode cX12_takes 67 = .ok (.getfield 222, 3) := by decide +kernel
theorem dX12_takes_70 : decode cX12_takes 70 = .ok (.iconst 1, 1) := by decide +kernel
theorem dX12_takes_71 : decode cX12_takes 71 = .ok (.iadd, 1) := by decide +kernel
theorem dX12_takes_72 : decode cX12_takes 72 = .ok (.putfield 222, 3) := by decide +kernel
theorem dX12_takes_75 : decode cX12_takes 75 = .ok (.goto (-32), 3) := by decide +kernel
theorem dX12_takes_78 : decode cX12_takes 78 = .ok (.aload_n 0, 1) := by decide +kernel
theorem dX12_takes_79 : decode cX12_takes 79 = .ok (.aload_n 0, 1) := by decide +kernel
theorem dX12_takes_80 : decode cX12_takes 80 = .ok (.getfield 222, 3) := by decide +kernel
theorem dX12_takes_83 : decode cX12_takes 83 = .ok (.aload_n 0, 1) := by decide +kernel
theorem dX12_takes_84 : decode cX12_takes 84 = .ok (.getfield 229, 3) := by decide +kernel
theorem dX12_takes_87 : decode cX12_takes 87 = .ok (.isub, 1) := by decide +kernel
theorem dX12_takes_88 : decode cX12_takes 88 = .ok (.putfield 232, 3) := by decide +kernel
theorem dX12_takes_91 : decode cX12_takes 91 = .ok (.aload_n 0, 1) := by decide +kernel
theorem dX12_takes_92 : decode cX12_takes 92 = .ok (.getfield 222, 3) := by decide +kernel
theorem dX12_takes_95 : decode cX12_takes 95 = .ok (.aload_n 0, 1) := by decide +kernel
theorem dX12_takes_96 : decode cX12_takes 96 = .ok (.getfield 219, 3) := by decide +kernel
theorem dX12_takes_99 : decode cX12_takes 99 = .ok (.if_icmp .ge 20, 3) := by decide +kernel
theorem dX12_takes_102 : decode cX12_takes 102 = .ok (.aload_n 0, 1) := by decide +kernel
theorem dX12_takes_103 : decode cX12_takes 103 = .ok (.getfield 232, 3) := by decide +kernel
theorem dX12_takes_106 : decode cX12_takes 106 = .ok (.ifCond .le 13, 3) := by decide +kernel
theorem dX12_takes_109 : decode cX12_takes 109 = .ok (.aload_n 0, 1) := by decide +kernel
theorem dX12_takes_110 : decode cX12_takes 110 = .ok (.dup, 1) := by decide +kernel
theorem dX12_takes_111 : decode cX12_takes 111 = .ok (.getfield 222, 3) := by decide +kernel
theorem dX12_takes_114 : decode cX12_takes 114 = .ok (.iconst 1, 1) := by decide +kernel
theorem dX12_takes_115 : decode cX12_takes 115 = .ok (.iadd, 1) := by decide +kernel
theorem dX12_takes_116 : decode cX12_takes 116 = .ok (.putfield 222, 3) := by decide +kernel
theorem dX12_takes_119 : decode cX12_takes 119 = .ok (.aload_n 0, 1) := by decide +kernel
theorem dX12_takes_120 : decode cX12_takes 120 = .ok (.getfield 232, 3) := by decide +kernel
theorem dX12_takes_123 : decode cX12_takes 123 = .ok (.ifCond .le 7, 3) := by decide +kernel
theorem dX12_takes_126 : decode cX12_takes 126 = .ok (.iconst 1, 1) := by decide +kernel
theorem dX12_takes_127 : decode cX12_takes 127 = .ok (.goto 4, 3) := by decide +kernel
theorem dX12_takes_130 : decode cX12_takes 130 = .ok (.iconst 0, 1) := by decide +kernel
theorem dX12_takes_131 : decode cX12_takes 131 = .ok (.ireturn, 1) := by decide +kernel
theorem dX12_parse_0 : decode cX12_parse 0 = .ok (.aload_n 0, 1) := by decide +kernel
theorem dX12_parse_1 : decode cX12_parse 1 = .ok (.invokevirtual 235, 3) := by decide +kernel
theorem dX12_parse_4 : decode cX12_parse 4 = .ok (.ifCond .ne 8, 3) := by decide +kernel
theorem dX12_parse_7 : decode cX12_parse 7 = .ok (.bipush (-16), 2) := by decide +kernel
theorem dX12_parse_9 : decode cX12_parse 9 = .ok (.goto 18, 3) := by decide +kernel
theorem dX12_parse_12 : decode cX12_parse 12 = .ok (.aload_n 0, 1) := by decide +kernel
theorem dX12_parse_13 : decode cX12_parse 13 = .ok (.getfield 232, 3) := by decide +kernel
theorem dX12_parse_16 : decode cX12_parse 16 = .ok (.bipush 9, 2) := by decide +kernel
theorem dX12_parse_18 : decode cX12_parse 18 = .ok (.if_icmp .le 8, 3) := by decide +kernel
theorem dX12_parse_21 : decode cX12_parse 21 = .ok (.bipush (-19), 2) := by decide +kernel
theorem dX12_parse_23 : decode cX12_parse 23 = .ok (.goto 4, 3) := by decide +kernel
theorem dX12_parse_26 : decode cX12_parse 26 = .ok (.iconst 0, 1) := by decide +kernel
theorem dX12_parse_27 : decode cX12_parse 27 = .ok (.ireturn, 1) := by decide +kernel
theorem dX12_isNamed_0 : decode cX12_isNamed 0 = .ok (.aload_n 0, 1) := by decide +kernel
theorem dX12_isNamed_1 : decode cX12_isNamed 1 = .ok (.getfield 200, 3) := by decide +kernel
theorem dX12_isNamed_4 : decode cX12_isNamed 4 = .ok (.iload_n 1, 1) := by decide +kernel
theorem dX12_isNamed_5 : decode cX12_isNamed 5 = .ok (.baload, 1) := by decide +kernel
theorem dX12_isNamed_6 : decode cX12_isNamed 6 = .ok (.ifCond .eq 20, 3) := by decide +kernel
theorem dX12_isNamed_9 : decode cX12_isNamed 9 = .ok (.aload_n 0, 1) := by decide +kernel
theorem dX12_isNamed_10 : decode cX12_isNamed 10 = .ok (.getfield 206, 3) := by decide +kernel
theorem dX12_isNamed_13 : decode cX12_isNamed 13 = .ok (.iload_n 1, 1) := by decide +kernel
theorem dX12_isNamed_14 : decode cX12_isNamed 14 = .ok (.iaload, 1) := by decide +kernel
theorem dX12_isNamed_15 : decode cX12_isNamed 15 = .ok (.aload_n 0, 1) := by decide +kernel
theorem dX12_isNamed_16 : decode cX12_isNamed 16 = .ok (.getfield 232, 3) := by decide +kernel
theorem dX12_isNamed_19 : decode cX12_isNamed 19 = .ok (.if_icmp .ne 7, 3) := by decide +kernel
theorem dX12_isNamed_22 : decode cX12_isNamed 22 = .ok (.iconst 1, 1) := by decide +kernel
theorem dX12_isNamed_23 : decode cX12_isNamed 23 = .ok (.goto 4, 3) := by decide +kernel
theorem dX12_isNamed_26 : decode cX12_isNamed 26 = .ok (.iconst 0, 1) := by decide +kernel
theorem dX12_isNamed_27 : decode cX12_isNamed 27 = .ok (.istore_n 2, 1) := by decide +kernel
theorem dX12_isNamed_28 : decode cX12_isNamed 28 = .ok (.iconst 0, 1) := by decide +kernel
theorem dX12_isNamed_29 : decode cX12_isNamed 29 = .ok (.istore_n 3, 1) := by decide +kernel
theorem dX12_isNamed_30 : decode cX12_isNamed 30 = .ok (.iload_n 3, 1) := by decide +kernel
theorem dX12_isNamed_31 : decode cX12_isNamed 31 = .ok (.aload_n 0, 1) := by decide +kernel
theorem dX12_isNamed_32 : decode cX12_isNamed 32 = .ok (.getfield 232, 3) := by decide +kernel
theorem dX12_isNamed_35 : decode cX12_isNamed 35 = .ok (.if_icmp .ge 44, 3) := by decide +kernel
theorem dX12_isNamed_38 : decode cX12_isNamed 38 = .ok (.iload_n 2, 1) := by decide +kernel
theorem dX12_isNamed_39 : decode cX12_isNamed 39 = .ok (.ifCond .eq 40, 3) := by decide +kernel
theorem dX12_isNamed_42 : decode cX12_isNamed 42 = .ok (.aload_n 0, 1) := by decide +kernel
theorem dX12_isNamed_43 : decode cX12_isNamed 43 = .ok (.getfield 203, 3) := by decide +kernel
theorem dX12_isNamed_46 : decode cX12_isNamed 46 = .ok (.bipush 9, 2) := by decide +kernel
theorem dX12_isNamed_48 : decode cX12_isNamed 48 = .ok (.iload_n 1, 1) := by decide +kernel
theorem dX12_isNamed_49 : decode cX12_isNamed 49 = .ok (.imul, 1) := by decide +kernel
theorem dX12_isNamed_50 : decode cX12_isNamed 50 = .ok (.iload_n 3, 1) := by decide +kernel
theorem dX12_isNamed_51 : decode cX12_isNamed 51 = .ok (.iadd, 1) := by decide +kernel
theorem dX12_isNamed_52 : decode cX12_isNamed 52 = .ok (.iaload, 1) := by decide +kernel
theorem dX12_isNamed_53 : decode cX12_isNamed 53 = .ok (.aload_n 0, 1) := by decide +kernel
theorem dX12_isNamed_54 : decode cX12_isNamed 54 = .ok (.getfield 162, 3) := by decide +kernel
theorem dX12_isNamed_57 : decode cX12_isNamed 57 = .ok (.aload_n 0, 1) := by decide +kernel
theorem dX12_isNamed_58 : decode cX12_isNamed 58 = .ok (.getfield 229, 3) := by decide +kernel
theorem dX12_isNamed_61 : decode cX12_isNamed 61 = .ok (.iload_n 3, 1) := by decide +kernel
theorem dX12_isNamed_62 : decode cX12_isNamed 62 = .ok (.iadd, 1) := by decide +kernel
theorem dX12_isNamed_63 : decode cX12_isNamed 63 = .ok (.iaload, 1) := by decide +kernel
theorem dX12_isNamed_64 : decode cX12_isNamed 64 = .ok (.if_icmp .ne 7, 3) := by decide +kernel
theorem dX12_isNamed_67 : decode cX12_isNamed 67 = .ok (.iconst 1, 1) := by decide +kernel
theorem dX12_isNamed_68 : decode cX12_isNamed 68 = .ok (.goto 4, 3) := by decide +kernel
theorem dX12_isNamed_71 : decode cX12_isNamed 71 = .ok (.iconst 0, 1) := by decide +kernel
theorem dX12_isNamed_72 : decode cX12_isNamed 72 = .ok (.istore_n 2, 1) := by decide +kernel
theorem dX12_isNamed_73 : decode cX12_isNamed 73 = .ok (.iinc 3 1, 3) := by decide +kernel
theorem dX12_isNamed_76 : decode cX12_isNamed 76 = .ok (.goto (-46), 3) := by decide +kernel
theorem dX12_isNamed_79 : decode cX12_isNamed 79 = .ok (.iload_n 2, 1) := by decide +kernel
theorem dX12_isNamed_80 : decode cX12_isNamed 80 = .ok (.ireturn, 1) := by decide +kernel
theorem dX12_meaning_0 : decode cX12_meaning 0 = .ok (.aload_n 0, 1) := by decide +kernel
theorem dX12_meaning_1 : decode cX12_meaning 1 = .ok (.getfield 232, 3) := by decide +kernel
theorem dX12_meaning_4 : decode cX12_meaning 4 = .ok (.bipush 9, 2) := by decide +kernel
theorem dX12_meaning_6 : decode cX12_meaning 6 = .ok (.if_icmp .le 5, 3) := by decide +kernel
theorem dX12_meaning_9 : decode cX12_meaning 9 = .ok (.iconst (-1), 1) := by decide +kernel
theorem dX12_meaning_10 : decode cX12_meaning 10 = .ok (.ireturn, 1) := by decide +kernel
theorem dX12_meaning_11 : decode cX12_meaning 11 = .ok (.aload_n 0, 1) := by decide +kernel
theorem dX12_meaning_12 : decode cX12_meaning 12 = .ok (.getfield 239, 3) := by decide +kernel
theorem dX12_meaning_15 : decode cX12_meaning 15 = .ok (.iconst 1, 1) := by decide +kernel
theorem dX12_meaning_16 : decode cX12_meaning 16 = .ok (.isub, 1) := by decide +kernel
theorem dX12_meaning_17 : decode cX12_meaning 17 = .ok (.istore_n 1, 1) := by decide +kernel
theorem dX12_meaning_18 : decode cX12_meaning 18 = .ok (.iload_n 1, 1) := by decide +kernel
theorem dX12_meaning_19 : decode cX12_meaning 19 = .ok (.ifCond .lt 22, 3) := by decide +kernel
theorem dX12_meaning_22 : decode cX12_meaning 22 = .ok (.aload_n 0, 1) := by decide +kernel
theorem dX12_meaning_23 : decode cX12_meaning 23 = .ok (.iload_n 1, 1) := by decide +kernel
theorem dX12_meaning_24 : decode cX12_meaning 24 = .ok (.invokevirtual 242, 3) := by decide +kernel
theorem dX12_meaning_27 : decode cX12_meaning 27 = .ok (.ifCond .eq 8, 3) := by decide +kernel
theorem dX12_meaning_30 : decode cX12_meaning 30 = .ok (.bipush 82, 2) := by decide +kernel
theorem dX12_meaning_32 : decode cX12_meaning 32 = .ok (.iload_n 1, 1) := by decide +kernel
theorem dX12_meaning_33 : decode cX12_meaning 33 = .ok (.iadd, 1) := by decide +kernel
theorem dX12_meaning_34 : decode cX12_meaning 34 = .ok (.ireturn, 1) := by decide +kernel
theorem dX12_meaning_35 : decode cX12_meaning 35 = .ok (.iinc 1 (-1), 3) := by decide +kernel
theorem dX12_meaning_38 : decode cX12_meaning 38 = .ok (.goto (-20), 3) := by decide +kernel
theorem dX12_meaning_41 : decode cX12_meaning 41 = .ok (.lconst 0, 1) := by decide +kernel
theorem dX12_meaning_42 : decode cX12_meaning 42 = .ok (.lstore_n 1, 1) := by decide +kernel
theorem dX12_meaning_43 : decode cX12_meaning 43 = .ok (.iconst 0, 1) := by decide +kernel
theorem dX12_meaning_44 : decode cX12_meaning 44 = .ok (.istore_n 3, 1) := by decide +kernel
theorem dX12_meaning_45 : decode cX12_meaning 45 = .ok (.iload_n 3, 1) := by decide +kernel
theorem dX12_meaning_46 : decode cX12_meaning 46 = .ok (.aload_n 0, 1) := by decide +kernel
theorem dX12_meaning_47 : decode cX12_meaning 47 = .ok (.getfield 232, 3) := by decide +kernel
theorem dX12_meaning_50 : decode cX12_meaning 50 = .ok (.if_icmp .ge 60, 3) := by decide +kernel
theorem dX12_meaning_53 : decode cX12_meaning 53 = .ok (.aload_n 0, 1) := by decide +kernel
theorem dX12_meaning_54 : decode cX12_meaning 54 = .ok (.getfield 162, 3) := by decide +kernel
theorem dX12_meaning_57 : decode cX12_meaning 57 = .ok (.aload_n 0, 1) := by decide +kernel
theorem dX12_meaning_58 : decode cX12_meaning 58 = .ok (.getfield 229, 3) := by decide +kernel
theorem dX12_meaning_61 : decode cX12_meaning 61 = .ok (.iload_n 3, 1) := by decide +kernel
theorem dX12_meaning_62 : decode cX12_meaning 62 = .ok (.iadd, 1) := by decide +kernel
theorem dX12_meaning_63 : decode cX12_meaning 63 = .ok (.iaload, 1) := by decide +kernel
theorem dX12_meaning_64 : decode cX12_meaning 64 = .ok (.bipush 127, 2) := by decide +kernel
theorem dX12_meaning_66 : decode cX12_meaning 66 = .ok (.if_icmp .gt 17, 3) := by decide +kernel
theorem dX12_meaning_69 : decode cX12_meaning 69 = .ok (.aload_n 0, 1) := by decide +kernel
theorem dX12_meaning_70 : decode cX12_meaning 70 = .ok (.getfield 162, 3) := by decide +kernel
theorem dX12_meaning_73 : decode cX12_meaning 73 = .ok (.aload_n 0, 1) := by decide +kernel
theorem dX12_meaning_74 : decode cX12_meaning 74 = .ok (.getfield 229, 3) := by decide +kernel
theorem dX12_meaning_77 : decode cX12_meaning 77 = .ok (.iload_n 3, 1) := by decide +kernel
theorem dX12_meaning_78 : decode cX12_meaning 78 = .ok (.iadd, 1) := by decide +kernel
theorem dX12_meaning_79 : decode cX12_meaning 79 = .ok (.iaload, 1) := by decide +kernel
theorem dX12_meaning_80 : decode cX12_meaning 80 = .ok (.ifCond .ne 5, 3) := by decide +kernel
theorem dX12_meaning_83 : decode cX12_meaning 83 = .ok (.iconst (-1), 1) := by decide +kernel
theorem dX12_meaning_84 : decode cX12_meaning 84 = .ok (.ireturn, 1) := by decide +kernel
theorem dX12_meaning_85 : decode cX12_meaning 85 = .ok (.lload_n 1, 1) := by decide +kernel
theorem dX12_meaning_86 : decode cX12_meaning 86 = .ok (.ldc2_w 245, 3) := by decide +kernel
theorem dX12_meaning_89 : decode cX12_meaning 89 = .ok (.lmul, 1) := by decide +kernel
theorem dX12_meaning_90 : decode cX12_meaning 90 = .ok (.aload_n 0, 1) := by decide +kernel
theorem dX12_meaning_91 : decode cX12_meaning 91 = .ok (.getfield 162, 3) := by decide +kernel
theorem dX12_meaning_94 : decode cX12_meaning 94 = .ok (.aload_n 0, 1) := by decide +kernel
theorem dX12_meaning_95 : decode cX12_meaning 95 = .ok (.getfield 229, 3) := by decide +kernel
theorem dX12_meaning_98 : decode cX12_meaning 98 = .ok (.iload_n 3, 1) := by decide +kernel
theorem dX12_meaning_99 : decode cX12_meaning 99 = .ok (.iadd, 1) := by decide +kernel
theorem dX12_meaning_100 : decode cX12_meaning 100 = .ok (.iaload, 1) := by decide +kernel
theorem dX12_meaning_101 : decode cX12_meaning 101 = .ok (.i2l, 1) := by decide +kernel
theorem dX12_meaning_102 : decode cX12_meaning 102 = .ok (.ladd, 1) := by decide +kernel
theorem dX12_meaning_103 : decode cX12_meaning 103 = .ok (.lstore_n 1, 1) := by decide +kernel
theorem dX12_meaning_104 : decode cX12_meaning 104 = .ok (.iinc 3 1, 3) := by decide +kernel
theorem dX12_meaning_107 : decode cX12_meaning 107 = .ok (.goto (-62), 3) := by decide +kernel
theorem dX12_meaning_110 : decode cX12_meaning 110 = .ok (.lload_n 1, 1) := by decide +kernel
theorem dX12_meaning_111 : decode cX12_meaning 111 = .ok (.ldc2_w 247, 3) := by decide +kernel
theorem dX12_meaning_114 : decode cX12_meaning 114 = .ok (.lcmp, 1) := by decide +kernel
theorem dX12_meaning_115 : decode cX12_meaning 115 = .ok (.ifCond .ne 6, 3) := by decide +kernel
theorem dX12_meaning_118 : decode cX12_meaning 118 = .ok (.bipush 80, 2) := by decide +kernel
theorem dX12_meaning_120 : decode cX12_meaning 120 = .ok (.ireturn, 1) := by decide +kernel
theorem dX12_meaning_121 : decode cX12_meaning 121 = .ok (.lload_n 1, 1) := by decide +kernel
theorem dX12_meaning_122 : decode cX12_meaning 122 = .ok (.ldc2_w 249, 3) := by decide +kernel
theorem dX12_meaning_125 : decode cX12_meaning 125 = .ok (.lcmp, 1) := by decide +kernel
theorem dX12_meaning_126 : decode cX12_meaning 126 = .ok (.ifCond .ne 6, 3) := by decide +kernel
theorem dX12_meaning_129 : decode cX12_meaning 129 = .ok (.bipush 81, 2) := by decide +kernel
theorem dX12_meaning_131 : decode cX12_meaning 131 = .ok (.ireturn, 1) := by decide +kernel
theorem dX12_meaning_132 : decode cX12_meaning 132 = .ok (.iconst 0, 1) := by decide +kernel
theorem dX12_meaning_133 : decode cX12_meaning 133 = .ok (.istore_n 3, 1) := by decide +kernel
theorem dX12_meaning_134 : decode cX12_meaning 134 = .ok (.iload_n 3, 1) := by decide +kernel
theorem dX12_meaning_135 : decode cX12_meaning 135 = .ok (.bipush 40, 2) := by decide +kernel
theorem dX12_meaning_137 : decode cX12_meaning 137 = .ok (.if_icmp .ge 44, 3) := by decide +kernel
theorem dX12_meaning_140 : decode cX12_meaning 140 = .ok (.lload_n 1, 1) := by decide +kernel
theorem dX12_meaning_141 : decode cX12_meaning 141 = .ok (.aload_n 0, 1) := by decide +kernel
theorem dX12_meaning_142 : decode cX12_meaning 142 = .ok (.getfield 73, 3) := by decide +kernel
theorem dX12_meaning_145 : decode cX12_meaning 145 = .ok (.iload_n 3, 1) := by decide +kernel
theorem dX12_meaning_146 : decode cX12_meaning 146 = .ok (.laload, 1) := by decide +kernel
theorem dX12_meaning_147 : decode cX12_meaning 147 = .ok (.lcmp, 1) := by decide +kernel
theorem dX12_meaning_148 : decode cX12_meaning 148 = .ok (.ifCond .ne 11, 3) := by decide +kernel
theorem dX12_meaning_151 : decode cX12_meaning 151 = .ok (.lload_n 1, 1) := by decide +kernel
theorem dX12_meaning_152 : decode cX12_meaning 152 = .ok (.lconst 0, 1) := by decide +kernel
theorem dX12_meaning_153 : decode cX12_meaning 153 = .ok (.lcmp, 1) := by decide +kernel
theorem dX12_meaning_154 : decode cX12_meaning 154 = .ok (.ifCond .eq 5, 3) := by decide +kernel
theorem dX12_meaning_157 : decode cX12_meaning 157 = .ok (.iload_n 3, 1) := by decide +kernel
theorem dX12_meaning_158 : decode cX12_meaning 158 = .ok (.ireturn, 1) := by decide +kernel
theorem dX12_meaning_159 : decode cX12_meaning 159 = .ok (.lload_n 1, 1) := by decide +kernel
theorem dX12_meaning_160 : decode cX12_meaning 160 = .ok (.aload_n 0, 1) := by decide +kernel
theorem dX12_meaning_161 : decode cX12_meaning 161 = .ok (.getfield 159, 3) := by decide +kernel
theorem dX12_meaning_164 : decode cX12_meaning 164 = .ok (.iload_n 3, 1) := by decide +kernel
theorem dX12_meaning_165 : decode cX12_meaning 165 = .ok (.laload, 1) := by decide +kernel
theorem dX12_meaning_166 : decode cX12_meaning 166 = .ok (.lcmp, 1) := by decide +kernel
theorem dX12_meaning_167 : decode cX12_meaning 167 = .ok (.ifCond .ne 8, 3) := by decide +kernel
theorem dX12_meaning_170 : decode cX12_meaning 170 = .ok (.bipush 40, 2) := by decide +kernel
theorem dX12_meaning_172 : decode cX12_meaning 172 = .ok (.iload_n 3, 1) := by decide +kernel
theorem dX12_meaning_173 : decode cX12_meaning 173 = .ok (.iadd, 1) := by decide +kernel
theorem dX12_meaning_174 : decode cX12_meaning 174 = .ok (.ireturn, 1) := by decide +kernel
theorem dX12_meaning_175 : decode cX12_meaning 175 = .ok (.iinc 3 1, 3) := by decide +kernel
theorem dX12_meaning_178 : decode cX12_meaning 178 = .ok (.goto (-44), 3) := by decide +kernel
theorem dX12_meaning_181 : decode cX12_meaning 181 = .ok (.iconst (-1), 1) := by decide +kernel
theorem dX12_meaning_182 : decode cX12_meaning 182 = .ok (.ireturn, 1) := by decide +kernel
theorem dX12_isImmediate_0 : decode cX12_isImmediate 0 = .ok (.iload_n 1, 1) := by decide +kernel
theorem dX12_isImmediate_1 : decode cX12_isImmediate 1 = .ok (.bipush 82, 2) := by decide +kernel
theorem dX12_isImmediate_3 : decode cX12_isImmediate 3 = .ok (.if_icmp .lt 13, 3) := by decide +kernel
theorem dX12_isImmediate_6 : decode cX12_isImmediate 6 = .ok (.aload_n 0, 1) := by decide +kernel
theorem dX12_isImmediate_7 : decode cX12_isImmediate 7 = .ok (.getfield 196, 3) := by decide +kernel
theorem dX12_isImmediate_10 : decode cX12_isImmediate 10 = .ok (.iload_n 1, 1) := by decide +kernel
theorem dX12_isImmediate_11 : decode cX12_isImmediate 11 = .ok (.bipush 82, 2) := by decide +kernel
theorem dX12_isImmediate_13 : decode cX12_isImmediate 13 = .ok (.isub, 1) := by decide +kernel
theorem dX12_isImmediate_14 : decode cX12_isImmediate 14 = .ok (.baload, 1) := by decide +kernel
theorem dX12_isImmediate_15 : decode cX12_isImmediate 15 = .ok (.ireturn, 1) := by decide +kernel
theorem dX12_isImmediate_16 : decode cX12_isImmediate 16 = .ok (.iload_n 1, 1) := by decide +kernel
theorem dX12_isImmediate_17 : decode cX12_isImmediate 17 = .ok (.bipush 54, 2) := by decide +kernel
theorem dX12_isImmediate_19 : decode cX12_isImmediate 19 = .ok (.if_icmp .eq 51, 3) := by decide +kernel
theorem dX12_isImmediate_22 : decode cX12_isImmediate 22 = .ok (.iload_n 1, 1) := by decide +kernel
theorem dX12_isImmediate_23 : decode cX12_isImmediate 23 = .ok (.bipush 58, 2) := by decide +kernel
theorem dX12_isImmediate_25 : decode cX12_isImmediate 25 = .ok (.if_icmp .eq 45, 3) := by decide +kernel
theorem dX12_isImmediate_28 : decode cX12_isImmediate 28 = .ok (.iload_n 1, 1) := by decide +kernel
theorem dX12_isImmediate_29 : decode cX12_isImmediate 29 = .ok (.bipush 61, 2) := by decide +kernel
theorem dX12_isImmediate_31 : decode cX12_isImmediate 31 = .ok (.if_icmp .eq 39, 3) := by decide +kernel
theorem dX12_isImmediate_34 : decode cX12_isImmediate 34 = .ok (.iload_n 1, 1) := by decide +kernel
theorem dX12_isImmediate_35 : decode cX12_isImmediate 35 = .ok (.bipush 64, 2) := by decide +kernel
theorem dX12_isImmediate_37 : decode cX12_isImmediate 37 = .ok (.if_icmp .eq 33, 3) := by decide +kernel
theorem dX12_isImmediate_40 : decode cX12_isImmediate 40 = .ok (.iload_n 1, 1) := by decide +kernel
theorem dX12_isImmediate_41 : decode cX12_isImmediate 41 = .ok (.bipush 65, 2) := by decide +kernel
theorem dX12_isImmediate_43 : decode cX12_isImmediate 43 = .ok (.if_icmp .eq 27, 3) := by decide +kernel
theorem dX12_isImmediate_46 : decode cX12_isImmediate 46 = .ok (.iload_n 1, 1) := by decide +kernel
theorem dX12_isImmediate_47 : decode cX12_isImmediate 47 = .ok (.bipush 66, 2) := by decide +kernel
theorem dX12_isImmediate_49 : decode cX12_isImmediate 49 = .ok (.if_icmp .eq 21, 3) := by decide +kernel
theorem dX12_isImmediate_52 : decode cX12_isImmediate 52 = .ok (.iload_n 1, 1) := by decide +kernel
theorem dX12_isImmediate_53 : decode cX12_isImmediate 53 = .ok (.bipush 68, 2) := by decide +kernel
theorem dX12_isImmediate_55 : decode cX12_isImmediate 55 = .ok (.if_icmp .lt 9, 3) := by decide +kernel
theorem dX12_isImmediate_58 : decode cX12_isImmediate 58 = .ok (.iload_n 1, 1) := by decide +kernel
theorem dX12_isImmediate_59 : decode cX12_isImmediate 59 = .ok (.bipush 78, 2) := by decide +kernel
theorem dX12_isImmediate_61 : decode cX12_isImmediate 61 = .ok (.if_icmp .le 9, 3) := by decide +kernel
theorem dX12_isImmediate_64 : decode cX12_isImmediate 64 = .ok (.iload_n 1, 1) := by decide +kernel
theorem dX12_isImmediate_65 : decode cX12_isImmediate 65 = .ok (.bipush 81, 2) := by decide +kernel
theorem dX12_isImmediate_67 : decode cX12_isImmediate 67 = .ok (.if_icmp .ne 7, 3) := by decide +kernel
theorem dX12_isImmediate_70 : decode cX12_isImmediate 70 = .ok (.iconst 1, 1) := by decide +kernel
theorem dX12_isImmediate_71 : decode cX12_isImmediate 71 = .ok (.goto 4, 3) := by decide +kernel
theorem dX12_isImmediate_74 : decode cX12_isImmediate 74 = .ok (.iconst 0, 1) := by decide +kernel
theorem dX12_isImmediate_75 : decode cX12_isImmediate 75 = .ok (.ireturn, 1) := by decide +kernel
theorem dX12_isNumber_0 : decode cX12_isNumber 0 = .ok (.aload_n 0, 1) := by decide +kernel
theorem dX12_isNumber_1 : decode cX12_isNumber 1 = .ok (.getfield 229, 3) := by decide +kernel
theorem dX12_isNumber_4 : decode cX12_isNumber 4 = .ok (.istore_n 1, 1) := by decide +kernel
theorem dX12_isNumber_5 : decode cX12_isNumber 5 = .ok (.aload_n 0, 1) := by decide +kernel
theorem dX12_isNumber_6 : decode cX12_isNumber 6 = .ok (.getfield 162, 3) := by decide +kernel
theorem dX12_isNumber_9 : decode cX12_isNumber 9 = .ok (.iload_n 1, 1) := by decide +kernel
theorem dX12_isNumber_10 : decode cX12_isNumber 10 = .ok (.iaload, 1) := by decide +kernel
theorem dX12_isNumber_11 : decode cX12_isNumber 11 = .ok (.bipush 45, 2) := by decide +kernel
theorem dX12_isNumber_13 : decode cX12_isNumber 13 = .ok (.if_icmp .ne 7, 3) := by decide +kernel
theorem dX12_isNumber_16 : decode cX12_isNumber 16 = .ok (.iconst 1, 1) := by decide +kernel
theorem dX12_isNumber_17 : decode cX12_isNumber 17 = .ok (.goto 4, 3) := by decide +kernel
theorem dX12_isNumber_20 : decode cX12_isNumber 20 = .ok (.iconst 0, 1) := by decide +kernel
theorem dX12_isNumber_21 : decode cX12_isNumber 21 = .ok (.istore_n 2, 1) := by decide +kernel
theorem dX12_isNumber_22 : decode cX12_isNumber 22 = .ok (.iload_n 2, 1) := by decide +kernel
theorem dX12_isNumber_23 : decode cX12_isNumber 23 = .ok (.ifCond .eq 6, 3) := by decide +kernel
theorem dX12_isNumber_26 : decode cX12_isNumber 26 = .ok (.iinc 1 1, 3) := by decide +kernel
theorem dX12_isNumber_29 : decode cX12_isNumber 29 = .ok (.aload_n 0, 1) := by decide +kernel
theorem dX12_isNumber_30 : decode cX12_isNumber 30 = .ok (.getfield 229, 3) := by decide +kernel
theorem dX12_isNumber_33 : decode cX12_isNumber 33 = .ok (.aload_n 0, 1) := by decide +kernel
theorem dX12_isNumber_34 : decode cX12_isNumber 34 = .ok (.getfield 232, 3) := by decide +kernel
theorem dX12_isNumber_37 : decode cX12_isNumber 37 = .ok (.iadd, 1) := by decide +kernel
theorem dX12_isNumber_38 : decode cX12_isNumber 38 = .ok (.iload_n 1, 1) := by decide +kernel
theorem dX12_isNumber_39 : decode cX12_isNumber 39 = .ok (.isub, 1) := by decide +kernel
theorem dX12_isNumber_40 : decode cX12_isNumber 40 = .ok (.istore_n 3, 1) := by decide +kernel
theorem dX12_isNumber_41 : decode cX12_isNumber 41 = .ok (.iload_n 3, 1) := by decide +kernel
theorem dX12_isNumber_42 : decode cX12_isNumber 42 = .ok (.iconst 1, 1) := by decide +kernel
theorem dX12_isNumber_43 : decode cX12_isNumber 43 = .ok (.if_icmp .lt 9, 3) := by decide +kernel
theorem dX12_isNumber_46 : decode cX12_isNumber 46 = .ok (.iload_n 3, 1) := by decide +kernel
theorem dX12_isNumber_47 : decode cX12_isNumber 47 = .ok (.bipush 10, 2) := by decide +kernel
theorem dX12_isNumber_49 : decode cX12_isNumber 49 = .ok (.if_icmp .le 5, 3) := by decide +kernel
theorem dX12_isNumber_52 : decode cX12_isNumber 52 = .ok (.iconst 0, 1) := by decide +kernel
theorem dX12_isNumber_53 : decode cX12_isNumber 53 = .ok (.ireturn, 1) := by decide +kernel
theorem dX12_isNumber_54 : decode cX12_isNumber 54 = .ok (.lconst 0, 1) := by decide +kernel
theorem dX12_isNumber_55 : decode cX12_isNumber 55 = .ok (.lstore 4, 2) := by decide +kernel
theorem dX12_isNumber_57 : decode cX12_isNumber 57 = .ok (.iload_n 1, 1) := by decide +kernel
theorem dX12_isNumber_58 : decode cX12_isNumber 58 = .ok (.istore 6, 2) := by decide +kernel
theorem dX12_isNumber_60 : decode cX12_isNumber 60 = .ok (.iload 6, 2) := by decide +kernel
theorem dX12_isNumber_62 : decode cX12_isNumber 62 = .ok (.aload_n 0, 1) := by decide +kernel
theorem dX12_isNumber_63 : decode cX12_isNumber 63 = .ok (.getfield 229, 3) := by decide +kernel
theorem dX12_isNumber_66 : decode cX12_isNumber 66 = .ok (.aload_n 0, 1) := by decide +kernel
theorem dX12_isNumber_67 : decode cX12_isNumber 67 = .ok (.getfield 232, 3) := by decide +kernel
theorem dX12_isNumber_70 : decode cX12_isNumber 70 = .ok (.iadd, 1) := by decide +kernel
theorem dX12_isNumber_71 : decode cX12_isNumber 71 = .ok (.if_icmp .ge 56, 3) := by decide +kernel
theorem dX12_isNumber_74 : decode cX12_isNumber 74 = .ok (.aload_n 0, 1) := by decide +kernel
theorem dX12_isNumber_75 : decode cX12_isNumber 75 = .ok (.getfield 162, 3) := by decide +kernel
theorem dX12_isNumber_78 : decode cX12_isNumber 78 = .ok (.iload 6, 2) := by decide +kernel
theorem dX12_isNumber_80 : decode cX12_isNumber 80 = .ok (.iaload, 1) := by decide +kernel
theorem dX12_isNumber_81 : decode cX12_isNumber 81 = .ok (.bipush 48, 2) := by decide +kernel
theorem dX12_isNumber_83 : decode cX12_isNumber 83 = .ok (.if_icmp .lt 15, 3) := by decide +kernel
theorem dX12_isNumber_86 : decode cX12_isNumber 86 = .ok (.aload_n 0, 1) := by decide +kernel
theorem dX12_isNumber_87 : decode cX12_isNumber 87 = .ok (.getfield 162, 3) := by decide +kernel
theorem dX12_isNumber_90 : decode cX12_isNumber 90 = .ok (.iload 6, 2) := by decide +kernel
theorem dX12_isNumber_92 : decode cX12_isNumber 92 = .ok (.iaload, 1) := by decide +kernel
theorem dX12_isNumber_93 : decode cX12_isNumber 93 = .ok (.bipush 57, 2) := by decide +kernel
theorem dX12_isNumber_95 : decode cX12_isNumber 95 = .ok (.if_icmp .le 5, 3) := by decide +kernel
theorem dX12_isNumber_98 : decode cX12_isNumber 98 = .ok (.iconst 0, 1) := by decide +kernel
theorem dX12_isNumber_99 : decode cX12_isNumber 99 = .ok (.ireturn, 1) := by decide +kernel
theorem dX12_isNumber_100 : decode cX12_isNumber 100 = .ok (.ldc2_w 251, 3) := by decide +kernel
theorem dX12_isNumber_103 : decode cX12_isNumber 103 = .ok (.lload 4, 2) := by decide +kernel
theorem dX12_isNumber_105 : decode cX12_isNumber 105 = .ok (.lmul, 1) := by decide +kernel
theorem dX12_isNumber_106 : decode cX12_isNumber 106 = .ok (.aload_n 0, 1) := by decide +kernel
theorem dX12_isNumber_107 : decode cX12_isNumber 107 = .ok (.getfield 162, 3) := by decide +kernel
theorem dX12_isNumber_110 : decode cX12_isNumber 110 = .ok (.iload 6, 2) := by decide +kernel
theorem dX12_isNumber_112 : decode cX12_isNumber 112 = .ok (.iaload, 1) := by decide +kernel
theorem dX12_isNumber_113 : decode cX12_isNumber 113 = .ok (.i2l, 1) := by decide +kernel
theorem dX12_isNumber_114 : decode cX12_isNumber 114 = .ok (.ladd, 1) := by decide +kernel
theorem dX12_isNumber_115 : decode cX12_isNumber 115 = .ok (.ldc2_w 253, 3) := by decide +kernel
theorem dX12_isNumber_118 : decode cX12_isNumber 118 = .ok (.lsub, 1) := by decide +kernel
theorem dX12_isNumber_119 : decode cX12_isNumber 119 = .ok (.lstore 4, 2) := by decide +kernel
theorem dX12_isNumber_121 : decode cX12_isNumber 121 = .ok (.iinc 6 1, 3) := by decide +kernel
theorem dX12_isNumber_124 : decode cX12_isNumber 124 = .ok (.goto (-64), 3) := by decide +kernel
theorem dX12_isNumber_127 : decode cX12_isNumber 127 = .ok (.iload_n 2, 1) := by decide +kernel
theorem dX12_isNumber_128 : decode cX12_isNumber 128 = .ok (.ifCond .eq 9, 3) := by decide +kernel
theorem dX12_isNumber_131 : decode cX12_isNumber 131 = .ok (.lload 4, 2) := by decide +kernel
theorem dX12_isNumber_133 : decode cX12_isNumber 133 = .ok (.lneg, 1) := by decide +kernel
theorem dX12_isNumber_134 : decode cX12_isNumber 134 = .ok (.goto 5, 3) := by decide +kernel
theorem dX12_isNumber_137 : decode cX12_isNumber 137 = .ok (.lload 4, 2) := by decide +kernel
theorem dX12_isNumber_139 : decode cX12_isNumber 139 = .ok (.lstore 4, 2) := by decide +kernel
theorem dX12_isNumber_141 : decode cX12_isNumber 141 = .ok (.lload 4, 2) := by decide +kernel
theorem dX12_isNumber_143 : decode cX12_isNumber 143 = .ok (.ldc2_w 255, 3) := by decide +kernel
theorem dX12_isNumber_146 : decode cX12_isNumber 146 = .ok (.lcmp, 1) := by decide +kernel
theorem dX12_isNumber_147 : decode cX12_isNumber 147 = .ok (.ifCond .lt 12, 3) := by decide +kernel
theorem dX12_isNumber_150 : decode cX12_isNumber 150 = .ok (.lload 4, 2) := by decide +kernel
theorem dX12_isNumber_152 : decode cX12_isNumber 152 = .ok (.ldc2_w 257, 3) := by decide +kernel
theorem dX12_isNumber_155 : decode cX12_isNumber 155 = .ok (.lcmp, 1) := by decide +kernel
theorem dX12_isNumber_156 : decode cX12_isNumber 156 = .ok (.ifCond .le 5, 3) := by decide +kernel
theorem dX12_isNumber_159 : decode cX12_isNumber 159 = .ok (.iconst 0, 1) := by decide +kernel
theorem dX12_isNumber_160 : decode cX12_isNumber 160 = .ok (.ireturn, 1) := by decide +kernel
theorem dX12_isNumber_161 : decode cX12_isNumber 161 = .ok (.aload_n 0, 1) := by decide +kernel
theorem dX12_isNumber_162 : decode cX12_isNumber 162 = .ok (.lload 4, 2) := by decide +kernel
theorem dX12_isNumber_164 : decode cX12_isNumber 164 = .ok (.l2i, 1) := by decide +kernel
theorem dX12_isNumber_165 : decode cX12_isNumber 165 = .ok (.putfield 259, 3) := by decide +kernel
theorem dX12_isNumber_168 : decode cX12_isNumber 168 = .ok (.iconst 1, 1) := by decide +kernel
theorem dX12_isNumber_169 : decode cX12_isNumber 169 = .ok (.ireturn, 1) := by decide +kernel
theorem dX12_interpret_0 : decode cX12_interpret 0 = .ok (.aload_n 0, 1) := by decide +kernel
theorem dX12_interpret_1 : decode cX12_interpret 1 = .ok (.invokevirtual 235, 3) := by decide +kernel
theorem dX12_interpret_4 : decode cX12_interpret 4 = .ok (.ifCond .ne 14, 3) := by decide +kernel
theorem dX12_interpret_7 : decode cX12_interpret 7 = .ok (.aload_n 0, 1) := by decide +kernel
theorem dX12_interpret_8 : decode cX12_interpret 8 = .ok (.iconst 0, 1) := by decide +kernel
theorem dX12_interpret_9 : decode cX12_interpret 9 = .ok (.putfield 259, 3) := by decide +kernel
theorem dX12_interpret_12 : decode cX12_interpret 12 = .ok (.aload_n 0, 1) := by decide +kernel
theorem dX12_interpret_13 : decode cX12_interpret 13 = .ok (.iconst 1, 1) := by decide +kernel
theorem dX12_interpret_14 : decode cX12_interpret 14 = .ok (.putfield 262, 3) := by decide +kernel
theorem dX12_interpret_17 : decode cX12_interpret 17 = .ok (.return_, 1) := by decide +kernel
theorem dX12_interpret_18 : decode cX12_interpret 18 = .ok (.aload_n 0, 1) := by decide +kernel
theorem dX12_interpret_19 : decode cX12_interpret 19 = .ok (.invokevirtual 266, 3) := by decide +kernel
theorem dX12_interpret_22 : decode cX12_interpret 22 = .ok (.istore_n 1, 1) := by decide +kernel
theorem dX12_interpret_23 : decode cX12_interpret 23 = .ok (.iload_n 1, 1) := by decide +kernel
theorem dX12_interpret_24 : decode cX12_interpret 24 = .ok (.ifCond .lt 45, 3) := by decide +kernel
theorem dX12_interpret_27 : decode cX12_interpret 27 = .ok (.aload_n 0, 1) := by decide +kernel
theorem dX12_interpret_28 : decode cX12_interpret 28 = .ok (.getfield 270, 3) := by decide +kernel
theorem dX12_interpret_31 : decode cX12_interpret 31 = .ok (.ifCond .eq 38, 3) := by decide +kernel
theorem dX12_interpret_34 : decode cX12_interpret 34 = .ok (.aload_n 0, 1) := by decide +kernel
theorem dX12_interpret_35 : decode cX12_interpret 35 = .ok (.iload_n 1, 1) := by decide +kernel
theorem dX12_interpret_36 : decode cX12_interpret 36 = .ok (.invokevirtual 273, 3) := by decide +kernel
theorem dX12_interpret_39 : decode cX12_interpret 39 = .ok (.ifCond .ne 30, 3) := by decide +kernel
theorem dX12_interpret_42 : decode cX12_interpret 42 = .ok (.aload_n 0, 1) := by decide +kernel
theorem dX12_interpret_43 : decode cX12_interpret 43 = .ok (.aload_n 0, 1) := by decide +kernel
theorem dX12_interpret_44 : decode cX12_interpret 44 = .ok (.getfield 276, 3) := by decide +kernel
theorem dX12_interpret_47 : decode cX12_interpret 47 = .ok (.sipush 400, 3) := by decide +kernel
theorem dX12_interpret_50 : decode cX12_interpret 50 = .ok (.if_icmp .ne 8, 3) := by decide +kernel
theorem dX12_interpret_53 : decode cX12_interpret 53 = .ok (.bipush (-8), 2) := by decide +kernel
theorem dX12_interpret_55 : decode cX12_interpret 55 = .ok (.goto 8, 3) := by decide +kernel
theorem dX12_interpret_58 : decode cX12_interpret 58 = .ok (.aload_n 0, 1) := by decide +kernel
theorem dX12_interpret_59 : decode cX12_interpret 59 = .ok (.iload_n 1, 1) := by decide +kernel
theorem dX12_interpret_60 : decode cX12_interpret 60 = .ok (.invokevirtual 279, 3) := by decide +kernel
theorem dX12_interpret_63 : decode cX12_interpret 63 = .ok (.invokevirtual 283, 3) := by decide +kernel
theorem dX12_interpret_66 : decode cX12_interpret 66 = .ok (.goto 114, 3) := by decide +kernel
theorem dX12_interpret_69 : decode cX12_interpret 69 = .ok (.iload_n 1, 1) := by decide +kernel
theorem dX12_interpret_70 : decode cX12_interpret 70 = .ok (.ifCond .lt 11, 3) := by decide +kernel
theorem dX12_interpret_73 : decode cX12_interpret 73 = .ok (.aload_n 0, 1) := by decide +kernel
theorem dX12_interpret_74 : decode cX12_interpret 74 = .ok (.iload_n 1, 1) := by decide +kernel
theorem dX12_interpret_75 : decode cX12_interpret 75 = .ok (.invokevirtual 287, 3) := by decide +kernel
theorem dX12_interpret_78 : decode cX12_interpret 78 = .ok (.goto 102, 3) := by decide +kernel
theorem dX12_interpret_81 : decode cX12_interpret 81 = .ok (.aload_n 0, 1) := by decide +kernel
theorem dX12_interpret_82 : decode cX12_interpret 82 = .ok (.invokevirtual 290, 3) := by decide +kernel
theorem dX12_interpret_85 : decode cX12_interpret 85 = .ok (.ifCond .ne 26, 3) := by decide +kernel
theorem dX12_interpret_88 : decode cX12_interpret 88 = .ok (.aload_n 0, 1) := by decide +kernel
theorem dX12_interpret_89 : decode cX12_interpret 89 = .ok (.aload_n 0, 1) := by decide +kernel
theorem dX12_interpret_90 : decode cX12_interpret 90 = .ok (.getfield 232, 3) := by decide +kernel
theorem dX12_interpret_93 : decode cX12_interpret 93 = .ok (.bipush 9, 2) := by decide +kernel
theorem dX12_interpret_95 : decode cX12_interpret 95 = .ok (.if_icmp .le 8, 3) := by decide +kernel
theorem dX12_interpret_98 : decode cX12_interpret 98 = .ok (.bipush (-19), 2) := by decide +kernel
theorem dX12_interpret_100 : decode cX12_interpret 100 = .ok (.goto 5, 3) := by decide +kernel
theorem dX12_interpret_103 : decode cX12_interpret 103 = .ok (.bipush (-13), 2) := by decide +kernel
theorem dX12_interpret_105 : decode cX12_interpret 105 = .ok (.invokevirtual 283, 3) := by decide +kernel
theorem dX12_interpret_108 : decode cX12_interpret 108 = .ok (.goto 72, 3) := by decide +kernel
theorem dX12_interpret_111 : decode cX12_interpret 111 = .ok (.aload_n 0, 1) := by decide +kernel
theorem dX12_interpret_112 : decode cX12_interpret 112 = .ok (.getfield 270, 3) := by decide +kernel
theorem dX12_interpret_115 : decode cX12_interpret 115 = .ok (.ifCond .eq 39, 3) := by decide +kernel
theorem dX12_interpret_118 : decode cX12_interpret 118 = .ok (.aload_n 0, 1) := by decide +kernel
theorem dX12_interpret_119 : decode cX12_interpret 119 = .ok (.aload_n 0, 1) := by decide +kernel
theorem dX12_interpret_120 : decode cX12_interpret 120 = .ok (.getfield 276, 3) := by decide +kernel
theorem dX12_interpret_123 : decode cX12_interpret 123 = .ok (.sipush 398, 3) := by decide +kernel
theorem dX12_interpret_126 : decode cX12_interpret 126 = .ok (.if_icmp .le 8, 3) := by decide +kernel
theorem dX12_interpret_129 : decode cX12_interpret 129 = .ok (.bipush (-8), 2) := by decide +kernel
theorem dX12_interpret_131 : decode cX12_interpret 131 = .ok (.goto 17, 3) := by decide +kernel
theorem dX12_interpret_134 : decode cX12_interpret 134 = .ok (.aload_n 0, 1) := by decide +kernel
theorem dX12_interpret_135 : decode cX12_interpret 135 = .ok (.iconst 1, 1) := by decide +kernel
theorem dX12_interpret_136 : decode cX12_interpret 136 = .ok (.invokevirtual 279, 3) := by decide +kernel
theorem dX12_interpret_139 : decode cX12_interpret 139 = .ok (.aload_n 0, 1) := by decide +kernel
theorem dX12_interpret_140 : decode cX12_interpret 140 = .ok (.aload_n 0, 1) := by decide +kernel
theorem dX12_interpret_141 : decode cX12_interpret 141 = .ok (.getfield 259, 3) := by decide +kernel
theorem dX12_interpret_144 : decode cX12_interpret 144 = .ok (.invokevirtual 279, 3) := by decide +kernel
theorem dX12_interpret_147 : decode cX12_interpret 147 = .ok (.iadd, 1) := by decide +kernel
theorem dX12_interpret_148 : decode cX12_interpret 148 = .ok (.invokevirtual 283, 3) := by decide +kernel
theorem dX12_interpret_151 : decode cX12_interpret 151 = .ok (.goto 29, 3) := by decide +kernel
theorem dX12_interpret_154 : decode cX12_interpret 154 = .ok (.aload_n 0, 1) := by decide +kernel
theorem dX12_interpret_155 : decode cX12_interpret 155 = .ok (.aload_n 0, 1) := by decide +kernel
theorem dX12_interpret_156 : decode cX12_interpret 156 = .ok (.getfield 293, 3) := by decide +kernel
theorem dX12_interpret_159 : decode cX12_interpret 159 = .ok (.bipush 30, 2) := by decide +kernel
theorem dX12_interpret_161 : decode cX12_interpret 161 = .ok (.if_icmp .ne 8, 3) := by decide +kernel
theorem dX12_interpret_164 : decode cX12_interpret 164 = .ok (.bipush (-3), 2) := by decide +kernel
theorem dX12_interpret_166 : decode cX12_interpret 166 = .ok (.goto 11, 3) := by decide +kernel
theorem dX12_interpret_169 : decode cX12_interpret 169 = .ok (.aload_n 0, 1) := by decide +kernel
theorem dX12_interpret_170 : decode cX12_interpret 170 = .ok (.aload_n 0, 1) := by decide +kernel
theorem dX12_interpret_171 : decode cX12_interpret 171 = .ok (.getfield 259, 3) := by decide +kernel
theorem dX12_interpret_174 : decode cX12_interpret 174 = .ok (.invokevirtual 296, 3) := by decide +kernel
theorem dX12_interpret_177 : decode cX12_interpret 177 = .ok (.invokevirtual 283, 3) := by decide +kernel
theorem dX12_interpret_180 : decode cX12_interpret 180 = .ok (.return_, 1) := by decide +kernel
theorem dX12_run_0 : decode cX12_run 0 = .ok (.aload_n 0, 1) := by decide +kernel
theorem dX12_run_1 : decode cX12_run 1 = .ok (.iload_n 1, 1) := by decide +kernel
theorem dX12_run_2 : decode cX12_run 2 = .ok (.ifCond .lt 10, 3) := by decide +kernel
theorem dX12_run_5 : decode cX12_run 5 = .ok (.iload_n 1, 1) := by decide +kernel
theorem dX12_run_6 : decode cX12_run 6 = .ok (.sipush 3000, 3) := by decide +kernel
theorem dX12_run_9 : decode cX12_run 9 = .ok (.if_icmp .le 7, 3) := by decide +kernel
theorem dX12_run_12 : decode cX12_run 12 = .ok (.iconst 1, 1) := by decide +kernel
theorem dX12_run_13 : decode cX12_run 13 = .ok (.goto 4, 3) := by decide +kernel
theorem dX12_run_16 : decode cX12_run 16 = .ok (.iconst 0, 1) := by decide +kernel
theorem dX12_run_17 : decode cX12_run 17 = .ok (.putfield 215, 3) := by decide +kernel
theorem dX12_run_20 : decode cX12_run 20 = .ok (.aload_n 0, 1) := by decide +kernel
theorem dX12_run_21 : decode cX12_run 21 = .ok (.getfield 215, 3) := by decide +kernel
theorem dX12_run_24 : decode cX12_run 24 = .ok (.ifCond .le 5, 3) := by decide +kernel
theorem dX12_run_27 : decode cX12_run 27 = .ok (.iconst 0, 1) := by decide +kernel
theorem dX12_run_28 : decode cX12_run 28 = .ok (.ireturn, 1) := by decide +kernel
theorem dX12_run_29 : decode cX12_run 29 = .ok (.aload_n 0, 1) := by decide +kernel
theorem dX12_run_30 : decode cX12_run 30 = .ok (.iload_n 1, 1) := by decide +kernel
theorem dX12_run_31 : decode cX12_run 31 = .ok (.putfield 299, 3) := by decide +kernel
theorem dX12_run_34 : decode cX12_run 34 = .ok (.aload_n 0, 1) := by decide +kernel
theorem dX12_run_35 : decode cX12_run 35 = .ok (.iconst 0, 1) := by decide +kernel
theorem dX12_run_36 : decode cX12_run 36 = .ok (.putfield 302, 3) := by decide +kernel
theorem dX12_run_39 : decode cX12_run 39 = .ok (.aload_n 0, 1) := by decide +kernel
theorem dX12_run_40 : decode cX12_run 40 = .ok (.iconst 0, 1) := by decide +kernel
theorem dX12_run_41 : decode cX12_run 41 = .ok (.putfield 305, 3) := by decide +kernel
theorem dX12_run_44 : decode cX12_run 44 = .ok (.aload_n 0, 1) := by decide +kernel
theorem dX12_run_45 : decode cX12_run 45 = .ok (.iconst 0, 1) := by decide +kernel
theorem dX12_run_46 : decode cX12_run 46 = .ok (.putfield 308, 3) := by decide +kernel
theorem dX12_run_49 : decode cX12_run 49 = .ok (.aload_n 0, 1) := by decide +kernel
theorem dX12_run_50 : decode cX12_run 50 = .ok (.iconst 0, 1) := by decide +kernel
theorem dX12_run_51 : decode cX12_run 51 = .ok (.putfield 222, 3) := by decide +kernel
theorem dX12_run_54 : decode cX12_run 54 = .ok (.aload_n 0, 1) := by decide +kernel
theorem dX12_run_55 : decode cX12_run 55 = .ok (.iconst 0, 1) := by decide +kernel
theorem dX12_run_56 : decode cX12_run 56 = .ok (.putfield 262, 3) := by decide +kernel
theorem dX12_run_59 : decode cX12_run 59 = .ok (.iconst 0, 1) := by decide +kernel
theorem dX12_run_60 : decode cX12_run 60 = .ok (.istore_n 2, 1) := by decide +kernel
theorem dX12_run_61 : decode cX12_run 61 = .ok (.iload_n 2, 1) := by decide +kernel
theorem dX12_run_62 : decode cX12_run 62 = .ok (.sipush 10000, 3) := by decide +kernel
theorem dX12_run_65 : decode cX12_run 65 = .ok (.if_icmp .ge 55, 3) := by decide +kernel
theorem dX12_run_68 : decode cX12_run 68 = .ok (.aload_n 0, 1) := by decide +kernel
theorem dX12_run_69 : decode cX12_run 69 = .ok (.getfield 262, 3) := by decide +kernel
theorem dX12_run_72 : decode cX12_run 72 = .ok (.ifCond .ne 48, 3) := by decide +kernel
theorem dX12_run_75 : decode cX12_run 75 = .ok (.aload_n 0, 1) := by decide +kernel
theorem dX12_run_76 : decode cX12_run 76 = .ok (.getfield 311, 3) := by decide +kernel
theorem dX12_run_79 : decode cX12_run 79 = .ok (.ifCond .ne 10, 3) := by decide +kernel
theorem dX12_run_82 : decode cX12_run 82 = .ok (.aload_n 0, 1) := by decide +kernel
theorem dX12_run_83 : decode cX12_run 83 = .ok (.invokevirtual 314, 3) := by decide +kernel
theorem dX12_run_86 : decode cX12_run 86 = .ok (.goto 28, 3) := by decide +kernel
theorem dX12_run_89 : decode cX12_run 89 = .ok (.aload_n 0, 1) := by decide +kernel
theorem dX12_run_90 : decode cX12_run 90 = .ok (.getfield 178, 3) := by decide +kernel
theorem dX12_run_93 : decode cX12_run 93 = .ok (.aload_n 0, 1) := by decide +kernel
theorem dX12_run_94 : decode cX12_run 94 = .ok (.getfield 311, 3) := by decide +kernel
theorem dX12_run_97 : decode cX12_run 97 = .ok (.iconst 1, 1) := by decide +kernel
theorem dX12_run_98 : decode cX12_run 98 = .ok (.isub, 1) := by decide +kernel
theorem dX12_run_99 : decode cX12_run 99 = .ok (.iaload, 1) := by decide +kernel
theorem dX12_run_100 : decode cX12_run 100 = .ok (.ifCond .lt 10, 3) := by decide +kernel
theorem dX12_run_103 : decode cX12_run 103 = .ok (.aload_n 0, 1) := by decide +kernel
theorem dX12_run_104 : decode cX12_run 104 = .ok (.invokevirtual 317, 3) := by decide +kernel
theorem dX12_run_107 : decode cX12_run 107 = .ok (.goto 7, 3) := by decide +kernel
theorem dX12_run_110 : decode cX12_run 110 = .ok (.aload_n 0, 1) := by decide +kernel
theorem dX12_run_111 : decode cX12_run 111 = .ok (.invokevirtual 320, 3) := by decide +kernel
theorem dX12_run_114 : decode cX12_run 114 = .ok (.iinc 2 1, 3) := by decide +kernel
theorem dX12_run_117 : decode cX12_run 117 = .ok (.goto (-56), 3) := by decide +kernel
theorem dX12_run_120 : decode cX12_run 120 = .ok (.aload_n 0, 1) := by decide +kernel
theorem dX12_run_121 : decode cX12_run 121 = .ok (.iconst 0, 1) := by decide +kernel
theorem dX12_run_122 : decode cX12_run 122 = .ok (.putfield 219, 3) := by decide +kernel
theorem dX12_run_125 : decode cX12_run 125 = .ok (.aload_n 0, 1) := by decide +kernel
theorem dX12_run_126 : decode cX12_run 126 = .ok (.getfield 259, 3) := by decide +kernel
theorem dX12_run_129 : decode cX12_run 129 = .ok (.ireturn, 1) := by decide +kernel
theorem dX12_comesBack_0 : decode cX12_comesBack 0 = .ok (.aload_n 0, 1) := by decide +kernel
theorem dX12_comesBack_1 : decode cX12_comesBack 1 = .ok (.dup, 1) := by decide +kernel
theorem dX12_comesBack_2 : decode cX12_comesBack 2 = .ok (.getfield 311, 3) := by decide +kernel
theorem dX12_comesBack_5 : decode cX12_comesBack 5 = .ok (.iconst 1, 1) := by decide +kernel
theorem dX12_comesBack_6 : decode cX12_comesBack 6 = .ok (.isub, 1) := by decide +kernel
theorem dX12_comesBack_7 : decode cX12_comesBack 7 = .ok (.putfield 311, 3) := by decide +kernel
theorem dX12_comesBack_10 : decode cX12_comesBack 10 = .ok (.aload_n 0, 1) := by decide +kernel
theorem dX12_comesBack_11 : decode cX12_comesBack 11 = .ok (.aload_n 0, 1) := by decide +kernel
theorem dX12_comesBack_12 : decode cX12_comesBack 12 = .ok (.getfield 293, 3) := by decide +kernel
theorem dX12_comesBack_15 : decode cX12_comesBack 15 = .ok (.bipush 30, 2) := by decide +kernel
theorem dX12_comesBack_17 : decode cX12_comesBack 17 = .ok (.if_icmp .ne 8, 3) := by decide +kernel
theorem dX12_comesBack_20 : decode cX12_comesBack 20 = .ok (.bipush (-3), 2) := by decide +kernel
theorem dX12_comesBack_22 : decode cX12_comesBack 22 = .ok (.goto 8, 3) := by decide +kernel
theorem dX12_comesBack_25 : decode cX12_comesBack 25 = .ok (.aload_n 0, 1) := by decide +kernel
theorem dX12_comesBack_26 : decode cX12_comesBack 26 = .ok (.iconst 0, 1) := by decide +kernel
theorem dX12_comesBack_27 : decode cX12_comesBack 27 = .ok (.invokevirtual 296, 3) := by decide +kernel
theorem dX12_comesBack_30 : decode cX12_comesBack 30 = .ok (.invokevirtual 283, 3) := by decide +kernel
theorem dX12_comesBack_33 : decode cX12_comesBack 33 = .ok (.return_, 1) := by decide +kernel
theorem dX12_goesOn_0 : decode cX12_goesOn 0 = .ok (.aload_n 0, 1) := by decide +kernel
theorem dX12_goesOn_1 : decode cX12_goesOn 1 = .ok (.getfield 175, 3) := by decide +kernel
theorem dX12_goesOn_4 : decode cX12_goesOn 4 = .ok (.aload_n 0, 1) := by decide +kernel
theorem dX12_goesOn_5 : decode cX12_goesOn 5 = .ok (.getfield 311, 3) := by decide +kernel
theorem dX12_goesOn_8 : decode cX12_goesOn 8 = .ok (.iconst 1, 1) := by decide +kernel
theorem dX12_goesOn_9 : decode cX12_goesOn 9 = .ok (.isub, 1) := by decide +kernel
theorem dX12_goesOn_10 : decode cX12_goesOn 10 = .ok (.iaload, 1) := by decide +kernel
theorem dX12_goesOn_11 : decode cX12_goesOn 11 = .ok (.istore_n 1, 1) := by decide +kernel
theorem dX12_goesOn_12 : decode cX12_goesOn 12 = .ok (.iload_n 1, 1) := by decide +kernel
theorem dX12_goesOn_13 : decode cX12_goesOn 13 = .ok (.ifCond .lt 23, 3) := by decide +kernel
theorem dX12_goesOn_16 : decode cX12_goesOn 16 = .ok (.iload_n 1, 1) := by decide +kernel
theorem dX12_goesOn_17 : decode cX12_goesOn 17 = .ok (.sipush 400, 3) := by decide +kernel
theorem dX12_goesOn_20 : decode cX12_goesOn 20 = .ok (.if_icmp .ge 16, 3) := by decide +kernel
theorem dX12_goesOn_23 : decode cX12_goesOn 23 = .ok (.aload_n 0, 1) := by decide +kernel
theorem dX12_goesOn_24 : decode cX12_goesOn 24 = .ok (.aload_n 0, 1) := by decide +kernel
theorem dX12_goesOn_25 : decode cX12_goesOn 25 = .ok (.getfield 184, 3) := by decide +kernel
theorem dX12_goesOn_28 : decode cX12_goesOn 28 = .ok (.iload_n 1, 1) := by decide +kernel
theorem dX12_goesOn_29 : decode cX12_goesOn 29 = .ok (.iaload, 1) := by decide +kernel
theorem dX12_goesOn_30 : decode cX12_goesOn 30 = .ok (.invokevirtual 323, 3) := by decide +kernel
theorem dX12_goesOn_33 : decode cX12_goesOn 33 = .ok (.ifCond .ne 10, 3) := by decide +kernel
theorem dX12_goesOn_36 : decode cX12_goesOn 36 = .ok (.aload_n 0, 1) := by decide +kernel
theorem dX12_goesOn_37 : decode cX12_goesOn 37 = .ok (.bipush (-9), 2) := by decide +kernel
theorem dX12_goesOn_39 : decode cX12_goesOn 39 = .ok (.invokevirtual 283, 3) := by decide +kernel
theorem dX12_goesOn_42 : decode cX12_goesOn 42 = .ok (.return_, 1) := by decide +kernel
theorem dX12_goesOn_43 : decode cX12_goesOn 43 = .ok (.aload_n 0, 1) := by decide +kernel
theorem dX12_goesOn_44 : decode cX12_goesOn 44 = .ok (.getfield 175, 3) := by decide +kernel
theorem dX12_goesOn_47 : decode cX12_goesOn 47 = .ok (.aload_n 0, 1) := by decide +kernel
theorem dX12_goesOn_48 : decode cX12_goesOn 48 = .ok (.getfield 311, 3) := by decide +kernel
theorem dX12_goesOn_51 : decode cX12_goesOn 51 = .ok (.iconst 1, 1) := by decide +kernel
theorem dX12_goesOn_52 : decode cX12_goesOn 52 = .ok (.isub, 1) := by decide +kernel
theorem dX12_goesOn_53 : decode cX12_goesOn 53 = .ok (.iload_n 1, 1) := by decide +kernel
theorem dX12_goesOn_54 : decode cX12_goesOn 54 = .ok (.iconst 1, 1) := by decide +kernel
theorem dX12_goesOn_55 : decode cX12_goesOn 55 = .ok (.iadd, 1) := by decide +kernel
theorem dX12_goesOn_56 : decode cX12_goesOn 56 = .ok (.iastore, 1) := by decide +kernel
theorem dX12_goesOn_57 : decode cX12_goesOn 57 = .ok (.aload_n 0, 1) := by decide +kernel
theorem dX12_goesOn_58 : decode cX12_goesOn 58 = .ok (.aload_n 0, 1) := by decide +kernel
theorem dX12_goesOn_59 : decode cX12_goesOn 59 = .ok (.getfield 184, 3) := by decide +kernel
theorem dX12_goesOn_62 : decode cX12_goesOn 62 = .ok (.iload_n 1, 1) := by decide +kernel
theorem dX12_goesOn_63 : decode cX12_goesOn 63 = .ok (.iaload, 1) := by decide +kernel
theorem dX12_goesOn_64 : decode cX12_goesOn 64 = .ok (.invokevirtual 287, 3) := by decide +kernel
theorem dX12_goesOn_67 : decode cX12_goesOn 67 = .ok (.return_, 1) := by decide +kernel
theorem dX12_carry_0 : decode cX12_carry 0 = .ok (.iload_n 1, 1) := by decide +kernel
theorem dX12_carry_1 : decode cX12_carry 1 = .ok (.istore_n 2, 1) := by decide +kernel
theorem dX12_carry_2 : decode cX12_carry 2 = .ok (.iconst 0, 1) := by decide +kernel
theorem dX12_carry_3 : decode cX12_carry 3 = .ok (.istore_n 3, 1) := by decide +kernel
theorem dX12_carry_4 : decode cX12_carry 4 = .ok (.iload_n 3, 1) := by decide +kernel
theorem dX12_carry_5 : decode cX12_carry 5 = .ok (.sipush 3000, 3) := by decide +kernel
theorem dX12_carry_8 : decode cX12_carry 8 = .ok (.if_icmp .gt 66, 3) := by decide +kernel
theorem dX12_carry_11 : decode cX12_carry 11 = .ok (.iload_n 2, 1) := by decide +kernel
theorem dX12_carry_12 : decode cX12_carry 12 = .ok (.ifCond .lt 62, 3) := by decide +kernel
theorem dX12_carry_15 : decode cX12_carry 15 = .ok (.aload_n 0, 1) := by decide +kernel
theorem dX12_carry_16 : decode cX12_carry 16 = .ok (.iconst (-1), 1) := by decide +kernel
theorem dX12_carry_17 : decode cX12_carry 17 = .ok (.putfield 326, 3) := by decide +kernel
theorem dX12_carry_20 : decode cX12_carry 20 = .ok (.aload_n 0, 1) := by decide +kernel
theorem dX12_carry_21 : decode cX12_carry 21 = .ok (.getfield 299, 3) := by decide +kernel
theorem dX12_carry_24 : decode cX12_carry 24 = .ok (.ifCond .ne 10, 3) := by decide +kernel
theorem dX12_carry_27 : decode cX12_carry 27 = .ok (.aload_n 0, 1) := by decide +kernel
theorem dX12_carry_28 : decode cX12_carry 28 = .ok (.bipush (-28), 2) := by decide +kernel
theorem dX12_carry_30 : decode cX12_carry 30 = .ok (.invokevirtual 329, 3) := by decide +kernel
theorem dX12_carry_33 : decode cX12_carry 33 = .ok (.return_, 1) := by decide +kernel
theorem dX12_carry_34 : decode cX12_carry 34 = .ok (.aload_n 0, 1) := by decide +kernel
theorem dX12_carry_35 : decode cX12_carry 35 = .ok (.dup, 1) := by decide +kernel
theorem dX12_carry_36 : decode cX12_carry 36 = .ok (.getfield 299, 3) := by decide +kernel
theorem dX12_carry_39 : decode cX12_carry 39 = .ok (.iconst 1, 1) := by decide +kernel
theorem dX12_carry_40 : decode cX12_carry 40 = .ok (.isub, 1) := by decide +kernel
theorem dX12_carry_41 : decode cX12_carry 41 = .ok (.putfield 299, 3) := by decide +kernel
theorem dX12_carry_44 : decode cX12_carry 44 = .ok (.aload_n 0, 1) := by decide +kernel
theorem dX12_carry_45 : decode cX12_carry 45 = .ok (.dup, 1) := by decide +kernel
theorem dX12_carry_46 : decode cX12_carry 46 = .ok (.getfield 302, 3) := by decide +kernel
theorem dX12_carry_49 : decode cX12_carry 49 = .ok (.iconst 1, 1) := by decide +kernel
theorem dX12_carry_50 : decode cX12_carry 50 = .ok (.iadd, 1) := by decide +kernel
theorem dX12_carry_51 : decode cX12_carry 51 = .ok (.putfield 302, 3) := by decide +kernel
theorem dX12_carry_54 : decode cX12_carry 54 = .ok (.aload_n 0, 1) := by decide +kernel
theorem dX12_carry_55 : decode cX12_carry 55 = .ok (.aload_n 0, 1) := by decide +kernel
theorem dX12_carry_56 : decode cX12_carry 56 = .ok (.iload_n 2, 1) := by decide +kernel
theorem dX12_carry_57 : decode cX12_carry 57 = .ok (.invokevirtual 332, 3) := by decide +kernel
theorem dX12_carry_60 : decode cX12_carry 60 = .ok (.invokevirtual 283, 3) := by decide +kernel
theorem dX12_carry_63 : decode cX12_carry 63 = .ok (.aload_n 0, 1) := by decide +kernel
theorem dX12_carry_64 : decode cX12_carry 64 = .ok (.getfield 326, 3) := by decide +kernel
theorem dX12_carry_67 : decode cX12_carry 67 = .ok (.istore_n 2, 1) := by decide +kernel
theorem dX12_carry_68 : decode cX12_carry 68 = .ok (.iinc 3 1, 3) := by decide +kernel
theorem dX12_carry_71 : decode cX12_carry 71 = .ok (.goto (-67), 3) := by decide +kernel
theorem dX12_carry_74 : decode cX12_carry 74 = .ok (.return_, 1) := by decide +kernel
theorem dX12_meet_0 : decode cX12_meet 0 = .ok (.iload_n 1, 1) := by decide +kernel
theorem dX12_meet_1 : decode cX12_meet 1 = .ok (.ifCond .ne 4, 3) := by decide +kernel
theorem dX12_meet_4 : decode cX12_meet 4 = .ok (.return_, 1) := by decide +kernel
theorem dX12_meet_5 : decode cX12_meet 5 = .ok (.aload_n 0, 1) := by decide +kernel
theorem dX12_meet_6 : decode cX12_meet 6 = .ok (.getfield 311, 3) := by decide +kernel
theorem dX12_meet_9 : decode cX12_meet 9 = .ok (.iconst 1, 1) := by decide +kernel
theorem dX12_meet_10 : decode cX12_meet 10 = .ok (.isub, 1) := by decide +kernel
theorem dX12_meet_11 : decode cX12_meet 11 = .ok (.istore_n 2, 1) := by decide +kernel
theorem dX12_meet_12 : decode cX12_meet 12 = .ok (.iload_n 2, 1) := by decide +kernel
theorem dX12_meet_13 : decode cX12_meet 13 = .ok (.ifCond .lt 18, 3) := by decide +kernel
theorem dX12_meet_16 : decode cX12_meet 16 = .ok (.aload_n 0, 1) := by decide +kernel
theorem dX12_meet_17 : decode cX12_meet 17 = .ok (.getfield 178, 3) := by decide +kernel
theorem dX12_meet_20 : decode cX12_meet 20 = .ok (.iload_n 2, 1) := by decide +kernel
theorem dX12_meet_21 : decode cX12_meet 21 = .ok (.iaload, 1) := by decide +kernel
theorem dX12_meet_22 : decode cX12_meet 22 = .ok (.ifCond .ge 9, 3) := by decide +kernel
theorem dX12_meet_25 : decode cX12_meet 25 = .ok (.iinc 2 (-1), 3) := by decide +kernel
theorem dX12_meet_28 : decode cX12_meet 28 = .ok (.goto (-16), 3) := by decide +kernel
theorem dX12_meet_31 : decode cX12_meet 31 = .ok (.iload_n 2, 1) := by decide +kernel
theorem dX12_meet_32 : decode cX12_meet 32 = .ok (.ifCond .ge 9, 3) := by decide +kernel
theorem dX12_meet_35 : decode cX12_meet 35 = .ok (.aload_n 0, 1) := by decide +kernel
theorem dX12_meet_36 : decode cX12_meet 36 = .ok (.iload_n 1, 1) := by decide +kernel
theorem dX12_meet_37 : decode cX12_meet 37 = .ok (.invokevirtual 329, 3) := by decide +kernel
theorem dX12_meet_40 : decode cX12_meet 40 = .ok (.return_, 1) := by decide +kernel
theorem dX12_meet_41 : decode cX12_meet 41 = .ok (.aload_n 0, 1) := by decide +kernel
theorem dX12_meet_42 : decode cX12_meet 42 = .ok (.getfield 293, 3) := by decide +kernel
theorem dX12_meet_45 : decode cX12_meet 45 = .ok (.istore_n 3, 1) := by decide +kernel
theorem dX12_meet_46 : decode cX12_meet 46 = .ok (.iload_n 3, 1) := by decide +kernel
theorem dX12_meet_47 : decode cX12_meet 47 = .ok (.aload_n 0, 1) := by decide +kernel
theorem dX12_meet_48 : decode cX12_meet 48 = .ok (.getfield 178, 3) := by decide +kernel
theorem dX12_meet_51 : decode cX12_meet 51 = .ok (.iload_n 2, 1) := by decide +kernel
theorem dX12_meet_52 : decode cX12_meet 52 = .ok (.iaload, 1) := by decide +kernel
theorem dX12_meet_53 : decode cX12_meet 53 = .ok (.if_icmp .ge 16, 3) := by decide +kernel
theorem dX12_meet_56 : decode cX12_meet 56 = .ok (.aload_n 0, 1) := by decide +kernel
theorem dX12_meet_57 : decode cX12_meet 57 = .ok (.getfield 169, 3) := by decide +kernel
theorem dX12_meet_60 : decode cX12_meet 60 = .ok (.iload_n 3, 1) := by decide +kernel
theorem dX12_meet_61 : decode cX12_meet 61 = .ok (.iconst 0, 1) := by decide +kernel
theorem dX12_meet_62 : decode cX12_meet 62 = .ok (.iastore, 1) := by decide +kernel
theorem dX12_meet_63 : decode cX12_meet 63 = .ok (.iinc 3 1, 3) := by decide +kernel
theorem dX12_meet_66 : decode cX12_meet 66 = .ok (.goto (-20), 3) := by decide +kernel
theorem dX12_meet_69 : decode cX12_meet 69 = .ok (.aload_n 0, 1) := by decide +kernel
theorem dX12_meet_70 : decode cX12_meet 70 = .ok (.getfield 335, 3) := by decide +kernel
theorem dX12_meet_73 : decode cX12_meet 73 = .ok (.istore_n 3, 1) := by decide +kernel
theorem dX12_meet_74 : decode cX12_meet 74 = .ok (.iload_n 3, 1) := by decide +kernel
theorem dX12_meet_75 : decode cX12_meet 75 = .ok (.aload_n 0, 1) := by decide +kernel
theorem dX12_meet_76 : decode cX12_meet 76 = .ok (.getfield 181, 3) := by decide +kernel
theorem dX12_meet_79 : decode cX12_meet 79 = .ok (.iload_n 2, 1) := by decide +kernel
theorem dX12_meet_80 : decode cX12_meet 80 = .ok (.iaload, 1) := by decide +kernel
theorem dX12_meet_81 : decode cX12_meet 81 = .ok (.if_icmp .ge 16, 3) := by decide +kernel
theorem dX12_meet_84 : decode cX12_meet 84 = .ok (.aload_n 0, 1) := by decide +kernel
theorem dX12_meet_85 : decode cX12_meet 85 = .ok (.getfield 172, 3) := by decide +kernel
theorem dX12_meet_88 : decode cX12_meet 88 = .ok (.iload_n 3, 1) := by decide +kernel
theorem dX12_meet_89 : decode cX12_meet 89 = .ok (.iconst 0, 1) := by decide +kernel
theorem dX12_meet_90 : decode cX12_meet 90 = .ok (.iastore, 1) := by decide +kernel
theorem dX12_meet_91 : decode cX12_meet 91 = .ok (.iinc 3 1, 3) := by decide +kernel
theorem dX12_meet_94 : decode cX12_meet 94 = .ok (.goto (-20), 3) := by decide +kernel
theorem dX12_meet_97 : decode cX12_meet 97 = .ok (.aload_n 0, 1) := by decide +kernel
theorem dX12_meet_98 : decode cX12_meet 98 = .ok (.aload_n 0, 1) := by decide +kernel
theorem dX12_meet_99 : decode cX12_meet 99 = .ok (.getfield 178, 3) := by decide +kernel
theorem dX12_meet_102 : decode cX12_meet 102 = .ok (.iload_n 2, 1) := by decide +kernel
theorem dX12_meet_103 : decode cX12_meet 103 = .ok (.iaload, 1) := by decide +kernel
theorem dX12_meet_104 : decode cX12_meet 104 = .ok (.putfield 293, 3) := by decide +kernel
theorem dX12_meet_107 : decode cX12_meet 107 = .ok (.aload_n 0, 1) := by decide +kernel
theorem dX12_meet_108 : decode cX12_meet 108 = .ok (.aload_n 0, 1) := by decide +kernel
theorem dX12_meet_109 : decode cX12_meet 109 = .ok (.getfield 181, 3) := by decide +kernel
theorem dX12_meet_112 : decode cX12_meet 112 = .ok (.iload_n 2, 1) := by decide +kernel
theorem dX12_meet_113 : decode cX12_meet 113 = .ok (.iaload, 1) := by decide +kernel
theorem dX12_meet_114 : decode cX12_meet 114 = .ok (.putfield 335, 3) := by decide +kernel
theorem dX12_meet_117 : decode cX12_meet 117 = .ok (.aload_n 0, 1) := by decide +kernel
theorem dX12_meet_118 : decode cX12_meet 118 = .ok (.iload_n 2, 1) := by decide +kernel
theorem dX12_meet_119 : decode cX12_meet 119 = .ok (.putfield 311, 3) := by decide +kernel
theorem dX12_meet_122 : decode cX12_meet 122 = .ok (.aload_n 0, 1) := by decide +kernel
theorem dX12_meet_123 : decode cX12_meet 123 = .ok (.iload_n 1, 1) := by decide +kernel
theorem dX12_meet_124 : decode cX12_meet 124 = .ok (.invokevirtual 296, 3) := by decide +kernel
theorem dX12_meet_127 : decode cX12_meet 127 = .ok (.pop, 1) := by decide +kernel
theorem dX12_meet_128 : decode cX12_meet 128 = .ok (.aload_n 0, 1) := by decide +kernel
theorem dX12_meet_129 : decode cX12_meet 129 = .ok (.dup, 1) := by decide +kernel
theorem dX12_meet_130 : decode cX12_meet 130 = .ok (.getfield 305, 3) := by decide +kernel
theorem dX12_meet_133 : decode cX12_meet 133 = .ok (.iconst 1, 1) := by decide +kernel
theorem dX12_meet_134 : decode cX12_meet 134 = .ok (.iadd, 1) := by decide +kernel
theorem dX12_meet_135 : decode cX12_meet 135 = .ok (.putfield 305, 3) := by decide +kernel
theorem dX12_meet_138 : decode cX12_meet 138 = .ok (.return_, 1) := by decide +kernel
theorem dX12_ends_0 : decode cX12_ends 0 = .ok (.aload_n 0, 1) := by decide +kernel
theorem dX12_ends_1 : decode cX12_ends 1 = .ok (.iload_n 1, 1) := by decide +kernel
theorem dX12_ends_2 : decode cX12_ends 2 = .ok (.putfield 259, 3) := by decide +kernel
theorem dX12_ends_5 : decode cX12_ends 5 = .ok (.aload_n 0, 1) := by decide +kernel
theorem dX12_ends_6 : decode cX12_ends 6 = .ok (.iconst 1, 1) := by decide +kernel
theorem dX12_ends_7 : decode cX12_ends 7 = .ok (.putfield 262, 3) := by decide +kernel
theorem dX12_ends_10 : decode cX12_ends 10 = .ok (.aload_n 0, 1) := by decide +kernel
theorem dX12_ends_11 : decode cX12_ends 11 = .ok (.iconst 0, 1) := by decide +kernel
theorem dX12_ends_12 : decode cX12_ends 12 = .ok (.putfield 293, 3) := by decide +kernel
theorem dX12_ends_15 : decode cX12_ends 15 = .ok (.aload_n 0, 1) := by decide +kernel
theorem dX12_ends_16 : decode cX12_ends 16 = .ok (.iconst 0, 1) := by decide +kernel
theorem dX12_ends_17 : decode cX12_ends 17 = .ok (.putfield 335, 3) := by decide +kernel
theorem dX12_ends_20 : decode cX12_ends 20 = .ok (.aload_n 0, 1) := by decide +kernel
theorem dX12_ends_21 : decode cX12_ends 21 = .ok (.iconst 0, 1) := by decide +kernel
theorem dX12_ends_22 : decode cX12_ends 22 = .ok (.putfield 311, 3) := by decide +kernel
theorem dX12_ends_25 : decode cX12_ends 25 = .ok (.aload_n 0, 1) := by decide +kernel
theorem dX12_ends_26 : decode cX12_ends 26 = .ok (.iconst 0, 1) := by decide +kernel
theorem dX12_ends_27 : decode cX12_ends 27 = .ok (.putfield 338, 3) := by decide +kernel
theorem dX12_ends_30 : decode cX12_ends 30 = .ok (.aload_n 0, 1) := by decide +kernel
theorem dX12_ends_31 : decode cX12_ends 31 = .ok (.iconst 0, 1) := by decide +kernel
theorem dX12_ends_32 : decode cX12_ends 32 = .ok (.putfield 270, 3) := by decide +kernel
theorem dX12_ends_35 : decode cX12_ends 35 = .ok (.aload_n 0, 1) := by decide +kernel
theorem dX12_ends_36 : decode cX12_ends 36 = .ok (.getfield 341, 3) := by decide +kernel
theorem dX12_ends_39 : decode cX12_ends 39 = .ok (.ifCond .eq 21, 3) := by decide +kernel
theorem dX12_ends_42 : decode cX12_ends 42 = .ok (.aload_n 0, 1) := by decide +kernel
theorem dX12_ends_43 : decode cX12_ends 43 = .ok (.dup, 1) := by decide +kernel
theorem dX12_ends_44 : decode cX12_ends 44 = .ok (.getfield 239, 3) := by decide +kernel
theorem dX12_ends_47 : decode cX12_ends 47 = .ok (.iconst 1, 1) := by decide +kernel
theorem dX12_ends_48 : decode cX12_ends 48 = .ok (.isub, 1) := by decide +kernel
theorem dX12_ends_49 : decode cX12_ends 49 = .ok (.putfield 239, 3) := by decide +kernel
theorem dX12_ends_52 : decode cX12_ends 52 = .ok (.aload_n 0, 1) := by decide +kernel
theorem dX12_ends_53 : decode cX12_ends 53 = .ok (.aload_n 0, 1) := by decide +kernel
theorem dX12_ends_54 : decode cX12_ends 54 = .ok (.getfield 344, 3) := by decide +kernel
theorem dX12_ends_57 : decode cX12_ends 57 = .ok (.putfield 276, 3) := by decide +kernel
theorem dX12_ends_60 : decode cX12_ends 60 = .ok (.aload_n 0, 1) := by decide +kernel
theorem dX12_ends_61 : decode cX12_ends 61 = .ok (.iconst 0, 1) := by decide +kernel
theorem dX12_ends_62 : decode cX12_ends 62 = .ok (.putfield 341, 3) := by decide +kernel
theorem dX12_ends_65 : decode cX12_ends 65 = .ok (.return_, 1) := by decide +kernel
theorem dX12_push_0 : decode cX12_push 0 = .ok (.aload_n 0, 1) := by decide +kernel
theorem dX12_push_1 : decode cX12_push 1 = .ok (.getfield 169, 3) := by decide +kernel
theorem dX12_push_4 : decode cX12_push 4 = .ok (.aload_n 0, 1) := by decide +kernel
theorem dX12_push_5 : decode cX12_push 5 = .ok (.getfield 293, 3) := by decide +kernel
theorem dX12_push_8 : decode cX12_push 8 = .ok (.iload_n 1, 1) := by decide +kernel
theorem dX12_push_9 : decode cX12_push 9 = .ok (.iastore, 1) := by decide +kernel
theorem dX12_push_10 : decode cX12_push 10 = .ok (.aload_n 0, 1) := by decide +kernel
theorem dX12_push_11 : decode cX12_push 11 = .ok (.dup, 1) := by decide +kernel
theorem dX12_push_12 : decode cX12_push 12 = .ok (.getfield 293, 3) := by decide +kernel
theorem dX12_push_15 : decode cX12_push 15 = .ok (.iconst 1, 1) := by decide +kernel
theorem dX12_push_16 : decode cX12_push 16 = .ok (.iadd, 1) := by decide +kernel
theorem dX12_push_17 : decode cX12_push 17 = .ok (.putfield 293, 3) := by decide +kernel
theorem dX12_push_20 : decode cX12_push 20 = .ok (.iconst 0, 1) := by decide +kernel
theorem dX12_push_21 : decode cX12_push 21 = .ok (.ireturn, 1) := by decide +kernel
theorem dX12_pop_0 : decode cX12_pop 0 = .ok (.aload_n 0, 1) := by decide +kernel
theorem dX12_pop_1 : decode cX12_pop 1 = .ok (.dup, 1) := by decide +kernel
theorem dX12_pop_2 : decode cX12_pop 2 = .ok (.getfield 293, 3) := by decide +kernel
theorem dX12_pop_5 : decode cX12_pop 5 = .ok (.iconst 1, 1) := by decide +kernel
theorem dX12_pop_6 : decode cX12_pop 6 = .ok (.isub, 1) := by decide +kernel
theorem dX12_pop_7 : decode cX12_pop 7 = .ok (.putfield 293, 3) := by decide +kernel
theorem dX12_pop_10 : decode cX12_pop 10 = .ok (.aload_n 0, 1) := by decide +kernel
theorem dX12_pop_11 : decode cX12_pop 11 = .ok (.getfield 169, 3) := by decide +kernel
theorem dX12_pop_14 : decode cX12_pop 14 = .ok (.aload_n 0, 1) := by decide +kernel
theorem dX12_pop_15 : decode cX12_pop 15 = .ok (.getfield 293, 3) := by decide +kernel
theorem dX12_pop_18 : decode cX12_pop 18 = .ok (.iaload, 1) := by decide +kernel
theorem dX12_pop_19 : decode cX12_pop 19 = .ok (.ireturn, 1) := by decide +kernel
theorem dX12_truth_0 : decode cX12_truth 0 = .ok (.aload_n 0, 1) := by decide +kernel
theorem dX12_truth_1 : decode cX12_truth 1 = .ok (.iload_n 1, 1) := by decide +kernel
theorem dX12_truth_2 : decode cX12_truth 2 = .ok (.ifCond .eq 7, 3) := by decide +kernel
theorem dX12_truth_5 : decode cX12_truth 5 = .ok (.iconst (-1), 1) := by decide +kernel
theorem dX12_truth_6 : decode cX12_truth 6 = .ok (.goto 4, 3) := by decide +kernel
theorem dX12_truth_9 : decode cX12_truth 9 = .ok (.iconst 0, 1) := by decide +kernel
theorem dX12_truth_10 : decode cX12_truth 10 = .ok (.invokevirtual 296, 3) := by decide +kernel
theorem dX12_truth_13 : decode cX12_truth 13 = .ok (.ireturn, 1) := by decide +kernel
theorem dX12_append_0 : decode cX12_append 0 = .ok (.aload_n 0, 1) := by decide +kernel
theorem dX12_append_1 : decode cX12_append 1 = .ok (.getfield 184, 3) := by decide +kernel
theorem dX12_append_4 : decode cX12_append 4 = .ok (.aload_n 0, 1) := by decide +kernel
theorem dX12_append_5 : decode cX12_append 5 = .ok (.getfield 276, 3) := by decide +kernel
theorem dX12_append_8 : decode cX12_append 8 = .ok (.iload_n 1, 1) := by decide +kernel
theorem dX12_append_9 : decode cX12_append 9 = .ok (.iastore, 1) := by decide +kernel
theorem dX12_append_10 : decode cX12_append 10 = .ok (.aload_n 0, 1) := by decide +kernel
theorem dX12_append_11 : decode cX12_append 11 = .ok (.dup, 1) := by decide +kernel
theorem dX12_append_12 : decode cX12_append 12 = .ok (.getfield 276, 3) := by decide +kernel
theorem dX12_append_15 : decode cX12_append 15 = .ok (.iconst 1, 1) := by decide +kernel
theorem dX12_append_16 : decode cX12_append 16 = .ok (.iadd, 1) := by decide +kernel
theorem dX12_append_17 : decode cX12_append 17 = .ok (.putfield 276, 3) := by decide +kernel
theorem dX12_append_20 : decode cX12_append 20 = .ok (.iconst 0, 1) := by decide +kernel
theorem dX12_append_21 : decode cX12_append 21 = .ok (.ireturn, 1) := by decide +kernel
theorem dX12_isWord_0 : decode cX12_isWord 0 = .ok (.iload_n 1, 1) := by decide +kernel
theorem dX12_isWord_1 : decode cX12_isWord 1 = .ok (.ifCond .lt 18, 3) := by decide +kernel
theorem dX12_isWord_4 : decode cX12_isWord 4 = .ok (.iload_n 1, 1) := by decide +kernel
theorem dX12_isWord_5 : decode cX12_isWord 5 = .ok (.bipush 82, 2) := by decide +kernel
theorem dX12_isWord_7 : decode cX12_isWord 7 = .ok (.aload_n 0, 1) := by decide +kernel
theorem dX12_isWord_8 : decode cX12_isWord 8 = .ok (.getfield 239, 3) := by decide +kernel
theorem dX12_isWord_11 : decode cX12_isWord 11 = .ok (.iadd, 1) := by decide +kernel
theorem dX12_isWord_12 : decode cX12_isWord 12 = .ok (.if_icmp .ge 7, 3) := by decide +kernel
theorem dX12_isWord_15 : decode cX12_isWord 15 = .ok (.iconst 1, 1) := by decide +kernel
theorem dX12_isWord_16 : decode cX12_isWord 16 = .ok (.goto 4, 3) := by decide +kernel
theorem dX12_isWord_19 : decode cX12_isWord 19 = .ok (.iconst 0, 1) := by decide +kernel
theorem dX12_isWord_20 : decode cX12_isWord 20 = .ok (.ireturn, 1) := by decide +kernel
theorem dX12_call_0 : decode cX12_call 0 = .ok (.aload_n 0, 1) := by decide +kernel
theorem dX12_call_1 : decode cX12_call 1 = .ok (.getfield 175, 3) := by decide +kernel
theorem dX12_call_4 : decode cX12_call 4 = .ok (.aload_n 0, 1) := by decide +kernel
theorem dX12_call_5 : decode cX12_call 5 = .ok (.getfield 311, 3) := by decide +kernel
theorem dX12_call_8 : decode cX12_call 8 = .ok (.iload_n 1, 1) := by decide +kernel
theorem dX12_call_9 : decode cX12_call 9 = .ok (.iastore, 1) := by decide +kernel
theorem dX12_call_10 : decode cX12_call 10 = .ok (.aload_n 0, 1) := by decide +kernel
theorem dX12_call_11 : decode cX12_call 11 = .ok (.getfield 178, 3) := by decide +kernel
theorem dX12_call_14 : decode cX12_call 14 = .ok (.aload_n 0, 1) := by decide +kernel
theorem dX12_call_15 : decode cX12_call 15 = .ok (.getfield 311, 3) := by decide +kernel
theorem dX12_call_18 : decode cX12_call 18 = .ok (.iload_n 2, 1) := by decide +kernel
theorem dX12_call_19 : decode cX12_call 19 = .ok (.iastore, 1) := by decide +kernel
theorem dX12_call_20 : decode cX12_call 20 = .ok (.aload_n 0, 1) := by decide +kernel
theorem dX12_call_21 : decode cX12_call 21 = .ok (.getfield 181, 3) := by decide +kernel
theorem dX12_call_24 : decode cX12_call 24 = .ok (.aload_n 0, 1) := by decide +kernel
theorem dX12_call_25 : decode cX12_call 25 = .ok (.getfield 311, 3) := by decide +kernel
theorem dX12_call_28 : decode cX12_call 28 = .ok (.iload_n 3, 1) := by decide +kernel
theorem dX12_call_29 : decode cX12_call 29 = .ok (.iastore, 1) := by decide +kernel
theorem dX12_call_30 : decode cX12_call 30 = .ok (.aload_n 0, 1) := by decide +kernel
theorem dX12_call_31 : decode cX12_call 31 = .ok (.dup, 1) := by decide +kernel
theorem dX12_call_32 : decode cX12_call 32 = .ok (.getfield 311, 3) := by decide +kernel
theorem dX12_call_35 : decode cX12_call 35 = .ok (.iconst 1, 1) := by decide +kernel
theorem dX12_call_36 : decode cX12_call 36 = .ok (.iadd, 1) := by decide +kernel
theorem dX12_call_37 : decode cX12_call 37 = .ok (.putfield 311, 3) := by decide +kernel
theorem dX12_call_40 : decode cX12_call 40 = .ok (.iconst 0, 1) := by decide +kernel
theorem dX12_call_41 : decode cX12_call 41 = .ok (.ireturn, 1) := by decide +kernel
theorem dX12_write_0 : decode cX12_write 0 = .ok (.aload_n 0, 1) := by decide +kernel
theorem dX12_write_1 : decode cX12_write 1 = .ok (.getfield 308, 3) := by decide +kernel
theorem dX12_write_4 : decode cX12_write 4 = .ok (.sipush 300, 3) := by decide +kernel
theorem dX12_write_7 : decode cX12_write 7 = .ok (.if_icmp .ne 4, 3) := by decide +kernel
theorem dX12_write_10 : decode cX12_write 10 = .ok (.return_, 1) := by decide +kernel
theorem dX12_write_11 : decode cX12_write 11 = .ok (.aload_n 0, 1) := by decide +kernel
theorem dX12_write_12 : decode cX12_write 12 = .ok (.getfield 166, 3) := by decide +kernel
theorem dX12_write_15 : decode cX12_write 15 = .ok (.aload_n 0, 1) := by decide +kernel
theorem dX12_write_16 : decode cX12_write 16 = .ok (.getfield 308, 3) := by decide +kernel
theorem dX12_write_19 : decode cX12_write 19 = .ok (.iload_n 1, 1) := by decide +kernel
theorem dX12_write_20 : decode cX12_write 20 = .ok (.iastore, 1) := by decide +kernel
theorem dX12_write_21 : decode cX12_write 21 = .ok (.aload_n 0, 1) := by decide +kernel
theorem dX12_write_22 : decode cX12_write 22 = .ok (.dup, 1) := by decide +kernel
theorem dX12_write_23 : decode cX12_write 23 = .ok (.getfield 308, 3) := by decide +kernel
theorem dX12_write_26 : decode cX12_write 26 = .ok (.iconst 1, 1) := by decide +kernel
theorem dX12_write_27 : decode cX12_write 27 = .ok (.iadd, 1) := by decide +kernel
theorem dX12_write_28 : decode cX12_write 28 = .ok (.putfield 308, 3) := by decide +kernel
theorem dX12_write_31 : decode cX12_write 31 = .ok (.return_, 1) := by decide +kernel
theorem dX12_wants_0 : decode cX12_wants 0 = .ok (.iload_n 0, 1) := by decide +kernel
theorem dX12_wants_1 : decode cX12_wants 1 = .ok (.tableswitch 333 3 80 #[331, 329, 333, 331, 333, 331, 331, 329, 329, 327, 329, 331, 333, 331, 331, 333, 333, 333, 333, 333, 333, 333, 333, 333, 333, 331, 331, 333, 333, 333, 333, 333, 331, 329, 329, 329, 331, 331, 331, 331, 331, 331, 329, 329, 331, 333, 331, 331, 331, 333, 333, 333, 331, 333, 333, 333, 333, 333, 333, 331, 331, 331, 333, 333, 333, 333, 333, 333, 333, 333, 333, 333, 333, 333, 333, 333, 331, 331], 327) := by decide +kernel
theorem dX12_wants_328 : decode cX12_wants 328 = .ok (.iconst 3, 1) := by decide +kernel
theorem dX12_wants_329 : decode cX12_wants 329 = .ok (.ireturn, 1) := by decide +kernel
theorem dX12_wants_330 : decode cX12_wants 330 = .ok (.iconst 2, 1) := by decide +kernel
theorem dX12_wants_331 : decode cX12_wants 331 = .ok (.ireturn, 1) := by decide +kernel
theorem dX12_wants_332 : decode cX12_wants 332 = .ok (.iconst 1, 1) := by decide +kernel
theorem dX12_wants_333 : decode cX12_wants 333 = .ok (.ireturn, 1) := by decide +kernel
theorem dX12_wants_334 : decode cX12_wants 334 = .ok (.iload_n 0, 1) := by decide +kernel
theorem dX12_wants_335 : decode cX12_wants 335 = .ok (.bipush 23, 2) := by decide +kernel
theorem dX12_wants_337 : decode cX12_wants 337 = .ok (.if_icmp .lt 13, 3) := by decide +kernel
theorem dX12_wants_340 : decode cX12_wants 340 = .ok (.iload_n 0, 1) := by decide +kernel
theorem dX12_wants_341 : decode cX12_wants 341 = .ok (.bipush 34, 2) := by decide +kernel
theorem dX12_wants_343 : decode cX12_wants 343 = .ok (.if_icmp .gt 7, 3) := by decide +kernel
theorem dX12_wants_346 : decode cX12_wants 346 = .ok (.iconst 2, 1) := by decide +kernel
theorem dX12_wants_347 : decode cX12_wants 347 = .ok (.goto 4, 3) := by decide +kernel
theorem dX12_wants_350 : decode cX12_wants 350 = .ok (.iconst 0, 1) := by decide +kernel
theorem dX12_wants_351 : decode cX12_wants 351 = .ok (.ireturn, 1) := by decide +kernel
theorem dX12_wantsStore_0 : decode cX12_wantsStore 0 = .ok (.iload_n 0, 1) := by decide +kernel
theorem dX12_wantsStore_1 : decode cX12_wantsStore 1 = .ok (.bipush 21, 2) := by decide +kernel
theorem dX12_wantsStore_3 : decode cX12_wantsStore 3 = .ok (.if_icmp .ne 7, 3) := by decide +kernel
theorem dX12_wantsStore_6 : decode cX12_wantsStore 6 = .ok (.iconst 3, 1) := by decide +kernel
theorem dX12_wantsStore_7 : decode cX12_wantsStore 7 = .ok (.goto 41, 3) := by decide +kernel
theorem dX12_wantsStore_10 : decode cX12_wantsStore 10 = .ok (.iload_n 0, 1) := by decide +kernel
theorem dX12_wantsStore_11 : decode cX12_wantsStore 11 = .ok (.iconst 5, 1) := by decide +kernel
theorem dX12_wantsStore_12 : decode cX12_wantsStore 12 = .ok (.if_icmp .eq 15, 3) := by decide +kernel
theorem dX12_wantsStore_15 : decode cX12_wantsStore 15 = .ok (.iload_n 0, 1) := by decide +kernel
theorem dX12_wantsStore_16 : decode cX12_wantsStore 16 = .ok (.bipush 6, 2) := by decide +kernel
theorem dX12_wantsStore_18 : decode cX12_wantsStore 18 = .ok (.if_icmp .eq 9, 3) := by decide +kernel
theorem dX12_wantsStore_21 : decode cX12_wantsStore 21 = .ok (.iload_n 0, 1) := by decide +kernel
theorem dX12_wantsStore_22 : decode cX12_wantsStore 22 = .ok (.bipush 22, 2) := by decide +kernel
theorem dX12_wantsStore_24 : decode cX12_wantsStore 24 = .ok (.if_icmp .ne 7, 3) := by decide +kernel
theorem dX12_wantsStore_27 : decode cX12_wantsStore 27 = .ok (.iconst 2, 1) := by decide +kernel
theorem dX12_wantsStore_28 : decode cX12_wantsStore 28 = .ok (.goto 20, 3) := by decide +kernel
theorem dX12_wantsStore_31 : decode cX12_wantsStore 31 = .ok (.iload_n 0, 1) := by decide +kernel
theorem dX12_wantsStore_32 : decode cX12_wantsStore 32 = .ok (.bipush 18, 2) := by decide +kernel
theorem dX12_wantsStore_34 : decode cX12_wantsStore 34 = .ok (.if_icmp .lt 13, 3) := by decide +kernel
theorem dX12_wantsStore_37 : decode cX12_wantsStore 37 = .ok (.iload_n 0, 1) := by decide +kernel
theorem dX12_wantsStore_38 : decode cX12_wantsStore 38 = .ok (.bipush 20, 2) := by decide +kernel
theorem dX12_wantsStore_40 : decode cX12_wantsStore 40 = .ok (.if_icmp .gt 7, 3) := by decide +kernel
theorem dX12_wantsStore_43 : decode cX12_wantsStore 43 = .ok (.iconst 1, 1) := by decide +kernel
theorem dX12_wantsStore_44 : decode cX12_wantsStore 44 = .ok (.goto 4, 3) := by decide +kernel
theorem dX12_wantsStore_47 : decode cX12_wantsStore 47 = .ok (.iconst 0, 1) := by decide +kernel
theorem dX12_wantsStore_48 : decode cX12_wantsStore 48 = .ok (.ireturn, 1) := by decide +kernel
theorem dX12_isStarred_0 : decode cX12_isStarred 0 = .ok (.iload_n 0, 1) := by decide +kernel
theorem dX12_isStarred_1 : decode cX12_isStarred 1 = .ok (.bipush 54, 2) := by decide +kernel
theorem dX12_isStarred_3 : decode cX12_isStarred 3 = .ok (.if_icmp .eq 39, 3) := by decide +kernel
theorem dX12_isStarred_6 : decode cX12_isStarred 6 = .ok (.iload_n 0, 1) := by decide +kernel
theorem dX12_isStarred_7 : decode cX12_isStarred 7 = .ok (.bipush 58, 2) := by decide +kernel
theorem dX12_isStarred_9 : decode cX12_isStarred 9 = .ok (.if_icmp .eq 33, 3) := by decide +kernel
theorem dX12_isStarred_12 : decode cX12_isStarred 12 = .ok (.iload_n 0, 1) := by decide +kernel
theorem dX12_isStarred_13 : decode cX12_isStarred 13 = .ok (.bipush 61, 2) := by decide +kernel
theorem dX12_isStarred_15 : decode cX12_isStarred 15 = .ok (.if_icmp .eq 27, 3) := by decide +kernel
theorem dX12_isStarred_18 : decode cX12_isStarred 18 = .ok (.iload_n 0, 1) := by decide +kernel
theorem dX12_isStarred_19 : decode cX12_isStarred 19 = .ok (.bipush 64, 2) := by decide +kernel
theorem dX12_isStarred_21 : decode cX12_isStarred 21 = .ok (.if_icmp .eq 21, 3) := by decide +kernel
theorem dX12_isStarred_24 : decode cX12_isStarred 24 = .ok (.iload_n 0, 1) := by decide +kernel
theorem dX12_isStarred_25 : decode cX12_isStarred 25 = .ok (.bipush 65, 2) := by decide +kernel
theorem dX12_isStarred_27 : decode cX12_isStarred 27 = .ok (.if_icmp .eq 15, 3) := by decide +kernel
theorem dX12_isStarred_30 : decode cX12_isStarred 30 = .ok (.iload_n 0, 1) := by decide +kernel
theorem dX12_isStarred_31 : decode cX12_isStarred 31 = .ok (.bipush 68, 2) := by decide +kernel
theorem dX12_isStarred_33 : decode cX12_isStarred 33 = .ok (.if_icmp .lt 13, 3) := by decide +kernel
theorem dX12_isStarred_36 : decode cX12_isStarred 36 = .ok (.iload_n 0, 1) := by decide +kernel
theorem dX12_isStarred_37 : decode cX12_isStarred 37 = .ok (.bipush 78, 2) := by decide +kernel
theorem dX12_isStarred_39 : decode cX12_isStarred 39 = .ok (.if_icmp .gt 7, 3) := by decide +kernel
theorem dX12_isStarred_42 : decode cX12_isStarred 42 = .ok (.iconst 1, 1) := by decide +kernel
theorem dX12_isStarred_43 : decode cX12_isStarred 43 = .ok (.goto 4, 3) := by decide +kernel
theorem dX12_isStarred_46 : decode cX12_isStarred 46 = .ok (.iconst 0, 1) := by decide +kernel
theorem dX12_isStarred_47 : decode cX12_isStarred 47 = .ok (.ireturn, 1) := by decide +kernel
theorem dX12_done_0 : decode cX12_done 0 = .ok (.iload_n 1, 1) := by decide +kernel
theorem dX12_done_1 : decode cX12_done 1 = .ok (.bipush 82, 2) := by decide +kernel
theorem dX12_done_3 : decode cX12_done 3 = .ok (.if_icmp .lt 12, 3) := by decide +kernel
theorem dX12_done_6 : decode cX12_done 6 = .ok (.aload_n 0, 1) := by decide +kernel
theorem dX12_done_7 : decode cX12_done 7 = .ok (.iload_n 1, 1) := by decide +kernel
theorem dX12_done_8 : decode cX12_done 8 = .ok (.bipush 82, 2) := by decide +kernel
theorem dX12_done_10 : decode cX12_done 10 = .ok (.isub, 1) := by decide +kernel
theorem dX12_done_11 : decode cX12_done 11 = .ok (.invokevirtual 347, 3) := by decide +kernel
theorem dX12_done_14 : decode cX12_done 14 = .ok (.ireturn, 1) := by decide +kernel
theorem dX12_done_15 : decode cX12_done 15 = .ok (.aload_n 0, 1) := by decide +kernel
theorem dX12_done_16 : decode cX12_done 16 = .ok (.getfield 311, 3) := by decide +kernel
theorem dX12_done_19 : decode cX12_done 19 = .ok (.ifCond .le 21, 3) := by decide +kernel
theorem dX12_done_22 : decode cX12_done 22 = .ok (.aload_n 0, 1) := by decide +kernel
theorem dX12_done_23 : decode cX12_done 23 = .ok (.getfield 178, 3) := by decide +kernel
theorem dX12_done_26 : decode cX12_done 26 = .ok (.aload_n 0, 1) := by decide +kernel
theorem dX12_done_27 : decode cX12_done 27 = .ok (.getfield 311, 3) := by decide +kernel
theorem dX12_done_30 : decode cX12_done 30 = .ok (.iconst 1, 1) := by decide +kernel
theorem dX12_done_31 : decode cX12_done 31 = .ok (.isub, 1) := by decide +kernel
theorem dX12_done_32 : decode cX12_done 32 = .ok (.iaload, 1) := by decide +kernel
theorem dX12_done_33 : decode cX12_done 33 = .ok (.ifCond .ge 7, 3) := by decide +kernel
theorem dX12_done_36 : decode cX12_done 36 = .ok (.iconst 1, 1) := by decide +kernel
theorem dX12_done_37 : decode cX12_done 37 = .ok (.goto 4, 3) := by decide +kernel
theorem dX12_done_40 : decode cX12_done 40 = .ok (.iconst 0, 1) := by decide +kernel
theorem dX12_done_41 : decode cX12_done 41 = .ok (.istore_n 2, 1) := by decide +kernel
theorem dX12_done_42 : decode cX12_done 42 = .ok (.iload_n 1, 1) := by decide +kernel
theorem dX12_done_43 : decode cX12_done 43 = .ok (.bipush 8, 2) := by decide +kernel
theorem dX12_done_45 : decode cX12_done 45 = .ok (.if_icmp .ge 7, 3) := by decide +kernel
theorem dX12_done_48 : decode cX12_done 48 = .ok (.iload_n 2, 1) := by decide +kernel
theorem dX12_done_49 : decode cX12_done 49 = .ok (.ifCond .eq 17, 3) := by decide +kernel
theorem dX12_done_52 : decode cX12_done 52 = .ok (.iload_n 1, 1) := by decide +kernel
theorem dX12_done_53 : decode cX12_done 53 = .ok (.invokestatic 350, 3) := by decide +kernel
theorem dX12_done_56 : decode cX12_done 56 = .ok (.ifCond .eq 13, 3) := by decide +kernel
theorem dX12_done_59 : decode cX12_done 59 = .ok (.aload_n 0, 1) := by decide +kernel
theorem dX12_done_60 : decode cX12_done 60 = .ok (.getfield 270, 3) := by decide +kernel
theorem dX12_done_63 : decode cX12_done 63 = .ok (.ifCond .ne 6, 3) := by decide +kernel
theorem dX12_done_66 : decode cX12_done 66 = .ok (.bipush (-14), 2) := by decide +kernel
theorem dX12_done_68 : decode cX12_done 68 = .ok (.ireturn, 1) := by decide +kernel
theorem dX12_done_69 : decode cX12_done 69 = .ok (.aload_n 0, 1) := by decide +kernel
theorem dX12_done_70 : decode cX12_done 70 = .ok (.getfield 293, 3) := by decide +kernel
theorem dX12_done_73 : decode cX12_done 73 = .ok (.iload_n 1, 1) := by decide +kernel
theorem dX12_done_74 : decode cX12_done 74 = .ok (.invokestatic 353, 3) := by decide +kernel
theorem dX12_done_77 : decode cX12_done 77 = .ok (.if_icmp .ge 6, 3) := by decide +kernel
theorem dX12_done_80 : decode cX12_done 80 = .ok (.bipush (-4), 2) := by decide +kernel
theorem dX12_done_82 : decode cX12_done 82 = .ok (.ireturn, 1) := by decide +kernel
theorem dX12_done_83 : decode cX12_done 83 = .ok (.aload_n 0, 1) := by decide +kernel
theorem dX12_done_84 : decode cX12_done 84 = .ok (.getfield 335, 3) := by decide +kernel
theorem dX12_done_87 : decode cX12_done 87 = .ok (.iload_n 1, 1) := by decide +kernel
theorem dX12_done_88 : decode cX12_done 88 = .ok (.invokestatic 356, 3) := by decide +kernel
theorem dX12_done_91 : decode cX12_done 91 = .ok (.if_icmp .ge 6, 3) := by decide +kernel
theorem dX12_done_94 : decode cX12_done 94 = .ok (.bipush (-6), 2) := by decide +kernel
theorem dX12_done_96 : decode cX12_done 96 = .ok (.ireturn, 1) := by decide +kernel
theorem dX12_done_97 : decode cX12_done 97 = .ok (.iload_n 1, 1) := by decide +kernel
theorem dX12_done_98 : decode cX12_done 98 = .ok (.bipush 8, 2) := by decide +kernel
theorem dX12_done_100 : decode cX12_done 100 = .ok (.if_icmp .ge 9, 3) := by decide +kernel
theorem dX12_done_103 : decode cX12_done 103 = .ok (.aload_n 0, 1) := by decide +kernel
theorem dX12_done_104 : decode cX12_done 104 = .ok (.iload_n 1, 1) := by decide +kernel
theorem dX12_done_105 : decode cX12_done 105 = .ok (.invokevirtual 359, 3) := by decide +kernel
theorem dX12_done_108 : decode cX12_done 108 = .ok (.ireturn, 1) := by decide +kernel
theorem dX12_done_109 : decode cX12_done 109 = .ok (.iload_n 1, 1) := by decide +kernel
theorem dX12_done_110 : decode cX12_done 110 = .ok (.bipush 23, 2) := by decide +kernel
theorem dX12_done_112 : decode cX12_done 112 = .ok (.if_icmp .ge 9, 3) := by decide +kernel
theorem dX12_done_115 : decode cX12_done 115 = .ok (.aload_n 0, 1) := by decide +kernel
theorem dX12_done_116 : decode cX12_done 116 = .ok (.iload_n 1, 1) := by decide +kernel
theorem dX12_done_117 : decode cX12_done 117 = .ok (.invokevirtual 362, 3) := by decide +kernel
theorem dX12_done_120 : decode cX12_done 120 = .ok (.ireturn, 1) := by decide +kernel
theorem dX12_done_121 : decode cX12_done 121 = .ok (.iload_n 1, 1) := by decide +kernel
theorem dX12_done_122 : decode cX12_done 122 = .ok (.bipush 36, 2) := by decide +kernel
theorem dX12_done_124 : decode cX12_done 124 = .ok (.if_icmp .ge 9, 3) := by decide +kernel
theorem dX12_done_127 : decode cX12_done 127 = .ok (.aload_n 0, 1) := by decide +kernel
theorem dX12_done_128 : decode cX12_done 128 = .ok (.iload_n 1, 1) := by decide +kernel
theorem dX12_done_129 : decode cX12_done 129 = .ok (.invokevirtual 365, 3) := by decide +kernel
theorem dX12_done_132 : decode cX12_done 132 = .ok (.ireturn, 1) := by decide +kernel
theorem dX12_done_133 : decode cX12_done 133 = .ok (.iload_n 1, 1) := by decide +kernel
theorem dX12_done_134 : decode cX12_done 134 = .ok (.bipush 44, 2) := by decide +kernel
theorem dX12_done_136 : decode cX12_done 136 = .ok (.if_icmp .ge 9, 3) := by decide +kernel
theorem dX12_done_139 : decode cX12_done 139 = .ok (.aload_n 0, 1) := by decide +kernel
theorem dX12_done_140 : decode cX12_done 140 = .ok (.iload_n 1, 1) := by decide +kernel
theorem dX12_done_141 : decode cX12_done 141 = .ok (.invokevirtual 368, 3) := by decide +kernel
theorem dX12_done_144 : decode cX12_done 144 = .ok (.ireturn, 1) := by decide +kernel
theorem dX12_done_145 : decode cX12_done 145 = .ok (.iload_n 1, 1) := by decide +kernel
theorem dX12_done_146 : decode cX12_done 146 = .ok (.bipush 53, 2) := by decide +kernel
theorem dX12_done_148 : decode cX12_done 148 = .ok (.if_icmp .ge 9, 3) := by decide +kernel
theorem dX12_done_151 : decode cX12_done 151 = .ok (.aload_n 0, 1) := by decide +kernel
theorem dX12_done_152 : decode cX12_done 152 = .ok (.iload_n 1, 1) := by decide +kernel
theorem dX12_done_153 : decode cX12_done 153 = .ok (.invokevirtual 371, 3) := by decide +kernel
theorem dX12_done_156 : decode cX12_done 156 = .ok (.ireturn, 1) := by decide +kernel
theorem dX12_done_157 : decode cX12_done 157 = .ok (.iload_n 1, 1) := by decide +kernel
theorem dX12_done_158 : decode cX12_done 158 = .ok (.bipush 60, 2) := by decide +kernel
theorem dX12_done_160 : decode cX12_done 160 = .ok (.if_icmp .ge 9, 3) := by decide +kernel
theorem dX12_done_163 : decode cX12_done 163 = .ok (.aload_n 0, 1) := by decide +kernel
theorem dX12_done_164 : decode cX12_done 164 = .ok (.iload_n 1, 1) := by decide +kernel
theorem dX12_done_165 : decode cX12_done 165 = .ok (.invokevirtual 374, 3) := by decide +kernel
theorem dX12_done_168 : decode cX12_done 168 = .ok (.ireturn, 1) := by decide +kernel
theorem dX12_done_169 : decode cX12_done 169 = .ok (.iload_n 1, 1) := by decide +kernel
theorem dX12_done_170 : decode cX12_done 170 = .ok (.bipush 69, 2) := by decide +kernel
theorem dX12_done_172 : decode cX12_done 172 = .ok (.if_icmp .ge 9, 3) := by decide +kernel
theorem dX12_done_175 : decode cX12_done 175 = .ok (.aload_n 0, 1) := by decide +kernel
theorem dX12_done_176 : decode cX12_done 176 = .ok (.iload_n 1, 1) := by decide +kernel
theorem dX12_done_177 : decode cX12_done 177 = .ok (.invokevirtual 377, 3) := by decide +kernel
theorem dX12_done_180 : decode cX12_done 180 = .ok (.ireturn, 1) := by decide +kernel
theorem dX12_done_181 : decode cX12_done 181 = .ok (.iload_n 1, 1) := by decide +kernel
theorem dX12_done_182 : decode cX12_done 182 = .ok (.bipush 79, 2) := by decide +kernel
theorem dX12_done_184 : decode cX12_done 184 = .ok (.if_icmp .ge 11, 3) := by decide +kernel
theorem dX12_done_187 : decode cX12_done 187 = .ok (.aload_n 0, 1) := by decide +kernel
theorem dX12_done_188 : decode cX12_done 188 = .ok (.iload_n 1, 1) := by decide +kernel
theorem dX12_done_189 : decode cX12_done 189 = .ok (.invokevirtual 380, 3) := by decide +kernel
theorem dX12_done_192 : decode cX12_done 192 = .ok (.goto 8, 3) := by decide +kernel
theorem dX12_done_195 : decode cX12_done 195 = .ok (.aload_n 0, 1) := by decide +kernel
theorem dX12_done_196 : decode cX12_done 196 = .ok (.iload_n 1, 1) := by decide +kernel
theorem dX12_done_197 : decode cX12_done 197 = .ok (.invokevirtual 383, 3) := by decide +kernel
theorem dX12_done_200 : decode cX12_done 200 = .ok (.ireturn, 1) := by decide +kernel
theorem dX12_madeWord_0 : decode cX12_madeWord 0 = .ok (.aload_n 0, 1) := by decide +kernel
theorem dX12_madeWord_1 : decode cX12_madeWord 1 = .ok (.getfield 190, 3) := by decide +kernel
theorem dX12_madeWord_4 : decode cX12_madeWord 4 = .ok (.iload_n 1, 1) := by decide +kernel
theorem dX12_madeWord_5 : decode cX12_madeWord 5 = .ok (.iaload, 1) := by decide +kernel
theorem dX12_madeWord_6 : decode cX12_madeWord 6 = .ok (.iconst 1, 1) := by decide +kernel
theorem dX12_madeWord_7 : decode cX12_madeWord 7 = .ok (.if_icmp .ne 30, 3) := by decide +kernel
theorem dX12_madeWord_10 : decode cX12_madeWord 10 = .ok (.aload_n 0, 1) := by decide +kernel
theorem dX12_madeWord_11 : decode cX12_madeWord 11 = .ok (.getfield 311, 3) := by decide +kernel
theorem dX12_madeWord_14 : decode cX12_madeWord 14 = .ok (.bipush 30, 2) := by decide +kernel
theorem dX12_madeWord_16 : decode cX12_madeWord 16 = .ok (.if_icmp .ne 8, 3) := by decide +kernel
theorem dX12_madeWord_19 : decode cX12_madeWord 19 = .ok (.bipush (-5), 2) := by decide +kernel
theorem dX12_madeWord_21 : decode cX12_madeWord 21 = .ok (.goto 15, 3) := by decide +kernel
theorem dX12_madeWord_24 : decode cX12_madeWord 24 = .ok (.aload_n 0, 1) := by decide +kernel
theorem dX12_madeWord_25 : decode cX12_madeWord 25 = .ok (.aload_n 0, 1) := by decide +kernel
theorem dX12_madeWord_26 : decode cX12_madeWord 26 = .ok (.getfield 187, 3) := by decide +kernel
theorem dX12_madeWord_29 : decode cX12_madeWord 29 = .ok (.iload_n 1, 1) := by decide +kernel
theorem dX12_madeWord_30 : decode cX12_madeWord 30 = .ok (.iaload, 1) := by decide +kernel
theorem dX12_madeWord_31 : decode cX12_madeWord 31 = .ok (.iconst (-1), 1) := by decide +kernel
theorem dX12_madeWord_32 : decode cX12_madeWord 32 = .ok (.iconst (-1), 1) := by decide +kernel
theorem dX12_madeWord_33 : decode cX12_madeWord 33 = .ok (.invokevirtual 386, 3) := by decide +kernel
theorem dX12_madeWord_36 : decode cX12_madeWord 36 = .ok (.ireturn, 1) := by decide +kernel
theorem dX12_madeWord_37 : decode cX12_madeWord 37 = .ok (.aload_n 0, 1) := by decide +kernel
theorem dX12_madeWord_38 : decode cX12_madeWord 38 = .ok (.getfield 293, 3) := by decide +kernel
theorem dX12_madeWord_41 : decode cX12_madeWord 41 = .ok (.bipush 30, 2) := by decide +kernel
theorem dX12_madeWord_43 : decode cX12_madeWord 43 = .ok (.if_icmp .ne 6, 3) := by decide +kernel
theorem dX12_madeWord_46 : decode cX12_madeWord 46 = .ok (.bipush (-3), 2) := by decide +kernel
theorem dX12_madeWord_48 : decode cX12_madeWord 48 = .ok (.ireturn, 1) := by decide +kernel
theorem dX12_madeWord_49 : decode cX12_madeWord 49 = .ok (.aload_n 0, 1) := by decide +kernel
theorem dX12_madeWord_50 : decode cX12_madeWord 50 = .ok (.getfield 190, 3) := by decide +kernel
theorem dX12_madeWord_53 : decode cX12_madeWord 53 = .ok (.iload_n 1, 1) := by decide +kernel
theorem dX12_madeWord_54 : decode cX12_madeWord 54 = .ok (.iaload, 1) := by decide +kernel
theorem dX12_madeWord_55 : decode cX12_madeWord 55 = .ok (.iconst 3, 1) := by decide +kernel
theorem dX12_madeWord_56 : decode cX12_madeWord 56 = .ok (.if_icmp .ne 19, 3) := by decide +kernel
theorem dX12_madeWord_59 : decode cX12_madeWord 59 = .ok (.aload_n 0, 1) := by decide +kernel
theorem dX12_madeWord_60 : decode cX12_madeWord 60 = .ok (.aload_n 0, 1) := by decide +kernel
theorem dX12_madeWord_61 : decode cX12_madeWord 61 = .ok (.getfield 184, 3) := by decide +kernel
theorem dX12_madeWord_64 : decode cX12_madeWord 64 = .ok (.aload_n 0, 1) := by decide +kernel
theorem dX12_madeWord_65 : decode cX12_madeWord 65 = .ok (.getfield 187, 3) := by decide +kernel
theorem dX12_madeWord_68 : decode cX12_madeWord 68 = .ok (.iload_n 1, 1) := by decide +kernel
theorem dX12_madeWord_69 : decode cX12_madeWord 69 = .ok (.iaload, 1) := by decide +kernel
theorem dX12_madeWord_70 : decode cX12_madeWord 70 = .ok (.iaload, 1) := by decide +kernel
theorem dX12_madeWord_71 : decode cX12_madeWord 71 = .ok (.invokevirtual 296, 3) := by decide +kernel
theorem dX12_madeWord_74 : decode cX12_madeWord 74 = .ok (.ireturn, 1) := by decide +kernel
theorem dX12_madeWord_75 : decode cX12_madeWord 75 = .ok (.aload_n 0, 1) := by decide +kernel
theorem dX12_madeWord_76 : decode cX12_madeWord 76 = .ok (.getfield 193, 3) := by decide +kernel
theorem dX12_madeWord_79 : decode cX12_madeWord 79 = .ok (.iload_n 1, 1) := by decide +kernel
theorem dX12_madeWord_80 : decode cX12_madeWord 80 = .ok (.iaload, 1) := by decide +kernel
theorem dX12_madeWord_81 : decode cX12_madeWord 81 = .ok (.ifCond .lt 15, 3) := by decide +kernel
theorem dX12_madeWord_84 : decode cX12_madeWord 84 = .ok (.aload_n 0, 1) := by decide +kernel
theorem dX12_madeWord_85 : decode cX12_madeWord 85 = .ok (.getfield 311, 3) := by decide +kernel
theorem dX12_madeWord_88 : decode cX12_madeWord 88 = .ok (.bipush 30, 2) := by decide +kernel
theorem dX12_madeWord_90 : decode cX12_madeWord 90 = .ok (.if_icmp .ne 6, 3) := by decide +kernel
theorem dX12_madeWord_93 : decode cX12_madeWord 93 = .ok (.bipush (-5), 2) := by decide +kernel
theorem dX12_madeWord_95 : decode cX12_madeWord 95 = .ok (.ireturn, 1) := by decide +kernel
theorem dX12_madeWord_96 : decode cX12_madeWord 96 = .ok (.aload_n 0, 1) := by decide +kernel
theorem dX12_madeWord_97 : decode cX12_madeWord 97 = .ok (.aload_n 0, 1) := by decide +kernel
theorem dX12_madeWord_98 : decode cX12_madeWord 98 = .ok (.getfield 187, 3) := by decide +kernel
theorem dX12_madeWord_101 : decode cX12_madeWord 101 = .ok (.iload_n 1, 1) := by decide +kernel
theorem dX12_madeWord_102 : decode cX12_madeWord 102 = .ok (.iaload, 1) := by decide +kernel
theorem dX12_madeWord_103 : decode cX12_madeWord 103 = .ok (.invokevirtual 296, 3) := by decide +kernel
theorem dX12_madeWord_106 : decode cX12_madeWord 106 = .ok (.pop, 1) := by decide +kernel
theorem dX12_madeWord_107 : decode cX12_madeWord 107 = .ok (.aload_n 0, 1) := by decide +kernel
theorem dX12_madeWord_108 : decode cX12_madeWord 108 = .ok (.getfield 193, 3) := by decide +kernel
theorem dX12_madeWord_111 : decode cX12_madeWord 111 = .ok (.iload_n 1, 1) := by decide +kernel
theorem dX12_madeWord_112 : decode cX12_madeWord 112 = .ok (.iaload, 1) := by decide +kernel
theorem dX12_madeWord_113 : decode cX12_madeWord 113 = .ok (.ifCond .lt 18, 3) := by decide +kernel
theorem dX12_madeWord_116 : decode cX12_madeWord 116 = .ok (.aload_n 0, 1) := by decide +kernel
theorem dX12_madeWord_117 : decode cX12_madeWord 117 = .ok (.aload_n 0, 1) := by decide +kernel
theorem dX12_madeWord_118 : decode cX12_madeWord 118 = .ok (.getfield 193, 3) := by decide +kernel
theorem dX12_madeWord_121 : decode cX12_madeWord 121 = .ok (.iload_n 1, 1) := by decide +kernel
theorem dX12_madeWord_122 : decode cX12_madeWord 122 = .ok (.iaload, 1) := by decide +kernel
theorem dX12_madeWord_123 : decode cX12_madeWord 123 = .ok (.iconst (-1), 1) := by decide +kernel
theorem dX12_madeWord_124 : decode cX12_madeWord 124 = .ok (.iconst (-1), 1) := by decide +kernel
theorem dX12_madeWord_125 : decode cX12_madeWord 125 = .ok (.invokevirtual 386, 3) := by decide +kernel
theorem dX12_madeWord_128 : decode cX12_madeWord 128 = .ok (.goto 4, 3) := by decide +kernel
theorem dX12_madeWord_131 : decode cX12_madeWord 131 = .ok (.iconst 0, 1) := by decide +kernel
theorem dX12_madeWord_132 : decode cX12_madeWord 132 = .ok (.ireturn, 1) := by decide +kernel
theorem dX12_inner_0 : decode cX12_inner 0 = .ok (.aload_n 0, 1) := by decide +kernel
theorem dX12_inner_1 : decode cX12_inner 1 = .ok (.getfield 311, 3) := by decide +kernel
theorem dX12_inner_4 : decode cX12_inner 4 = .ok (.iconst 1, 1) := by decide +kernel
theorem dX12_inner_5 : decode cX12_inner 5 = .ok (.isub, 1) := by decide +kernel
theorem dX12_inner_6 : decode cX12_inner 6 = .ok (.istore_n 2, 1) := by decide +kernel
theorem dX12_inner_7 : decode cX12_inner 7 = .ok (.aload_n 0, 1) := by decide +kernel
theorem dX12_inner_8 : decode cX12_inner 8 = .ok (.getfield 175, 3) := by decide +kernel
theorem dX12_inner_11 : decode cX12_inner 11 = .ok (.iload_n 2, 1) := by decide +kernel
theorem dX12_inner_12 : decode cX12_inner 12 = .ok (.iaload, 1) := by decide +kernel
theorem dX12_inner_13 : decode cX12_inner 13 = .ok (.istore_n 3, 1) := by decide +kernel
theorem dX12_inner_14 : decode cX12_inner 14 = .ok (.iload_n 1, 1) := by decide +kernel
theorem dX12_inner_15 : decode cX12_inner 15 = .ok (.ifCond .ne 15, 3) := by decide +kernel
theorem dX12_inner_18 : decode cX12_inner 18 = .ok (.aload_n 0, 1) := by decide +kernel
theorem dX12_inner_19 : decode cX12_inner 19 = .ok (.dup, 1) := by decide +kernel
theorem dX12_inner_20 : decode cX12_inner 20 = .ok (.getfield 311, 3) := by decide +kernel
theorem dX12_inner_23 : decode cX12_inner 23 = .ok (.iconst 1, 1) := by decide +kernel
theorem dX12_inner_24 : decode cX12_inner 24 = .ok (.isub, 1) := by decide +kernel
theorem dX12_inner_25 : decode cX12_inner 25 = .ok (.putfield 311, 3) := by decide +kernel
theorem dX12_inner_28 : decode cX12_inner 28 = .ok (.iconst 0, 1) := by decide +kernel
theorem dX12_inner_29 : decode cX12_inner 29 = .ok (.ireturn, 1) := by decide +kernel
theorem dX12_inner_30 : decode cX12_inner 30 = .ok (.iload_n 1, 1) := by decide +kernel
theorem dX12_inner_31 : decode cX12_inner 31 = .ok (.iconst 4, 1) := by decide +kernel
theorem dX12_inner_32 : decode cX12_inner 32 = .ok (.if_icmp .ne 55, 3) := by decide +kernel
theorem dX12_inner_35 : decode cX12_inner 35 = .ok (.aload_n 0, 1) := by decide +kernel
theorem dX12_inner_36 : decode cX12_inner 36 = .ok (.getfield 335, 3) := by decide +kernel
theorem dX12_inner_39 : decode cX12_inner 39 = .ok (.bipush 28, 2) := by decide +kernel
theorem dX12_inner_41 : decode cX12_inner 41 = .ok (.if_icmp .le 6, 3) := by decide +kernel
theorem dX12_inner_44 : decode cX12_inner 44 = .ok (.bipush (-5), 2) := by decide +kernel
theorem dX12_inner_46 : decode cX12_inner 46 = .ok (.ireturn, 1) := by decide +kernel
theorem dX12_inner_47 : decode cX12_inner 47 = .ok (.aload_n 0, 1) := by decide +kernel
theorem dX12_inner_48 : decode cX12_inner 48 = .ok (.getfield 172, 3) := by decide +kernel
theorem dX12_inner_51 : decode cX12_inner 51 = .ok (.aload_n 0, 1) := by decide +kernel
theorem dX12_inner_52 : decode cX12_inner 52 = .ok (.getfield 335, 3) := by decide +kernel
theorem dX12_inner_55 : decode cX12_inner 55 = .ok (.iconst 1, 1) := by decide +kernel
theorem dX12_inner_56 : decode cX12_inner 56 = .ok (.iadd, 1) := by decide +kernel
theorem dX12_inner_57 : decode cX12_inner 57 = .ok (.aload_n 0, 1) := by decide +kernel
theorem dX12_inner_58 : decode cX12_inner 58 = .ok (.invokevirtual 390, 3) := by decide +kernel
theorem dX12_inner_61 : decode cX12_inner 61 = .ok (.iastore, 1) := by decide +kernel
theorem dX12_inner_62 : decode cX12_inner 62 = .ok (.aload_n 0, 1) := by decide +kernel
theorem dX12_inner_63 : decode cX12_inner 63 = .ok (.getfield 172, 3) := by decide +kernel
theorem dX12_inner_66 : decode cX12_inner 66 = .ok (.aload_n 0, 1) := by decide +kernel
theorem dX12_inner_67 : decode cX12_inner 67 = .ok (.getfield 335, 3) := by decide +kernel
theorem dX12_inner_70 : decode cX12_inner 70 = .ok (.aload_n 0, 1) := by decide +kernel
theorem dX12_inner_71 : decode cX12_inner 71 = .ok (.invokevirtual 390, 3) := by decide +kernel
theorem dX12_inner_74 : decode cX12_inner 74 = .ok (.iastore, 1) := by decide +kernel
theorem dX12_inner_75 : decode cX12_inner 75 = .ok (.aload_n 0, 1) := by decide +kernel
theorem dX12_inner_76 : decode cX12_inner 76 = .ok (.dup, 1) := by decide +kernel
theorem dX12_inner_77 : decode cX12_inner 77 = .ok (.getfield 335, 3) := by decide +kernel
theorem dX12_inner_80 : decode cX12_inner 80 = .ok (.iconst 2, 1) := by decide +kernel
theorem dX12_inner_81 : decode cX12_inner 81 = .ok (.iadd, 1) := by decide +kernel
theorem dX12_inner_82 : decode cX12_inner 82 = .ok (.putfield 335, 3) := by decide +kernel
theorem dX12_inner_85 : decode cX12_inner 85 = .ok (.iconst 0, 1) := by decide +kernel
theorem dX12_inner_86 : decode cX12_inner 86 = .ok (.ireturn, 1) := by decide +kernel
theorem dX12_inner_87 : decode cX12_inner 87 = .ok (.iload_n 1, 1) := by decide +kernel
theorem dX12_inner_88 : decode cX12_inner 88 = .ok (.bipush 7, 2) := by decide +kernel
theorem dX12_inner_90 : decode cX12_inner 90 = .ok (.if_icmp .ne 52, 3) := by decide +kernel
theorem dX12_inner_93 : decode cX12_inner 93 = .ok (.aload_n 0, 1) := by decide +kernel
theorem dX12_inner_94 : decode cX12_inner 94 = .ok (.getfield 239, 3) := by decide +kernel
theorem dX12_inner_97 : decode cX12_inner 97 = .ok (.ifCond .eq 18, 3) := by decide +kernel
theorem dX12_inner_100 : decode cX12_inner 100 = .ok (.aload_n 0, 1) := by decide +kernel
theorem dX12_inner_101 : decode cX12_inner 101 = .ok (.getfield 190, 3) := by decide +kernel
theorem dX12_inner_104 : decode cX12_inner 104 = .ok (.aload_n 0, 1) := by decide +kernel
theorem dX12_inner_105 : decode cX12_inner 105 = .ok (.getfield 239, 3) := by decide +kernel
theorem dX12_inner_108 : decode cX12_inner 108 = .ok (.iconst 1, 1) := by decide +kernel
theorem dX12_inner_109 : decode cX12_inner 109 = .ok (.isub, 1) := by decide +kernel
theorem dX12_inner_110 : decode cX12_inner 110 = .ok (.iaload, 1) := by decide +kernel
theorem dX12_inner_111 : decode cX12_inner 111 = .ok (.iconst 2, 1) := by decide +kernel
theorem dX12_inner_112 : decode cX12_inner 112 = .ok (.if_icmp .eq 6, 3) := by decide +kernel
theorem dX12_inner_115 : decode cX12_inner 115 = .ok (.bipush (-32), 2) := by decide +kernel
theorem dX12_inner_117 : decode cX12_inner 117 = .ok (.ireturn, 1) := by decide +kernel
theorem dX12_inner_118 : decode cX12_inner 118 = .ok (.aload_n 0, 1) := by decide +kernel
theorem dX12_inner_119 : decode cX12_inner 119 = .ok (.getfield 193, 3) := by decide +kernel
theorem dX12_inner_122 : decode cX12_inner 122 = .ok (.aload_n 0, 1) := by decide +kernel
theorem dX12_inner_123 : decode cX12_inner 123 = .ok (.getfield 239, 3) := by decide +kernel
theorem dX12_inner_126 : decode cX12_inner 126 = .ok (.iconst 1, 1) := by decide +kernel
theorem dX12_inner_127 : decode cX12_inner 127 = .ok (.isub, 1) := by decide +kernel
theorem dX12_inner_128 : decode cX12_inner 128 = .ok (.iload_n 3, 1) := by decide +kernel
theorem dX12_inner_129 : decode cX12_inner 129 = .ok (.iastore, 1) := by decide +kernel
theorem dX12_inner_130 : decode cX12_inner 130 = .ok (.aload_n 0, 1) := by decide +kernel
theorem dX12_inner_131 : decode cX12_inner 131 = .ok (.dup, 1) := by decide +kernel
theorem dX12_inner_132 : decode cX12_inner 132 = .ok (.getfield 311, 3) := by decide +kernel
theorem dX12_inner_135 : decode cX12_inner 135 = .ok (.iconst 1, 1) := by decide +kernel
theorem dX12_inner_136 : decode cX12_inner 136 = .ok (.isub, 1) := by decide +kernel
theorem dX12_inner_137 : decode cX12_inner 137 = .ok (.putfield 311, 3) := by decide +kernel
theorem dX12_inner_140 : decode cX12_inner 140 = .ok (.iconst 0, 1) := by decide +kernel
theorem dX12_inner_141 : decode cX12_inner 141 = .ok (.ireturn, 1) := by decide +kernel
theorem dX12_inner_142 : decode cX12_inner 142 = .ok (.iload_n 3, 1) := by decide +kernel
theorem dX12_inner_143 : decode cX12_inner 143 = .ok (.ifCond .lt 10, 3) := by decide +kernel
theorem dX12_inner_146 : decode cX12_inner 146 = .ok (.iload_n 3, 1) := by decide +kernel
theorem dX12_inner_147 : decode cX12_inner 147 = .ok (.sipush 400, 3) := by decide +kernel
theorem dX12_inner_150 : decode cX12_inner 150 = .ok (.if_icmp .lt 6, 3) := by decide +kernel
theorem dX12_inner_153 : decode cX12_inner 153 = .ok (.bipush (-9), 2) := by decide +kernel
theorem dX12_inner_155 : decode cX12_inner 155 = .ok (.ireturn, 1) := by decide +kernel
theorem dX12_inner_156 : decode cX12_inner 156 = .ok (.iconst 0, 1) := by decide +kernel
theorem dX12_inner_157 : decode cX12_inner 157 = .ok (.istore 4, 2) := by decide +kernel
theorem dX12_inner_159 : decode cX12_inner 159 = .ok (.iload_n 1, 1) := by decide +kernel
theorem dX12_inner_160 : decode cX12_inner 160 = .ok (.tableswitch 108 1 6 #[40, 108, 69, 108, 86, 86], 40) := by decide +kernel
theorem dX12_inner_200 : decode cX12_inner 200 = .ok (.aload_n 0, 1) := by decide +kernel
theorem dX12_inner_201 : decode cX12_inner 201 = .ok (.getfield 293, 3) := by decide +kernel
theorem dX12_inner_204 : decode cX12_inner 204 = .ok (.bipush 30, 2) := by decide +kernel
theorem dX12_inner_206 : decode cX12_inner 206 = .ok (.if_icmp .ne 6, 3) := by decide +kernel
theorem dX12_inner_209 : decode cX12_inner 209 = .ok (.bipush (-3), 2) := by decide +kernel
theorem dX12_inner_211 : decode cX12_inner 211 = .ok (.ireturn, 1) := by decide +kernel
theorem dX12_inner_212 : decode cX12_inner 212 = .ok (.aload_n 0, 1) := by decide +kernel
theorem dX12_inner_213 : decode cX12_inner 213 = .ok (.aload_n 0, 1) := by decide +kernel
theorem dX12_inner_214 : decode cX12_inner 214 = .ok (.getfield 184, 3) := by decide +kernel
theorem dX12_inner_217 : decode cX12_inner 217 = .ok (.iload_n 3, 1) := by decide +kernel
theorem dX12_inner_218 : decode cX12_inner 218 = .ok (.iaload, 1) := by decide +kernel
theorem dX12_inner_219 : decode cX12_inner 219 = .ok (.invokevirtual 296, 3) := by decide +kernel
theorem dX12_inner_222 : decode cX12_inner 222 = .ok (.pop, 1) := by decide +kernel
theorem dX12_inner_223 : decode cX12_inner 223 = .ok (.iconst 1, 1) := by decide +kernel
theorem dX12_inner_224 : decode cX12_inner 224 = .ok (.istore 4, 2) := by decide +kernel
theorem dX12_inner_226 : decode cX12_inner 226 = .ok (.goto 42, 3) := by decide +kernel
theorem dX12_inner_229 : decode cX12_inner 229 = .ok (.aload_n 0, 1) := by decide +kernel
theorem dX12_inner_230 : decode cX12_inner 230 = .ok (.invokevirtual 390, 3) := by decide +kernel
theorem dX12_inner_233 : decode cX12_inner 233 = .ok (.ifCond .eq 7, 3) := by decide +kernel
theorem dX12_inner_236 : decode cX12_inner 236 = .ok (.iconst 1, 1) := by decide +kernel
theorem dX12_inner_237 : decode cX12_inner 237 = .ok (.goto 4, 3) := by decide +kernel
theorem dX12_inner_240 : decode cX12_inner 240 = .ok (.iconst 0, 1) := by decide +kernel
theorem dX12_inner_241 : decode cX12_inner 241 = .ok (.istore 4, 2) := by decide +kernel
theorem dX12_inner_243 : decode cX12_inner 243 = .ok (.goto 25, 3) := by decide +kernel
theorem dX12_inner_246 : decode cX12_inner 246 = .ok (.aload_n 0, 1) := by decide +kernel
theorem dX12_inner_247 : decode cX12_inner 247 = .ok (.iload_n 1, 1) := by decide +kernel
theorem dX12_inner_248 : decode cX12_inner 248 = .ok (.iconst 5, 1) := by decide +kernel
theorem dX12_inner_249 : decode cX12_inner 249 = .ok (.if_icmp .ne 7, 3) := by decide +kernel
theorem dX12_inner_252 : decode cX12_inner 252 = .ok (.iconst 1, 1) := by decide +kernel
theorem dX12_inner_253 : decode cX12_inner 253 = .ok (.goto 7, 3) := by decide +kernel
theorem dX12_inner_256 : decode cX12_inner 256 = .ok (.aload_n 0, 1) := by decide +kernel
theorem dX12_inner_257 : decode cX12_inner 257 = .ok (.invokevirtual 390, 3) := by decide +kernel
theorem dX12_inner_260 : decode cX12_inner 260 = .ok (.invokevirtual 393, 3) := by decide +kernel
theorem dX12_inner_263 : decode cX12_inner 263 = .ok (.istore 4, 2) := by decide +kernel
theorem dX12_inner_265 : decode cX12_inner 265 = .ok (.goto 3, 3) := by decide +kernel
theorem dX12_inner_268 : decode cX12_inner 268 = .ok (.aload_n 0, 1) := by decide +kernel
theorem dX12_inner_269 : decode cX12_inner 269 = .ok (.getfield 175, 3) := by decide +kernel
theorem dX12_inner_272 : decode cX12_inner 272 = .ok (.iload_n 2, 1) := by decide +kernel
theorem dX12_inner_273 : decode cX12_inner 273 = .ok (.iload 4, 2) := by decide +kernel
theorem dX12_inner_275 : decode cX12_inner 275 = .ok (.ifCond .eq 9, 3) := by decide +kernel
theorem dX12_inner_278 : decode cX12_inner 278 = .ok (.iload_n 3, 1) := by decide +kernel
theorem dX12_inner_279 : decode cX12_inner 279 = .ok (.iconst 1, 1) := by decide +kernel
theorem dX12_inner_280 : decode cX12_inner 280 = .ok (.iadd, 1) := by decide +kernel
theorem dX12_inner_281 : decode cX12_inner 281 = .ok (.goto 9, 3) := by decide +kernel
theorem dX12_inner_284 : decode cX12_inner 284 = .ok (.aload_n 0, 1) := by decide +kernel
theorem dX12_inner_285 : decode cX12_inner 285 = .ok (.getfield 184, 3) := by decide +kernel
theorem dX12_inner_288 : decode cX12_inner 288 = .ok (.iload_n 3, 1) := by decide +kernel
theorem dX12_inner_289 : decode cX12_inner 289 = .ok (.iaload, 1) := by decide +kernel
theorem dX12_inner_290 : decode cX12_inner 290 = .ok (.iastore, 1) := by decide +kernel
theorem dX12_inner_291 : decode cX12_inner 291 = .ok (.iconst 0, 1) := by decide +kernel
theorem dX12_inner_292 : decode cX12_inner 292 = .ok (.ireturn, 1) := by decide +kernel
theorem dX12_turns_0 : decode cX12_turns 0 = .ok (.aload_n 0, 1) := by decide +kernel
theorem dX12_turns_1 : decode cX12_turns 1 = .ok (.getfield 172, 3) := by decide +kernel
theorem dX12_turns_4 : decode cX12_turns 4 = .ok (.aload_n 0, 1) := by decide +kernel
theorem dX12_turns_5 : decode cX12_turns 5 = .ok (.getfield 335, 3) := by decide +kernel
theorem dX12_turns_8 : decode cX12_turns 8 = .ok (.iconst 1, 1) := by decide +kernel
theorem dX12_turns_9 : decode cX12_turns 9 = .ok (.isub, 1) := by decide +kernel
theorem dX12_turns_10 : decode cX12_turns 10 = .ok (.iaload, 1) := by decide +kernel
theorem dX12_turns_11 : decode cX12_turns 11 = .ok (.aload_n 0, 1) := by decide +kernel
theorem dX12_turns_12 : decode cX12_turns 12 = .ok (.getfield 172, 3) := by decide +kernel
theorem dX12_turns_15 : decode cX12_turns 15 = .ok (.aload_n 0, 1) := by decide +kernel
theorem dX12_turns_16 : decode cX12_turns 16 = .ok (.getfield 335, 3) := by decide +kernel
theorem dX12_turns_19 : decode cX12_turns 19 = .ok (.iconst 2, 1) := by decide +kernel
theorem dX12_turns_20 : decode cX12_turns 20 = .ok (.isub, 1) := by decide +kernel
theorem dX12_turns_21 : decode cX12_turns 21 = .ok (.iaload, 1) := by decide +kernel
theorem dX12_turns_22 : decode cX12_turns 22 = .ok (.isub, 1) := by decide +kernel
theorem dX12_turns_23 : decode cX12_turns 23 = .ok (.istore_n 2, 1) := by decide +kernel
theorem dX12_turns_24 : decode cX12_turns 24 = .ok (.iload_n 2, 1) := by decide +kernel
theorem dX12_turns_25 : decode cX12_turns 25 = .ok (.iload_n 1, 1) := by decide +kernel
theorem dX12_turns_26 : decode cX12_turns 26 = .ok (.iadd, 1) := by decide +kernel
theorem dX12_turns_27 : decode cX12_turns 27 = .ok (.istore_n 3, 1) := by decide +kernel
theorem dX12_turns_28 : decode cX12_turns 28 = .ok (.aload_n 0, 1) := by decide +kernel
theorem dX12_turns_29 : decode cX12_turns 29 = .ok (.getfield 172, 3) := by decide +kernel
theorem dX12_turns_32 : decode cX12_turns 32 = .ok (.aload_n 0, 1) := by decide +kernel
theorem dX12_turns_33 : decode cX12_turns 33 = .ok (.getfield 335, 3) := by decide +kernel
theorem dX12_turns_36 : decode cX12_turns 36 = .ok (.iconst 1, 1) := by decide +kernel
theorem dX12_turns_37 : decode cX12_turns 37 = .ok (.isub, 1) := by decide +kernel
theorem dX12_turns_38 : decode cX12_turns 38 = .ok (.dup2, 1) := by decide +kernel
theorem dX12_turns_39 : decode cX12_turns 39 = .ok (.iaload, 1) := by decide +kernel
theorem dX12_turns_40 : decode cX12_turns 40 = .ok (.iload_n 1, 1) := by decide +kernel
theorem dX12_turns_41 : decode cX12_turns 41 = .ok (.iadd, 1) := by decide +kernel
theorem dX12_turns_42 : decode cX12_turns 42 = .ok (.iastore, 1) := by decide +kernel
theorem dX12_turns_43 : decode cX12_turns 43 = .ok (.iload_n 2, 1) := by decide +kernel
theorem dX12_turns_44 : decode cX12_turns 44 = .ok (.ifCond .ge 7, 3) := by decide +kernel
theorem dX12_turns_47 : decode cX12_turns 47 = .ok (.iconst 1, 1) := by decide +kernel
theorem dX12_turns_48 : decode cX12_turns 48 = .ok (.goto 4, 3) := by decide +kernel
theorem dX12_turns_51 : decode cX12_turns 51 = .ok (.iconst 0, 1) := by decide +kernel
theorem dX12_turns_52 : decode cX12_turns 52 = .ok (.iload_n 3, 1) := by decide +kernel
theorem dX12_turns_53 : decode cX12_turns 53 = .ok (.ifCond .ge 7, 3) := by decide +kernel
theorem dX12_turns_56 : decode cX12_turns 56 = .ok (.iconst 1, 1) := by decide +kernel
theorem dX12_turns_57 : decode cX12_turns 57 = .ok (.goto 4, 3) := by decide +kernel
theorem dX12_turns_60 : decode cX12_turns 60 = .ok (.iconst 0, 1) := by decide +kernel
theorem dX12_turns_61 : decode cX12_turns 61 = .ok (.if_icmp .eq 7, 3) := by decide +kernel
theorem dX12_turns_64 : decode cX12_turns 64 = .ok (.iconst 1, 1) := by decide +kernel
theorem dX12_turns_65 : decode cX12_turns 65 = .ok (.goto 4, 3) := by decide +kernel
theorem dX12_turns_68 : decode cX12_turns 68 = .ok (.iconst 0, 1) := by decide +kernel
theorem dX12_turns_69 : decode cX12_turns 69 = .ok (.istore 4, 2) := by decide +kernel
theorem dX12_turns_71 : decode cX12_turns 71 = .ok (.iload 4, 2) := by decide +kernel
theorem dX12_turns_73 : decode cX12_turns 73 = .ok (.ifCond .eq 13, 3) := by decide +kernel
theorem dX12_turns_76 : decode cX12_turns 76 = .ok (.aload_n 0, 1) := by decide +kernel
theorem dX12_turns_77 : decode cX12_turns 77 = .ok (.dup, 1) := by decide +kernel
theorem dX12_turns_78 : decode cX12_turns 78 = .ok (.getfield 335, 3) := by decide +kernel
theorem dX12_turns_81 : decode cX12_turns 81 = .ok (.iconst 2, 1) := by decide +kernel
theorem dX12_turns_82 : decode cX12_turns 82 = .ok (.isub, 1) := by decide +kernel
theorem dX12_turns_83 : decode cX12_turns 83 = .ok (.putfield 335, 3) := by decide +kernel
theorem dX12_turns_86 : decode cX12_turns 86 = .ok (.iload 4, 2) := by decide +kernel
theorem dX12_turns_88 : decode cX12_turns 88 = .ok (.ireturn, 1) := by decide +kernel
theorem dX12_moves_0 : decode cX12_moves 0 = .ok (.aload_n 0, 1) := by decide +kernel
theorem dX12_moves_1 : decode cX12_moves 1 = .ok (.getfield 293, 3) := by decide +kernel
theorem dX12_moves_4 : decode cX12_moves 4 = .ok (.iconst 1, 1) := by decide +kernel
theorem dX12_moves_5 : decode cX12_moves 5 = .ok (.isub, 1) := by decide +kernel
theorem dX12_moves_6 : decode cX12_moves 6 = .ok (.istore_n 2, 1) := by decide +kernel
theorem dX12_moves_7 : decode cX12_moves 7 = .ok (.aload_n 0, 1) := by decide +kernel
theorem dX12_moves_8 : decode cX12_moves 8 = .ok (.getfield 293, 3) := by decide +kernel
theorem dX12_moves_11 : decode cX12_moves 11 = .ok (.bipush 30, 2) := by decide +kernel
theorem dX12_moves_13 : decode cX12_moves 13 = .ok (.if_icmp .ne 7, 3) := by decide +kernel
theorem dX12_moves_16 : decode cX12_moves 16 = .ok (.iconst 1, 1) := by decide +kernel
theorem dX12_moves_17 : decode cX12_moves 17 = .ok (.goto 4, 3) := by decide +kernel
theorem dX12_moves_20 : decode cX12_moves 20 = .ok (.iconst 0, 1) := by decide +kernel
theorem dX12_moves_21 : decode cX12_moves 21 = .ok (.istore_n 3, 1) := by decide +kernel
theorem dX12_moves_22 : decode cX12_moves 22 = .ok (.iload_n 1, 1) := by decide +kernel
theorem dX12_moves_23 : decode cX12_moves 23 = .ok (.tableswitch 252 8 16 #[49, 69, 81, 90, 112, 132, 158, 189, 207], 49) := by decide +kernel
theorem dX12_moves_72 : decode cX12_moves 72 = .ok (.iload_n 3, 1) := by decide +kernel
theorem dX12_moves_73 : decode cX12_moves 73 = .ok (.ifCond .eq 8, 3) := by decide +kernel
theorem dX12_moves_76 : decode cX12_moves 76 = .ok (.bipush (-3), 2) := by decide +kernel
theorem dX12_moves_78 : decode cX12_moves 78 = .ok (.goto 13, 3) := by decide +kernel
theorem dX12_moves_81 : decode cX12_moves 81 = .ok (.aload_n 0, 1) := by decide +kernel
theorem dX12_moves_82 : decode cX12_moves 82 = .ok (.aload_n 0, 1) := by decide +kernel
theorem dX12_moves_83 : decode cX12_moves 83 = .ok (.getfield 169, 3) := by decide +kernel
theorem dX12_moves_86 : decode cX12_moves 86 = .ok (.iload_n 2, 1) := by decide +kernel
theorem dX12_moves_87 : decode cX12_moves 87 = .ok (.iaload, 1) := by decide +kernel
theorem dX12_moves_88 : decode cX12_moves 88 = .ok (.invokevirtual 296, 3) := by decide +kernel
theorem dX12_moves_91 : decode cX12_moves 91 = .ok (.ireturn, 1) := by decide +kernel
theorem dX12_moves_92 : decode cX12_moves 92 = .ok (.aload_n 0, 1) := by decide +kernel
theorem dX12_moves_93 : decode cX12_moves 93 = .ok (.dup, 1) := by decide +kernel
theorem dX12_moves_94 : decode cX12_moves 94 = .ok (.getfield 293, 3) := by decide +kernel
theorem dX12_moves_97 : decode cX12_moves 97 = .ok (.iconst 1, 1) := by decide +kernel
theorem dX12_moves_98 : decode cX12_moves 98 = .ok (.isub, 1) := by decide +kernel
theorem dX12_moves_99 : decode cX12_moves 99 = .ok (.putfield 293, 3) := by decide +kernel
theorem dX12_moves_102 : decode cX12_moves 102 = .ok (.iconst 0, 1) := by decide +kernel
theorem dX12_moves_103 : decode cX12_moves 103 = .ok (.ireturn, 1) := by decide +kernel
theorem dX12_moves_104 : decode cX12_moves 104 = .ok (.aload_n 0, 1) := by decide +kernel
theorem dX12_moves_105 : decode cX12_moves 105 = .ok (.iload_n 2, 1) := by decide +kernel
theorem dX12_moves_106 : decode cX12_moves 106 = .ok (.iconst 1, 1) := by decide +kernel
theorem dX12_moves_107 : decode cX12_moves 107 = .ok (.isub, 1) := by decide +kernel
theorem dX12_moves_108 : decode cX12_moves 108 = .ok (.iload_n 2, 1) := by decide +kernel
theorem dX12_moves_109 : decode cX12_moves 109 = .ok (.invokevirtual 396, 3) := by decide +kernel
theorem dX12_moves_112 : decode cX12_moves 112 = .ok (.ireturn, 1) := by decide +kernel
theorem dX12_moves_113 : decode cX12_moves 113 = .ok (.iload_n 3, 1) := by decide +kernel
theorem dX12_moves_114 : decode cX12_moves 114 = .ok (.ifCond .eq 8, 3) := by decide +kernel
theorem dX12_moves_117 : decode cX12_moves 117 = .ok (.bipush (-3), 2) := by decide +kernel
theorem dX12_moves_119 : decode cX12_moves 119 = .ok (.goto 15, 3) := by decide +kernel
theorem dX12_moves_122 : decode cX12_moves 122 = .ok (.aload_n 0, 1) := by decide +kernel
theorem dX12_moves_123 : decode cX12_moves 123 = .ok (.aload_n 0, 1) := by decide +kernel
theorem dX12_moves_124 : decode cX12_moves 124 = .ok (.getfield 169, 3) := by decide +kernel
theorem dX12_moves_127 : decode cX12_moves 127 = .ok (.iload_n 2, 1) := by decide +kernel
theorem dX12_moves_128 : decode cX12_moves 128 = .ok (.iconst 1, 1) := by decide +kernel
theorem dX12_moves_129 : decode cX12_moves 129 = .ok (.isub, 1) := by decide +kernel
theorem dX12_moves_130 : decode cX12_moves 130 = .ok (.iaload, 1) := by decide +kernel
theorem dX12_moves_131 : decode cX12_moves 131 = .ok (.invokevirtual 296, 3) := by decide +kernel
theorem dX12_moves_134 : decode cX12_moves 134 = .ok (.ireturn, 1) := by decide +kernel
theorem dX12_moves_135 : decode cX12_moves 135 = .ok (.aload_n 0, 1) := by decide +kernel
theorem dX12_moves_136 : decode cX12_moves 136 = .ok (.iload_n 2, 1) := by decide +kernel
theorem dX12_moves_137 : decode cX12_moves 137 = .ok (.iconst 2, 1) := by decide +kernel
theorem dX12_moves_138 : decode cX12_moves 138 = .ok (.isub, 1) := by decide +kernel
theorem dX12_moves_139 : decode cX12_moves 139 = .ok (.iload_n 2, 1) := by decide +kernel
theorem dX12_moves_140 : decode cX12_moves 140 = .ok (.iconst 1, 1) := by decide +kernel
theorem dX12_moves_141 : decode cX12_moves 141 = .ok (.isub, 1) := by decide +kernel
theorem dX12_moves_142 : decode cX12_moves 142 = .ok (.invokevirtual 396, 3) := by decide +kernel
theorem dX12_moves_145 : decode cX12_moves 145 = .ok (.pop, 1) := by decide +kernel
theorem dX12_moves_146 : decode cX12_moves 146 = .ok (.aload_n 0, 1) := by decide +kernel
theorem dX12_moves_147 : decode cX12_moves 147 = .ok (.iload_n 2, 1) := by decide +kernel
theorem dX12_moves_148 : decode cX12_moves 148 = .ok (.iconst 1, 1) := by decide +kernel
theorem dX12_moves_149 : decode cX12_moves 149 = .ok (.isub, 1) := by decide +kernel
theorem dX12_moves_150 : decode cX12_moves 150 = .ok (.iload_n 2, 1) := by decide +kernel
theorem dX12_moves_151 : decode cX12_moves 151 = .ok (.invokevirtual 396, 3) := by decide +kernel
theorem dX12_moves_154 : decode cX12_moves 154 = .ok (.ireturn, 1) := by decide +kernel
theorem dX12_moves_155 : decode cX12_moves 155 = .ok (.aload_n 0, 1) := by decide +kernel
theorem dX12_moves_156 : decode cX12_moves 156 = .ok (.getfield 169, 3) := by decide +kernel
theorem dX12_moves_159 : decode cX12_moves 159 = .ok (.iload_n 2, 1) := by decide +kernel
theorem dX12_moves_160 : decode cX12_moves 160 = .ok (.iconst 1, 1) := by decide +kernel
theorem dX12_moves_161 : decode cX12_moves 161 = .ok (.isub, 1) := by decide +kernel
theorem dX12_moves_162 : decode cX12_moves 162 = .ok (.aload_n 0, 1) := by decide +kernel
theorem dX12_moves_163 : decode cX12_moves 163 = .ok (.getfield 169, 3) := by decide +kernel
theorem dX12_moves_166 : decode cX12_moves 166 = .ok (.iload_n 2, 1) := by decide +kernel
theorem dX12_moves_167 : decode cX12_moves 167 = .ok (.iaload, 1) := by decide +kernel
theorem dX12_moves_168 : decode cX12_moves 168 = .ok (.iastore, 1) := by decide +kernel
theorem dX12_moves_169 : decode cX12_moves 169 = .ok (.aload_n 0, 1) := by decide +kernel
theorem dX12_moves_170 : decode cX12_moves 170 = .ok (.dup, 1) := by decide +kernel
theorem dX12_moves_171 : decode cX12_moves 171 = .ok (.getfield 293, 3) := by decide +kernel
theorem dX12_moves_174 : decode cX12_moves 174 = .ok (.iconst 1, 1) := by decide +kernel
theorem dX12_moves_175 : decode cX12_moves 175 = .ok (.isub, 1) := by decide +kernel
theorem dX12_moves_176 : decode cX12_moves 176 = .ok (.putfield 293, 3) := by decide +kernel
theorem dX12_moves_179 : decode cX12_moves 179 = .ok (.iconst 0, 1) := by decide +kernel
theorem dX12_moves_180 : decode cX12_moves 180 = .ok (.ireturn, 1) := by decide +kernel
theorem dX12_moves_181 : decode cX12_moves 181 = .ok (.aload_n 0, 1) := by decide +kernel
theorem dX12_moves_182 : decode cX12_moves 182 = .ok (.getfield 169, 3) := by decide +kernel
theorem dX12_moves_185 : decode cX12_moves 185 = .ok (.iload_n 2, 1) := by decide +kernel
theorem dX12_moves_186 : decode cX12_moves 186 = .ok (.iaload, 1) := by decide +kernel
theorem dX12_moves_187 : decode cX12_moves 187 = .ok (.ifCond .ne 5, 3) := by decide +kernel
theorem dX12_moves_190 : decode cX12_moves 190 = .ok (.iconst 0, 1) := by decide +kernel
theorem dX12_moves_191 : decode cX12_moves 191 = .ok (.ireturn, 1) := by decide +kernel
theorem dX12_moves_192 : decode cX12_moves 192 = .ok (.iload_n 3, 1) := by decide +kernel
theorem dX12_moves_193 : decode cX12_moves 193 = .ok (.ifCond .eq 8, 3) := by decide +kernel
theorem dX12_moves_196 : decode cX12_moves 196 = .ok (.bipush (-3), 2) := by decide +kernel
theorem dX12_moves_198 : decode cX12_moves 198 = .ok (.goto 13, 3) := by decide +kernel
theorem dX12_moves_201 : decode cX12_moves 201 = .ok (.aload_n 0, 1) := by decide +kernel
theorem dX12_moves_202 : decode cX12_moves 202 = .ok (.aload_n 0, 1) := by decide +kernel
theorem dX12_moves_203 : decode cX12_moves 203 = .ok (.getfield 169, 3) := by decide +kernel
theorem dX12_moves_206 : decode cX12_moves 206 = .ok (.iload_n 2, 1) := by decide +kernel
theorem dX12_moves_207 : decode cX12_moves 207 = .ok (.iaload, 1) := by decide +kernel
theorem dX12_moves_208 : decode cX12_moves 208 = .ok (.invokevirtual 296, 3) := by decide +kernel
theorem dX12_moves_211 : decode cX12_moves 211 = .ok (.ireturn, 1) := by decide +kernel
theorem dX12_moves_212 : decode cX12_moves 212 = .ok (.iload_n 3, 1) := by decide +kernel
theorem dX12_moves_213 : decode cX12_moves 213 = .ok (.ifCond .eq 8, 3) := by decide +kernel
theorem dX12_moves_216 : decode cX12_moves 216 = .ok (.bipush (-3), 2) := by decide +kernel
theorem dX12_moves_218 : decode cX12_moves 218 = .ok (.goto 11, 3) := by decide +kernel
theorem dX12_moves_221 : decode cX12_moves 221 = .ok (.aload_n 0, 1) := by decide +kernel
theorem dX12_moves_222 : decode cX12_moves 222 = .ok (.aload_n 0, 1) := by decide +kernel
theorem dX12_moves_223 : decode cX12_moves 223 = .ok (.getfield 293, 3) := by decide +kernel
theorem dX12_moves_226 : decode cX12_moves 226 = .ok (.invokevirtual 296, 3) := by decide +kernel
theorem dX12_moves_229 : decode cX12_moves 229 = .ok (.ireturn, 1) := by decide +kernel
theorem dX12_moves_230 : decode cX12_moves 230 = .ok (.aload_n 0, 1) := by decide +kernel
theorem dX12_moves_231 : decode cX12_moves 231 = .ok (.getfield 169, 3) := by decide +kernel
theorem dX12_moves_234 : decode cX12_moves 234 = .ok (.iload_n 2, 1) := by decide +kernel
theorem dX12_moves_235 : decode cX12_moves 235 = .ok (.iaload, 1) := by decide +kernel
theorem dX12_moves_236 : decode cX12_moves 236 = .ok (.ifCond .lt 13, 3) := by decide +kernel
theorem dX12_moves_239 : decode cX12_moves 239 = .ok (.aload_n 0, 1) := by decide +kernel
theorem dX12_moves_240 : decode cX12_moves 240 = .ok (.getfield 169, 3) := by decide +kernel
theorem dX12_moves_243 : decode cX12_moves 243 = .ok (.iload_n 2, 1) := by decide +kernel
theorem dX12_moves_244 : decode cX12_moves 244 = .ok (.iaload, 1) := by decide +kernel
theorem dX12_moves_245 : decode cX12_moves 245 = .ok (.iload_n 2, 1) := by decide +kernel
theorem dX12_moves_246 : decode cX12_moves 246 = .ok (.if_icmp .lt 6, 3) := by decide +kernel
theorem dX12_moves_249 : decode cX12_moves 249 = .ok (.bipush (-4), 2) := by decide +kernel
theorem dX12_moves_251 : decode cX12_moves 251 = .ok (.ireturn, 1) := by decide +kernel
theorem dX12_moves_252 : decode cX12_moves 252 = .ok (.aload_n 0, 1) := by decide +kernel
theorem dX12_moves_253 : decode cX12_moves 253 = .ok (.getfield 169, 3) := by decide +kernel
theorem dX12_moves_256 : decode cX12_moves 256 = .ok (.iload_n 2, 1) := by decide +kernel
theorem dX12_moves_257 : decode cX12_moves 257 = .ok (.aload_n 0, 1) := by decide +kernel
theorem dX12_moves_258 : decode cX12_moves 258 = .ok (.getfield 169, 3) := by decide +kernel
theorem dX12_moves_261 : decode cX12_moves 261 = .ok (.iload_n 2, 1) := by decide +kernel
theorem dX12_moves_262 : decode cX12_moves 262 = .ok (.iconst 1, 1) := by decide +kernel
theorem dX12_moves_263 : decode cX12_moves 263 = .ok (.isub, 1) := by decide +kernel
theorem dX12_moves_264 : decode cX12_moves 264 = .ok (.aload_n 0, 1) := by decide +kernel
theorem dX12_moves_265 : decode cX12_moves 265 = .ok (.getfield 169, 3) := by decide +kernel
theorem dX12_moves_268 : decode cX12_moves 268 = .ok (.iload_n 2, 1) := by decide +kernel
theorem dX12_moves_269 : decode cX12_moves 269 = .ok (.iaload, 1) := by decide +kernel
theorem dX12_moves_270 : decode cX12_moves 270 = .ok (.isub, 1) := by decide +kernel
theorem dX12_moves_271 : decode cX12_moves 271 = .ok (.iaload, 1) := by decide +kernel
theorem dX12_moves_272 : decode cX12_moves 272 = .ok (.iastore, 1) := by decide +kernel
theorem dX12_moves_273 : decode cX12_moves 273 = .ok (.iconst 0, 1) := by decide +kernel
theorem dX12_moves_274 : decode cX12_moves 274 = .ok (.ireturn, 1) := by decide +kernel
theorem dX12_moves_275 : decode cX12_moves 275 = .ok (.aload_n 0, 1) := by decide +kernel
theorem dX12_moves_276 : decode cX12_moves 276 = .ok (.iload_n 1, 1) := by decide +kernel
theorem dX12_moves_277 : decode cX12_moves 277 = .ok (.iload_n 3, 1) := by decide +kernel
theorem dX12_moves_278 : decode cX12_moves 278 = .ok (.invokevirtual 400, 3) := by decide +kernel
theorem dX12_moves_281 : decode cX12_moves 281 = .ok (.ireturn, 1) := by decide +kernel
theorem dX12_swap_0 : decode cX12_swap 0 = .ok (.aload_n 0, 1) := by decide +kernel
theorem dX12_swap_1 : decode cX12_swap 1 = .ok (.getfield 169, 3) := by decide +kernel
theorem dX12_swap_4 : decode cX12_swap 4 = .ok (.iload_n 1, 1) := by decide +kernel
theorem dX12_swap_5 : decode cX12_swap 5 = .ok (.iaload, 1) := by decide +kernel
theorem dX12_swap_6 : decode cX12_swap 6 = .ok (.istore_n 3, 1) := by decide +kernel
theorem dX12_swap_7 : decode cX12_swap 7 = .ok (.aload_n 0, 1) := by decide +kernel
theorem dX12_swap_8 : decode cX12_swap 8 = .ok (.getfield 169, 3) := by decide +kernel
theorem dX12_swap_11 : decode cX12_swap 11 = .ok (.iload_n 1, 1) := by decide +kernel
theorem dX12_swap_12 : decode cX12_swap 12 = .ok (.aload_n 0, 1) := by decide +kernel
theorem dX12_swap_13 : decode cX12_swap 13 = .ok (.getfield 169, 3) := by decide +kernel
theorem dX12_swap_16 : decode cX12_swap 16 = .ok (.iload_n 2, 1) := by decide +kernel
theorem dX12_swap_17 : decode cX12_swap 17 = .ok (.iaload, 1) := by decide +kernel
theorem dX12_swap_18 : decode cX12_swap 18 = .ok (.iastore, 1) := by decide +kernel
theorem dX12_swap_19 : decode cX12_swap 19 = .ok (.aload_n 0, 1) := by decide +kernel
theorem dX12_swap_20 : decode cX12_swap 20 = .ok (.getfield 169, 3) := by decide +kernel
theorem dX12_swap_23 : decode cX12_swap 23 = .ok (.iload_n 2, 1) := by decide +kernel
theorem dX12_swap_24 : decode cX12_swap 24 = .ok (.iload_n 3, 1) := by decide +kernel
theorem dX12_swap_25 : decode cX12_swap 25 = .ok (.iastore, 1) := by decide +kernel
theorem dX12_swap_26 : decode cX12_swap 26 = .ok (.iconst 0, 1) := by decide +kernel
theorem dX12_swap_27 : decode cX12_swap 27 = .ok (.ireturn, 1) := by decide +kernel
theorem dX12_stores_0 : decode cX12_stores 0 = .ok (.iload_n 1, 1) := by decide +kernel
theorem dX12_stores_1 : decode cX12_stores 1 = .ok (.tableswitch 153 17 21 #[35, 72, 103, 103, 128], 35) := by decide +kernel
theorem dX12_stores_36 : decode cX12_stores 36 = .ok (.aload_n 0, 1) := by decide +kernel
theorem dX12_stores_37 : decode cX12_stores 37 = .ok (.getfield 335, 3) := by decide +kernel
theorem dX12_stores_40 : decode cX12_stores 40 = .ok (.bipush 30, 2) := by decide +kernel
theorem dX12_stores_42 : decode cX12_stores 42 = .ok (.if_icmp .ne 6, 3) := by decide +kernel
theorem dX12_stores_45 : decode cX12_stores 45 = .ok (.bipush (-5), 2) := by decide +kernel
theorem dX12_stores_47 : decode cX12_stores 47 = .ok (.ireturn, 1) := by decide +kernel
theorem dX12_stores_48 : decode cX12_stores 48 = .ok (.aload_n 0, 1) := by decide +kernel
theorem dX12_stores_49 : decode cX12_stores 49 = .ok (.getfield 172, 3) := by decide +kernel
theorem dX12_stores_52 : decode cX12_stores 52 = .ok (.aload_n 0, 1) := by decide +kernel
theorem dX12_stores_53 : decode cX12_stores 53 = .ok (.getfield 335, 3) := by decide +kernel
theorem dX12_stores_56 : decode cX12_stores 56 = .ok (.aload_n 0, 1) := by decide +kernel
theorem dX12_stores_57 : decode cX12_stores 57 = .ok (.invokevirtual 390, 3) := by decide +kernel
theorem dX12_stores_60 : decode cX12_stores 60 = .ok (.iastore, 1) := by decide +kernel
theorem dX12_stores_61 : decode cX12_stores 61 = .ok (.aload_n 0, 1) := by decide +kernel
theorem dX12_stores_62 : decode cX12_stores 62 = .ok (.dup, 1) := by decide +kernel
theorem dX12_stores_63 : decode cX12_stores 63 = .ok (.getfield 335, 3) := by decide +kernel
theorem dX12_stores_66 : decode cX12_stores 66 = .ok (.iconst 1, 1) := by decide +kernel
theorem dX12_stores_67 : decode cX12_stores 67 = .ok (.iadd, 1) := by decide +kernel
theorem dX12_stores_68 : decode cX12_stores 68 = .ok (.putfield 335, 3) := by decide +kernel
theorem dX12_stores_71 : decode cX12_stores 71 = .ok (.iconst 0, 1) := by decide +kernel
theorem dX12_stores_72 : decode cX12_stores 72 = .ok (.ireturn, 1) := by decide +kernel
theorem dX12_stores_73 : decode cX12_stores 73 = .ok (.iload_n 2, 1) := by decide +kernel
theorem dX12_stores_74 : decode cX12_stores 74 = .ok (.ifCond .eq 6, 3) := by decide +kernel
theorem dX12_stores_77 : decode cX12_stores 77 = .ok (.bipush (-3), 2) := by decide +kernel
theorem dX12_stores_79 : decode cX12_stores 79 = .ok (.ireturn, 1) := by decide +kernel
theorem dX12_stores_80 : decode cX12_stores 80 = .ok (.aload_n 0, 1) := by decide +kernel
theorem dX12_stores_81 : decode cX12_stores 81 = .ok (.dup, 1) := by decide +kernel
theorem dX12_stores_82 : decode cX12_stores 82 = .ok (.getfield 335, 3) := by decide +kernel
theorem dX12_stores_85 : decode cX12_stores 85 = .ok (.iconst 1, 1) := by decide +kernel
theorem dX12_stores_86 : decode cX12_stores 86 = .ok (.isub, 1) := by decide +kernel
theorem dX12_stores_87 : decode cX12_stores 87 = .ok (.putfield 335, 3) := by decide +kernel
theorem dX12_stores_90 : decode cX12_stores 90 = .ok (.aload_n 0, 1) := by decide +kernel
theorem dX12_stores_91 : decode cX12_stores 91 = .ok (.aload_n 0, 1) := by decide +kernel
theorem dX12_stores_92 : decode cX12_stores 92 = .ok (.getfield 172, 3) := by decide +kernel
theorem dX12_stores_95 : decode cX12_stores 95 = .ok (.aload_n 0, 1) := by decide +kernel
theorem dX12_stores_96 : decode cX12_stores 96 = .ok (.getfield 335, 3) := by decide +kernel
theorem dX12_stores_99 : decode cX12_stores 99 = .ok (.iaload, 1) := by decide +kernel
theorem dX12_stores_100 : decode cX12_stores 100 = .ok (.invokevirtual 296, 3) := by decide +kernel
theorem dX12_stores_103 : decode cX12_stores 103 = .ok (.ireturn, 1) := by decide +kernel
theorem dX12_stores_104 : decode cX12_stores 104 = .ok (.iload_n 2, 1) := by decide +kernel
theorem dX12_stores_105 : decode cX12_stores 105 = .ok (.ifCond .eq 8, 3) := by decide +kernel
theorem dX12_stores_108 : decode cX12_stores 108 = .ok (.bipush (-3), 2) := by decide +kernel
theorem dX12_stores_110 : decode cX12_stores 110 = .ok (.goto 18, 3) := by decide +kernel
theorem dX12_stores_113 : decode cX12_stores 113 = .ok (.aload_n 0, 1) := by decide +kernel
theorem dX12_stores_114 : decode cX12_stores 114 = .ok (.aload_n 0, 1) := by decide +kernel
theorem dX12_stores_115 : decode cX12_stores 115 = .ok (.getfield 172, 3) := by decide +kernel
theorem dX12_stores_118 : decode cX12_stores 118 = .ok (.aload_n 0, 1) := by decide +kernel
theorem dX12_stores_119 : decode cX12_stores 119 = .ok (.getfield 335, 3) := by decide +kernel
theorem dX12_stores_122 : decode cX12_stores 122 = .ok (.iconst 1, 1) := by decide +kernel
theorem dX12_stores_123 : decode cX12_stores 123 = .ok (.isub, 1) := by decide +kernel
theorem dX12_stores_124 : decode cX12_stores 124 = .ok (.iaload, 1) := by decide +kernel
theorem dX12_stores_125 : decode cX12_stores 125 = .ok (.invokevirtual 296, 3) := by decide +kernel
theorem dX12_stores_128 : decode cX12_stores 128 = .ok (.ireturn, 1) := by decide +kernel
theorem dX12_stores_129 : decode cX12_stores 129 = .ok (.iload_n 2, 1) := by decide +kernel
theorem dX12_stores_130 : decode cX12_stores 130 = .ok (.ifCond .eq 8, 3) := by decide +kernel
theorem dX12_stores_133 : decode cX12_stores 133 = .ok (.bipush (-3), 2) := by decide +kernel
