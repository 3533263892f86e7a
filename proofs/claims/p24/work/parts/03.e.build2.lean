theorem dL_build_520 : decode cL_build 520 = .ok (.istore 6, 2) := by decide +kernel
theorem dL_build_522 : decode cL_build 522 = .ok (.iconst 0, 1) := by decide +kernel
theorem dL_build_523 : decode cL_build 523 = .ok (.istore 7, 2) := by decide +kernel
theorem dL_build_525 : decode cL_build 525 = .ok (.iload 7, 2) := by decide +kernel
theorem dL_build_527 : decode cL_build 527 = .ok (.iload 6, 2) := by decide +kernel
theorem dL_build_529 : decode cL_build 529 = .ok (.if_icmp .ge 226, 3) := by decide +kernel
theorem dL_build_532 : decode cL_build 532 = .ok (.aload_n 1, 1) := by decide +kernel
theorem dL_build_533 : decode cL_build 533 = .ok (.bipush 12, 2) := by decide +kernel
theorem dL_build_535 : decode cL_build 535 = .ok (.invokestatic 12, 3) := by decide +kernel
theorem dL_build_538 : decode cL_build 538 = .ok (.iload 7, 2) := by decide +kernel
theorem dL_build_540 : decode cL_build 540 = .ok (.ishr, 1) := by decide +kernel
theorem dL_build_541 : decode cL_build 541 = .ok (.iload_n 3, 1) := by decide +kernel
theorem dL_build_542 : decode cL_build 542 = .ok (.invokestatic 18, 3) := by decide +kernel
theorem dL_build_545 : decode cL_build 545 = .ok (.istore 8, 2) := by decide +kernel
theorem dL_build_547 : decode cL_build 547 = .ok (.iconst 1, 1) := by decide +kernel
theorem dL_build_548 : decode cL_build 548 = .ok (.aload_n 1, 1) := by decide +kernel
theorem dL_build_549 : decode cL_build 549 = .ok (.bipush 13, 2) := by decide +kernel
theorem dL_build_551 : decode cL_build 551 = .ok (.invokestatic 12, 3) := by decide +kernel
theorem dL_build_554 : decode cL_build 554 = .ok (.iconst 2, 1) := by decide +kernel
theorem dL_build_555 : decode cL_build 555 = .ok (.iload 7, 2) := by decide +kernel
theorem dL_build_557 : decode cL_build 557 = .ok (.imul, 1) := by decide +kernel
theorem dL_build_558 : decode cL_build 558 = .ok (.ishr, 1) := by decide +kernel
theorem dL_build_559 : decode cL_build 559 = .ok (.bipush 9, 2) := by decide +kernel
theorem dL_build_561 : decode cL_build 561 = .ok (.invokestatic 18, 3) := by decide +kernel
theorem dL_build_564 : decode cL_build 564 = .ok (.iadd, 1) := by decide +kernel
theorem dL_build_565 : decode cL_build 565 = .ok (.istore 9, 2) := by decide +kernel
theorem dL_build_567 : decode cL_build 567 = .ok (.aload_n 1, 1) := by decide +kernel
theorem dL_build_568 : decode cL_build 568 = .ok (.bipush 14, 2) := by decide +kernel
theorem dL_build_570 : decode cL_build 570 = .ok (.invokestatic 12, 3) := by decide +kernel
theorem dL_build_573 : decode cL_build 573 = .ok (.iload 7, 2) := by decide +kernel
theorem dL_build_575 : decode cL_build 575 = .ok (.ishr, 1) := by decide +kernel
theorem dL_build_576 : decode cL_build 576 = .ok (.aload_n 1, 1) := by decide +kernel
theorem dL_build_577 : decode cL_build 577 = .ok (.bipush 14, 2) := by decide +kernel
theorem dL_build_579 : decode cL_build 579 = .ok (.invokestatic 12, 3) := by decide +kernel
theorem dL_build_582 : decode cL_build 582 = .ok (.iconst 2, 1) := by decide +kernel
theorem dL_build_583 : decode cL_build 583 = .ok (.iload 7, 2) := by decide +kernel
theorem dL_build_585 : decode cL_build 585 = .ok (.imul, 1) := by decide +kernel
theorem dL_build_586 : decode cL_build 586 = .ok (.ishr, 1) := by decide +kernel
theorem dL_build_587 : decode cL_build 587 = .ok (.iconst 2, 1) := by decide +kernel
theorem dL_build_588 : decode cL_build 588 = .ok (.invokestatic 18, 3) := by decide +kernel
theorem dL_build_591 : decode cL_build 591 = .ok (.ifCond .ne 9, 3) := by decide +kernel
theorem dL_build_594 : decode cL_build 594 = .ok (.sipush 1000, 3) := by decide +kernel
theorem dL_build_597 : decode cL_build 597 = .ok (.goto 5, 3) := by decide +kernel
theorem dL_build_600 : decode cL_build 600 = .ok (.bipush 60, 2) := by decide +kernel
theorem dL_build_602 : decode cL_build 602 = .ok (.invokestatic 18, 3) := by decide +kernel
theorem dL_build_605 : decode cL_build 605 = .ok (.istore 10, 2) := by decide +kernel
theorem dL_build_607 : decode cL_build 607 = .ok (.aload_n 0, 1) := by decide +kernel
theorem dL_build_608 : decode cL_build 608 = .ok (.iload 8, 2) := by decide +kernel
theorem dL_build_610 : decode cL_build 610 = .ok (.iload 9, 2) := by decide +kernel
theorem dL_build_612 : decode cL_build 612 = .ok (.iload 10, 2) := by decide +kernel
theorem dL_build_614 : decode cL_build 614 = .ok (.invokevirtual 70, 3) := by decide +kernel
theorem dL_build_617 : decode cL_build 617 = .ok (.iload 7, 2) := by decide +kernel
theorem dL_build_619 : decode cL_build 619 = .ok (.if_icmp .eq 5, 3) := by decide +kernel
theorem dL_build_622 : decode cL_build 622 = .ok (.aconst_null, 1) := by decide +kernel
theorem dL_build_623 : decode cL_build 623 = .ok (.areturn, 1) := by decide +kernel
theorem dL_build_624 : decode cL_build 624 = .ok (.aload_n 2, 1) := by decide +kernel
theorem dL_build_625 : decode cL_build 625 = .ok (.aload_n 2, 1) := by decide +kernel
theorem dL_build_626 : decode cL_build 626 = .ok (.getfield 73, 3) := by decide +kernel
theorem dL_build_629 : decode cL_build 629 = .ok (.bipush 9, 2) := by decide +kernel
theorem dL_build_631 : decode cL_build 631 = .ok (.newarray .int, 2) := by decide +kernel
theorem dL_build_633 : decode cL_build 633 = .ok (.dup, 1) := by decide +kernel
theorem dL_build_634 : decode cL_build 634 = .ok (.iconst 0, 1) := by decide +kernel
theorem dL_build_635 : decode cL_build 635 = .ok (.iload 8, 2) := by decide +kernel
theorem dL_build_637 : decode cL_build 637 = .ok (.iastore, 1) := by decide +kernel
theorem dL_build_638 : decode cL_build 638 = .ok (.dup, 1) := by decide +kernel
theorem dL_build_639 : decode cL_build 639 = .ok (.iconst 1, 1) := by decide +kernel
theorem dL_build_640 : decode cL_build 640 = .ok (.iload 8, 2) := by decide +kernel
theorem dL_build_642 : decode cL_build 642 = .ok (.iastore, 1) := by decide +kernel
theorem dL_build_643 : decode cL_build 643 = .ok (.dup, 1) := by decide +kernel
theorem dL_build_644 : decode cL_build 644 = .ok (.iconst 2, 1) := by decide +kernel
theorem dL_build_645 : decode cL_build 645 = .ok (.iload 9, 2) := by decide +kernel
theorem dL_build_647 : decode cL_build 647 = .ok (.iastore, 1) := by decide +kernel
theorem dL_build_648 : decode cL_build 648 = .ok (.dup, 1) := by decide +kernel
theorem dL_build_649 : decode cL_build 649 = .ok (.iconst 3, 1) := by decide +kernel
theorem dL_build_650 : decode cL_build 650 = .ok (.iload 10, 2) := by decide +kernel
theorem dL_build_652 : decode cL_build 652 = .ok (.iastore, 1) := by decide +kernel
theorem dL_build_653 : decode cL_build 653 = .ok (.dup, 1) := by decide +kernel
theorem dL_build_654 : decode cL_build 654 = .ok (.iconst 4, 1) := by decide +kernel
theorem dL_build_655 : decode cL_build 655 = .ok (.iconst (-1), 1) := by decide +kernel
theorem dL_build_656 : decode cL_build 656 = .ok (.iastore, 1) := by decide +kernel
theorem dL_build_657 : decode cL_build 657 = .ok (.dup, 1) := by decide +kernel
theorem dL_build_658 : decode cL_build 658 = .ok (.iconst 5, 1) := by decide +kernel
theorem dL_build_659 : decode cL_build 659 = .ok (.iconst 0, 1) := by decide +kernel
theorem dL_build_660 : decode cL_build 660 = .ok (.iastore, 1) := by decide +kernel
theorem dL_build_661 : decode cL_build 661 = .ok (.dup, 1) := by decide +kernel
theorem dL_build_662 : decode cL_build 662 = .ok (.bipush 6, 2) := by decide +kernel
theorem dL_build_664 : decode cL_build 664 = .ok (.iconst (-1), 1) := by decide +kernel
theorem dL_build_665 : decode cL_build 665 = .ok (.iastore, 1) := by decide +kernel
theorem dL_build_666 : decode cL_build 666 = .ok (.dup, 1) := by decide +kernel
theorem dL_build_667 : decode cL_build 667 = .ok (.bipush 7, 2) := by decide +kernel
theorem dL_build_669 : decode cL_build 669 = .ok (.iconst (-1), 1) := by decide +kernel
theorem dL_build_670 : decode cL_build 670 = .ok (.iastore, 1) := by decide +kernel
theorem dL_build_671 : decode cL_build 671 = .ok (.dup, 1) := by decide +kernel
theorem dL_build_672 : decode cL_build 672 = .ok (.bipush 8, 2) := by decide +kernel
theorem dL_build_674 : decode cL_build 674 = .ok (.iconst 0, 1) := by decide +kernel
theorem dL_build_675 : decode cL_build 675 = .ok (.iastore, 1) := by decide +kernel
theorem dL_build_676 : decode cL_build 676 = .ok (.invokestatic 49, 3) := by decide +kernel
theorem dL_build_679 : decode cL_build 679 = .ok (.putfield 73, 3) := by decide +kernel
theorem dL_build_682 : decode cL_build 682 = .ok (.aload_n 2, 1) := by decide +kernel
theorem dL_build_683 : decode cL_build 683 = .ok (.aload_n 2, 1) := by decide +kernel
theorem dL_build_684 : decode cL_build 684 = .ok (.getfield 76, 3) := by decide +kernel
theorem dL_build_687 : decode cL_build 687 = .ok (.iconst 0, 1) := by decide +kernel
theorem dL_build_688 : decode cL_build 688 = .ok (.newarray .int, 2) := by decide +kernel
theorem dL_build_690 : decode cL_build 690 = .ok (.invokestatic 49, 3) := by decide +kernel
theorem dL_build_693 : decode cL_build 693 = .ok (.putfield 76, 3) := by decide +kernel
theorem dL_build_696 : decode cL_build 696 = .ok (.iconst 0, 1) := by decide +kernel
theorem dL_build_697 : decode cL_build 697 = .ok (.istore 11, 2) := by decide +kernel
theorem dL_build_699 : decode cL_build 699 = .ok (.iload 11, 2) := by decide +kernel
theorem dL_build_701 : decode cL_build 701 = .ok (.bipush 9, 2) := by decide +kernel
theorem dL_build_703 : decode cL_build 703 = .ok (.if_icmp .ge 46, 3) := by decide +kernel
theorem dL_build_706 : decode cL_build 706 = .ok (.aload_n 0, 1) := by decide +kernel
theorem dL_build_707 : decode cL_build 707 = .ok (.aload_n 2, 1) := by decide +kernel
theorem dL_build_708 : decode cL_build 708 = .ok (.iload 7, 2) := by decide +kernel
theorem dL_build_710 : decode cL_build 710 = .ok (.aload_n 1, 1) := by decide +kernel
theorem dL_build_711 : decode cL_build 711 = .ok (.bipush 15, 2) := by decide +kernel
theorem dL_build_713 : decode cL_build 713 = .ok (.invokestatic 12, 3) := by decide +kernel
theorem dL_build_716 : decode cL_build 716 = .ok (.iload 11, 2) := by decide +kernel
theorem dL_build_718 : decode cL_build 718 = .ok (.ishr, 1) := by decide +kernel
theorem dL_build_719 : decode cL_build 719 = .ok (.iconst 5, 1) := by decide +kernel
theorem dL_build_720 : decode cL_build 720 = .ok (.iload 11, 2) := by decide +kernel
theorem dL_build_722 : decode cL_build 722 = .ok (.imul, 1) := by decide +kernel
theorem dL_build_723 : decode cL_build 723 = .ok (.iadd, 1) := by decide +kernel
theorem dL_build_724 : decode cL_build 724 = .ok (.bipush 11, 2) := by decide +kernel
theorem dL_build_726 : decode cL_build 726 = .ok (.iload 7, 2) := by decide +kernel
theorem dL_build_728 : decode cL_build 728 = .ok (.imul, 1) := by decide +kernel
theorem dL_build_729 : decode cL_build 729 = .ok (.iadd, 1) := by decide +kernel
theorem dL_build_730 : decode cL_build 730 = .ok (.iload 5, 2) := by decide +kernel
theorem dL_build_732 : decode cL_build 732 = .ok (.invokestatic 18, 3) := by decide +kernel
theorem dL_build_735 : decode cL_build 735 = .ok (.invokestatic 79, 3) := by decide +kernel
theorem dL_build_738 : decode cL_build 738 = .ok (.ifCond .ne 5, 3) := by decide +kernel
theorem dL_build_741 : decode cL_build 741 = .ok (.aconst_null, 1) := by decide +kernel
theorem dL_build_742 : decode cL_build 742 = .ok (.areturn, 1) := by decide +kernel
theorem dL_build_743 : decode cL_build 743 = .ok (.iinc 11 1, 3) := by decide +kernel
theorem dL_build_746 : decode cL_build 746 = .ok (.goto (-47), 3) := by decide +kernel
theorem dL_build_749 : decode cL_build 749 = .ok (.iinc 7 1, 3) := by decide +kernel
theorem dL_build_752 : decode cL_build 752 = .ok (.goto (-227), 3) := by decide +kernel
theorem dL_build_755 : decode cL_build 755 = .ok (.aload_n 2, 1) := by decide +kernel
theorem dL_build_756 : decode cL_build 756 = .ok (.areturn, 1) := by decide +kernel
