theorem dL_act_558 : decode cL_act 558 = .ok (.istore 10, 2) := by decide +kernel
theorem dL_act_560 : decode cL_act 560 = .ok (.iload 10, 2) := by decide +kernel
theorem dL_act_562 : decode cL_act 562 = .ok (.iload 4, 2) := by decide +kernel
theorem dL_act_564 : decode cL_act 564 = .ok (.if_icmp .ge 28, 3) := by decide +kernel
theorem dL_act_567 : decode cL_act 567 = .ok (.iload 9, 2) := by decide +kernel
theorem dL_act_569 : decode cL_act 569 = .ok (.aload_n 0, 1) := by decide +kernel
theorem dL_act_570 : decode cL_act 570 = .ok (.iload 10, 2) := by decide +kernel
theorem dL_act_572 : decode cL_act 572 = .ok (.invokevirtual 65, 3) := by decide +kernel
theorem dL_act_575 : decode cL_act 575 = .ok (.ifCond .eq 7, 3) := by decide +kernel
theorem dL_act_578 : decode cL_act 578 = .ok (.iconst 1, 1) := by decide +kernel
theorem dL_act_579 : decode cL_act 579 = .ok (.goto 4, 3) := by decide +kernel
theorem dL_act_582 : decode cL_act 582 = .ok (.iconst 0, 1) := by decide +kernel
theorem dL_act_583 : decode cL_act 583 = .ok (.iadd, 1) := by decide +kernel
theorem dL_act_584 : decode cL_act 584 = .ok (.istore 9, 2) := by decide +kernel
theorem dL_act_586 : decode cL_act 586 = .ok (.iinc 10 1, 3) := by decide +kernel
theorem dL_act_589 : decode cL_act 589 = .ok (.goto (-29), 3) := by decide +kernel
theorem dL_act_592 : decode cL_act 592 = .ok (.iload 7, 2) := by decide +kernel
theorem dL_act_594 : decode cL_act 594 = .ok (.ifCond .eq 35, 3) := by decide +kernel
theorem dL_act_597 : decode cL_act 597 = .ok (.aload_n 0, 1) := by decide +kernel
theorem dL_act_598 : decode cL_act 598 = .ok (.iload 5, 2) := by decide +kernel
theorem dL_act_600 : decode cL_act 600 = .ok (.invokevirtual 152, 3) := by decide +kernel
theorem dL_act_603 : decode cL_act 603 = .ok (.aload_n 0, 1) := by decide +kernel
theorem dL_act_604 : decode cL_act 604 = .ok (.iload 5, 2) := by decide +kernel
theorem dL_act_606 : decode cL_act 606 = .ok (.invokevirtual 52, 3) := by decide +kernel
theorem dL_act_609 : decode cL_act 609 = .ok (.if_icmp .ne 16, 3) := by decide +kernel
theorem dL_act_612 : decode cL_act 612 = .ok (.aload_n 0, 1) := by decide +kernel
theorem dL_act_613 : decode cL_act 613 = .ok (.iload 5, 2) := by decide +kernel
theorem dL_act_615 : decode cL_act 615 = .ok (.invokevirtual 65, 3) := by decide +kernel
theorem dL_act_618 : decode cL_act 618 = .ok (.ifCond .ne 7, 3) := by decide +kernel
theorem dL_act_621 : decode cL_act 621 = .ok (.iconst 1, 1) := by decide +kernel
theorem dL_act_622 : decode cL_act 622 = .ok (.goto 42, 3) := by decide +kernel
theorem dL_act_625 : decode cL_act 625 = .ok (.iconst 0, 1) := by decide +kernel
theorem dL_act_626 : decode cL_act 626 = .ok (.goto 38, 3) := by decide +kernel
theorem dL_act_629 : decode cL_act 629 = .ok (.iload 9, 2) := by decide +kernel
theorem dL_act_631 : decode cL_act 631 = .ok (.iconst 3, 1) := by decide +kernel
theorem dL_act_632 : decode cL_act 632 = .ok (.if_icmp .eq 27, 3) := by decide +kernel
theorem dL_act_635 : decode cL_act 635 = .ok (.aload_n 0, 1) := by decide +kernel
theorem dL_act_636 : decode cL_act 636 = .ok (.iload 5, 2) := by decide +kernel
theorem dL_act_638 : decode cL_act 638 = .ok (.invokevirtual 155, 3) := by decide +kernel
theorem dL_act_641 : decode cL_act 641 = .ok (.iload 9, 2) := by decide +kernel
theorem dL_act_643 : decode cL_act 643 = .ok (.iconst 1, 1) := by decide +kernel
theorem dL_act_644 : decode cL_act 644 = .ok (.iadd, 1) := by decide +kernel
theorem dL_act_645 : decode cL_act 645 = .ok (.if_icmp .ne 18, 3) := by decide +kernel
theorem dL_act_648 : decode cL_act 648 = .ok (.aload_n 0, 1) := by decide +kernel
theorem dL_act_649 : decode cL_act 649 = .ok (.iload 5, 2) := by decide +kernel
theorem dL_act_651 : decode cL_act 651 = .ok (.iconst 2, 1) := by decide +kernel
theorem dL_act_652 : decode cL_act 652 = .ok (.invokevirtual 116, 3) := by decide +kernel
theorem dL_act_655 : decode cL_act 655 = .ok (.iconst 1, 1) := by decide +kernel
theorem dL_act_656 : decode cL_act 656 = .ok (.if_icmp .ne 7, 3) := by decide +kernel
theorem dL_act_659 : decode cL_act 659 = .ok (.iconst 1, 1) := by decide +kernel
theorem dL_act_660 : decode cL_act 660 = .ok (.goto 4, 3) := by decide +kernel
theorem dL_act_663 : decode cL_act 663 = .ok (.iconst 0, 1) := by decide +kernel
theorem dL_act_664 : decode cL_act 664 = .ok (.ireturn, 1) := by decide +kernel
theorem dL_act_665 : decode cL_act 665 = .ok (.iload_n 2, 1) := by decide +kernel
theorem dL_act_666 : decode cL_act 666 = .ok (.bipush 17, 2) := by decide +kernel
theorem dL_act_668 : decode cL_act 668 = .ok (.if_icmp .ge 107, 3) := by decide +kernel
theorem dL_act_671 : decode cL_act 671 = .ok (.iconst 1, 1) := by decide +kernel
theorem dL_act_672 : decode cL_act 672 = .ok (.iload_n 3, 1) := by decide +kernel
theorem dL_act_673 : decode cL_act 673 = .ok (.bipush 10, 2) := by decide +kernel
theorem dL_act_675 : decode cL_act 675 = .ok (.invokestatic 128, 3) := by decide +kernel
theorem dL_act_678 : decode cL_act 678 = .ok (.iadd, 1) := by decide +kernel
theorem dL_act_679 : decode cL_act 679 = .ok (.istore 9, 2) := by decide +kernel
theorem dL_act_681 : decode cL_act 681 = .ok (.aload_n 0, 1) := by decide +kernel
theorem dL_act_682 : decode cL_act 682 = .ok (.iload 5, 2) := by decide +kernel
theorem dL_act_684 : decode cL_act 684 = .ok (.iload 9, 2) := by decide +kernel
theorem dL_act_686 : decode cL_act 686 = .ok (.invokevirtual 100, 3) := by decide +kernel
theorem dL_act_689 : decode cL_act 689 = .ok (.istore 10, 2) := by decide +kernel
theorem dL_act_691 : decode cL_act 691 = .ok (.aload_n 0, 1) := by decide +kernel
theorem dL_act_692 : decode cL_act 692 = .ok (.iload 5, 2) := by decide +kernel
theorem dL_act_694 : decode cL_act 694 = .ok (.invokevirtual 97, 3) := by decide +kernel
theorem dL_act_697 : decode cL_act 697 = .ok (.istore 11, 2) := by decide +kernel
theorem dL_act_699 : decode cL_act 699 = .ok (.aload_n 0, 1) := by decide +kernel
theorem dL_act_700 : decode cL_act 700 = .ok (.invokevirtual 40, 3) := by decide +kernel
theorem dL_act_703 : decode cL_act 703 = .ok (.istore 12, 2) := by decide +kernel
theorem dL_act_705 : decode cL_act 705 = .ok (.aload_n 0, 1) := by decide +kernel
theorem dL_act_706 : decode cL_act 706 = .ok (.iload 9, 2) := by decide +kernel
theorem dL_act_708 : decode cL_act 708 = .ok (.invokevirtual 158, 3) := by decide +kernel
theorem dL_act_711 : decode cL_act 711 = .ok (.pop, 1) := by decide +kernel
theorem dL_act_712 : decode cL_act 712 = .ok (.aload_n 0, 1) := by decide +kernel
theorem dL_act_713 : decode cL_act 713 = .ok (.iload 5, 2) := by decide +kernel
theorem dL_act_715 : decode cL_act 715 = .ok (.invokevirtual 52, 3) := by decide +kernel
theorem dL_act_718 : decode cL_act 718 = .ok (.iload 10, 2) := by decide +kernel
theorem dL_act_720 : decode cL_act 720 = .ok (.if_icmp .ne 53, 3) := by decide +kernel
theorem dL_act_723 : decode cL_act 723 = .ok (.aload_n 0, 1) := by decide +kernel
theorem dL_act_724 : decode cL_act 724 = .ok (.invokevirtual 40, 3) := by decide +kernel
theorem dL_act_727 : decode cL_act 727 = .ok (.iload 12, 2) := by decide +kernel
theorem dL_act_729 : decode cL_act 729 = .ok (.iload 9, 2) := by decide +kernel
theorem dL_act_731 : decode cL_act 731 = .ok (.iadd, 1) := by decide +kernel
theorem dL_act_732 : decode cL_act 732 = .ok (.if_icmp .ne 41, 3) := by decide +kernel
theorem dL_act_735 : decode cL_act 735 = .ok (.iload 7, 2) := by decide +kernel
theorem dL_act_737 : decode cL_act 737 = .ok (.ifCond .eq 32, 3) := by decide +kernel
theorem dL_act_740 : decode cL_act 740 = .ok (.iload 10, 2) := by decide +kernel
theorem dL_act_742 : decode cL_act 742 = .ok (.aload_n 0, 1) := by decide +kernel
theorem dL_act_743 : decode cL_act 743 = .ok (.invokevirtual 82, 3) := by decide +kernel
theorem dL_act_746 : decode cL_act 746 = .ok (.if_icmp .gt 7, 3) := by decide +kernel
theorem dL_act_749 : decode cL_act 749 = .ok (.iconst 1, 1) := by decide +kernel
theorem dL_act_750 : decode cL_act 750 = .ok (.goto 4, 3) := by decide +kernel
theorem dL_act_753 : decode cL_act 753 = .ok (.iconst 0, 1) := by decide +kernel
theorem dL_act_754 : decode cL_act 754 = .ok (.iload 9, 2) := by decide +kernel
theorem dL_act_756 : decode cL_act 756 = .ok (.iload 11, 2) := by decide +kernel
