theorem d_Law_law_623 : decode code 623 = .ok (.iconst 2, 1) := by decide +kernel
theorem d_Law_law_624 : decode code 624 = .ok (.iadd, 1) := by decide +kernel
theorem d_Law_law_625 : decode code 625 = .ok (.iaload, 1) := by decide +kernel
theorem d_Law_law_626 : decode code 626 = .ok (.aload_n 0, 1) := by decide +kernel
theorem d_Law_law_627 : decode code 627 = .ok (.iload 4, 2) := by decide +kernel
theorem d_Law_law_629 : decode code 629 = .ok (.iconst 3, 1) := by decide +kernel
theorem d_Law_law_630 : decode code 630 = .ok (.iadd, 1) := by decide +kernel
theorem d_Law_law_631 : decode code 631 = .ok (.iaload, 1) := by decide +kernel
theorem d_Law_law_632 : decode code 632 = .ok (.aload_n 3, 1) := by decide +kernel
theorem d_Law_law_633 : decode code 633 = .ok (.invokestatic 99, 3) := by decide +kernel
theorem d_Law_law_636 : decode code 636 = .ok (.istore 5, 2) := by decide +kernel
theorem d_Law_law_638 : decode code 638 = .ok (.aload_n 2, 1) := by decide +kernel
theorem d_Law_law_639 : decode code 639 = .ok (.aload_n 0, 1) := by decide +kernel
theorem d_Law_law_640 : decode code 640 = .ok (.iload 4, 2) := by decide +kernel
theorem d_Law_law_642 : decode code 642 = .ok (.iconst 1, 1) := by decide +kernel
theorem d_Law_law_643 : decode code 643 = .ok (.iadd, 1) := by decide +kernel
theorem d_Law_law_644 : decode code 644 = .ok (.iaload, 1) := by decide +kernel
theorem d_Law_law_645 : decode code 645 = .ok (.aload_n 0, 1) := by decide +kernel
theorem d_Law_law_646 : decode code 646 = .ok (.iload 4, 2) := by decide +kernel
theorem d_Law_law_648 : decode code 648 = .ok (.iconst 2, 1) := by decide +kernel
theorem d_Law_law_649 : decode code 649 = .ok (.iadd, 1) := by decide +kernel
theorem d_Law_law_650 : decode code 650 = .ok (.iaload, 1) := by decide +kernel
theorem d_Law_law_651 : decode code 651 = .ok (.aload_n 0, 1) := by decide +kernel
theorem d_Law_law_652 : decode code 652 = .ok (.iload 4, 2) := by decide +kernel
theorem d_Law_law_654 : decode code 654 = .ok (.iconst 3, 1) := by decide +kernel
theorem d_Law_law_655 : decode code 655 = .ok (.iadd, 1) := by decide +kernel
theorem d_Law_law_656 : decode code 656 = .ok (.iaload, 1) := by decide +kernel
theorem d_Law_law_657 : decode code 657 = .ok (.invokevirtual 101, 3) := by decide +kernel
theorem d_Law_law_660 : decode code 660 = .ok (.istore 6, 2) := by decide +kernel
theorem d_Law_law_662 : decode code 662 = .ok (.aload_n 2, 1) := by decide +kernel
theorem d_Law_law_663 : decode code 663 = .ok (.invokevirtual 71, 3) := by decide +kernel
theorem d_Law_law_666 : decode code 666 = .ok (.iload 5, 2) := by decide +kernel
theorem d_Law_law_668 : decode code 668 = .ok (.if_icmp .eq 5, 3) := by decide +kernel
theorem d_Law_law_671 : decode code 671 = .ok (.iconst 0, 1) := by decide +kernel
theorem d_Law_law_672 : decode code 672 = .ok (.ireturn, 1) := by decide +kernel
theorem d_Law_law_673 : decode code 673 = .ok (.iload 5, 2) := by decide +kernel
theorem d_Law_law_675 : decode code 675 = .ok (.ifCond .ne 15, 3) := by decide +kernel
theorem d_Law_law_678 : decode code 678 = .ok (.aload_n 3, 1) := by decide +kernel
theorem d_Law_law_679 : decode code 679 = .ok (.iconst 0, 1) := by decide +kernel
theorem d_Law_law_680 : decode code 680 = .ok (.laload, 1) := by decide +kernel
theorem d_Law_law_681 : decode code 681 = .ok (.iload 6, 2) := by decide +kernel
theorem d_Law_law_683 : decode code 683 = .ok (.i2l, 1) := by decide +kernel
theorem d_Law_law_684 : decode code 684 = .ok (.lcmp, 1) := by decide +kernel
theorem d_Law_law_685 : decode code 685 = .ok (.ifCond .eq 5, 3) := by decide +kernel
theorem d_Law_law_688 : decode code 688 = .ok (.iconst 0, 1) := by decide +kernel
theorem d_Law_law_689 : decode code 689 = .ok (.ireturn, 1) := by decide +kernel
theorem d_Law_law_690 : decode code 690 = .ok (.goto 573, 3) := by decide +kernel
theorem d_Law_law_693 : decode code 693 = .ok (.aload_n 1, 1) := by decide +kernel
theorem d_Law_law_694 : decode code 694 = .ok (.aload_n 0, 1) := by decide +kernel
theorem d_Law_law_695 : decode code 695 = .ok (.iload 4, 2) := by decide +kernel
theorem d_Law_law_697 : decode code 697 = .ok (.iconst 1, 1) := by decide +kernel
theorem d_Law_law_698 : decode code 698 = .ok (.iadd, 1) := by decide +kernel
theorem d_Law_law_699 : decode code 699 = .ok (.iaload, 1) := by decide +kernel
theorem d_Law_law_700 : decode code 700 = .ok (.aload_n 0, 1) := by decide +kernel
theorem d_Law_law_701 : decode code 701 = .ok (.iload 4, 2) := by decide +kernel
theorem d_Law_law_703 : decode code 703 = .ok (.iconst 2, 1) := by decide +kernel
theorem d_Law_law_704 : decode code 704 = .ok (.iadd, 1) := by decide +kernel
theorem d_Law_law_705 : decode code 705 = .ok (.iaload, 1) := by decide +kernel
theorem d_Law_law_706 : decode code 706 = .ok (.aload_n 3, 1) := by decide +kernel
theorem d_Law_law_707 : decode code 707 = .ok (.invokestatic 102, 3) := by decide +kernel
theorem d_Law_law_710 : decode code 710 = .ok (.istore 5, 2) := by decide +kernel
theorem d_Law_law_712 : decode code 712 = .ok (.aload_n 2, 1) := by decide +kernel
theorem d_Law_law_713 : decode code 713 = .ok (.aload_n 0, 1) := by decide +kernel
theorem d_Law_law_714 : decode code 714 = .ok (.iload 4, 2) := by decide +kernel
theorem d_Law_law_716 : decode code 716 = .ok (.iconst 1, 1) := by decide +kernel
theorem d_Law_law_717 : decode code 717 = .ok (.iadd, 1) := by decide +kernel
theorem d_Law_law_718 : decode code 718 = .ok (.iaload, 1) := by decide +kernel
theorem d_Law_law_719 : decode code 719 = .ok (.aload_n 0, 1) := by decide +kernel
theorem d_Law_law_720 : decode code 720 = .ok (.iload 4, 2) := by decide +kernel
theorem d_Law_law_722 : decode code 722 = .ok (.iconst 2, 1) := by decide +kernel
theorem d_Law_law_723 : decode code 723 = .ok (.iadd, 1) := by decide +kernel
theorem d_Law_law_724 : decode code 724 = .ok (.iaload, 1) := by decide +kernel
theorem d_Law_law_725 : decode code 725 = .ok (.invokevirtual 104, 3) := by decide +kernel
theorem d_Law_law_728 : decode code 728 = .ok (.istore 6, 2) := by decide +kernel
theorem d_Law_law_730 : decode code 730 = .ok (.aload_n 2, 1) := by decide +kernel
theorem d_Law_law_731 : decode code 731 = .ok (.invokevirtual 71, 3) := by decide +kernel
theorem d_Law_law_734 : decode code 734 = .ok (.iload 5, 2) := by decide +kernel
theorem d_Law_law_736 : decode code 736 = .ok (.if_icmp .eq 5, 3) := by decide +kernel
theorem d_Law_law_739 : decode code 739 = .ok (.iconst 0, 1) := by decide +kernel
theorem d_Law_law_740 : decode code 740 = .ok (.ireturn, 1) := by decide +kernel
theorem d_Law_law_741 : decode code 741 = .ok (.iload 5, 2) := by decide +kernel
theorem d_Law_law_743 : decode code 743 = .ok (.ifCond .ne 15, 3) := by decide +kernel
theorem d_Law_law_746 : decode code 746 = .ok (.aload_n 3, 1) := by decide +kernel
theorem d_Law_law_747 : decode code 747 = .ok (.iconst 0, 1) := by decide +kernel
theorem d_Law_law_748 : decode code 748 = .ok (.laload, 1) := by decide +kernel
theorem d_Law_law_749 : decode code 749 = .ok (.iload 6, 2) := by decide +kernel
theorem d_Law_law_751 : decode code 751 = .ok (.i2l, 1) := by decide +kernel
theorem d_Law_law_752 : decode code 752 = .ok (.lcmp, 1) := by decide +kernel
theorem d_Law_law_753 : decode code 753 = .ok (.ifCond .eq 5, 3) := by decide +kernel
theorem d_Law_law_756 : decode code 756 = .ok (.iconst 0, 1) := by decide +kernel
theorem d_Law_law_757 : decode code 757 = .ok (.ireturn, 1) := by decide +kernel
theorem d_Law_law_758 : decode code 758 = .ok (.goto 505, 3) := by decide +kernel
theorem d_Law_law_761 : decode code 761 = .ok (.aload_n 1, 1) := by decide +kernel
theorem d_Law_law_762 : decode code 762 = .ok (.aload_n 0, 1) := by decide +kernel
theorem d_Law_law_763 : decode code 763 = .ok (.iload 4, 2) := by decide +kernel
theorem d_Law_law_765 : decode code 765 = .ok (.iconst 1, 1) := by decide +kernel
theorem d_Law_law_766 : decode code 766 = .ok (.iadd, 1) := by decide +kernel
theorem d_Law_law_767 : decode code 767 = .ok (.iaload, 1) := by decide +kernel
theorem d_Law_law_768 : decode code 768 = .ok (.aload_n 0, 1) := by decide +kernel
theorem d_Law_law_769 : decode code 769 = .ok (.iload 4, 2) := by decide +kernel
