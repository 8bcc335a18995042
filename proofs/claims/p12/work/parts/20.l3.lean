theorem md_L_law_631 : decode mb_L_law 631 = .ok (.i2l, 1) := by decide +kernel
theorem md_L_law_632 : decode mb_L_law 632 = .ok (.bipush 32, 2) := by decide +kernel
theorem md_L_law_634 : decode mb_L_law 634 = .ok (.lshl, 1) := by decide +kernel
theorem md_L_law_635 : decode mb_L_law 635 = .ok (.aload_n 0, 1) := by decide +kernel
theorem md_L_law_636 : decode mb_L_law 636 = .ok (.iload 4, 2) := by decide +kernel
theorem md_L_law_638 : decode mb_L_law 638 = .ok (.bipush 8, 2) := by decide +kernel
theorem md_L_law_640 : decode mb_L_law 640 = .ok (.iadd, 1) := by decide +kernel
theorem md_L_law_641 : decode mb_L_law 641 = .ok (.iaload, 1) := by decide +kernel
theorem md_L_law_642 : decode mb_L_law 642 = .ok (.i2l, 1) := by decide +kernel
theorem md_L_law_643 : decode mb_L_law 643 = .ok (.ldc2_w 94, 3) := by decide +kernel
theorem md_L_law_646 : decode mb_L_law 646 = .ok (.land, 1) := by decide +kernel
theorem md_L_law_647 : decode mb_L_law 647 = .ok (.lor, 1) := by decide +kernel
theorem md_L_law_648 : decode mb_L_law 648 = .ok (.invokevirtual 110, 3) := by decide +kernel
theorem md_L_law_651 : decode mb_L_law 651 = .ok (.istore 6, 2) := by decide +kernel
theorem md_L_law_653 : decode mb_L_law 653 = .ok (.goto 530, 3) := by decide +kernel
theorem md_L_law_656 : decode mb_L_law 656 = .ok (.aload_n 1, 1) := by decide +kernel
theorem md_L_law_657 : decode mb_L_law 657 = .ok (.aload_n 0, 1) := by decide +kernel
theorem md_L_law_658 : decode mb_L_law 658 = .ok (.iload 4, 2) := by decide +kernel
theorem md_L_law_660 : decode mb_L_law 660 = .ok (.iconst 1, 1) := by decide +kernel
theorem md_L_law_661 : decode mb_L_law 661 = .ok (.iadd, 1) := by decide +kernel
theorem md_L_law_662 : decode mb_L_law 662 = .ok (.iaload, 1) := by decide +kernel
theorem md_L_law_663 : decode mb_L_law 663 = .ok (.aload_n 3, 1) := by decide +kernel
theorem md_L_law_664 : decode mb_L_law 664 = .ok (.invokestatic 111, 3) := by decide +kernel
theorem md_L_law_667 : decode mb_L_law 667 = .ok (.istore 5, 2) := by decide +kernel
theorem md_L_law_669 : decode mb_L_law 669 = .ok (.aload_n 2, 1) := by decide +kernel
theorem md_L_law_670 : decode mb_L_law 670 = .ok (.aload_n 0, 1) := by decide +kernel
theorem md_L_law_671 : decode mb_L_law 671 = .ok (.iload 4, 2) := by decide +kernel
theorem md_L_law_673 : decode mb_L_law 673 = .ok (.iconst 1, 1) := by decide +kernel
theorem md_L_law_674 : decode mb_L_law 674 = .ok (.iadd, 1) := by decide +kernel
theorem md_L_law_675 : decode mb_L_law 675 = .ok (.iaload, 1) := by decide +kernel
theorem md_L_law_676 : decode mb_L_law 676 = .ok (.invokevirtual 114, 3) := by decide +kernel
theorem md_L_law_679 : decode mb_L_law 679 = .ok (.lstore 6, 2) := by decide +kernel
theorem md_L_law_681 : decode mb_L_law 681 = .ok (.goto 502, 3) := by decide +kernel
theorem md_L_law_684 : decode mb_L_law 684 = .ok (.aload_n 1, 1) := by decide +kernel
theorem md_L_law_685 : decode mb_L_law 685 = .ok (.aload_n 3, 1) := by decide +kernel
theorem md_L_law_686 : decode mb_L_law 686 = .ok (.invokestatic 115, 3) := by decide +kernel
theorem md_L_law_689 : decode mb_L_law 689 = .ok (.istore 5, 2) := by decide +kernel
theorem md_L_law_691 : decode mb_L_law 691 = .ok (.aload_n 2, 1) := by decide +kernel
theorem md_L_law_692 : decode mb_L_law 692 = .ok (.invokevirtual 118, 3) := by decide +kernel
theorem md_L_law_695 : decode mb_L_law 695 = .ok (.istore 6, 2) := by decide +kernel
theorem md_L_law_697 : decode mb_L_law 697 = .ok (.goto 486, 3) := by decide +kernel
theorem md_L_law_700 : decode mb_L_law 700 = .ok (.aload_n 1, 1) := by decide +kernel
theorem md_L_law_701 : decode mb_L_law 701 = .ok (.aload_n 0, 1) := by decide +kernel
theorem md_L_law_702 : decode mb_L_law 702 = .ok (.iload 4, 2) := by decide +kernel
theorem md_L_law_704 : decode mb_L_law 704 = .ok (.iconst 1, 1) := by decide +kernel
theorem md_L_law_705 : decode mb_L_law 705 = .ok (.iadd, 1) := by decide +kernel
theorem md_L_law_706 : decode mb_L_law 706 = .ok (.iaload, 1) := by decide +kernel
theorem md_L_law_707 : decode mb_L_law 707 = .ok (.aload_n 0, 1) := by decide +kernel
theorem md_L_law_708 : decode mb_L_law 708 = .ok (.iload 4, 2) := by decide +kernel
theorem md_L_law_710 : decode mb_L_law 710 = .ok (.iconst 2, 1) := by decide +kernel
theorem md_L_law_711 : decode mb_L_law 711 = .ok (.iadd, 1) := by decide +kernel
theorem md_L_law_712 : decode mb_L_law 712 = .ok (.iaload, 1) := by decide +kernel
theorem md_L_law_713 : decode mb_L_law 713 = .ok (.aload_n 3, 1) := by decide +kernel
theorem md_L_law_714 : decode mb_L_law 714 = .ok (.invokestatic 119, 3) := by decide +kernel
theorem md_L_law_717 : decode mb_L_law 717 = .ok (.istore 5, 2) := by decide +kernel
theorem md_L_law_719 : decode mb_L_law 719 = .ok (.aload_n 2, 1) := by decide +kernel
theorem md_L_law_720 : decode mb_L_law 720 = .ok (.aload_n 0, 1) := by decide +kernel
theorem md_L_law_721 : decode mb_L_law 721 = .ok (.iload 4, 2) := by decide +kernel
theorem md_L_law_723 : decode mb_L_law 723 = .ok (.iconst 1, 1) := by decide +kernel
theorem md_L_law_724 : decode mb_L_law 724 = .ok (.iadd, 1) := by decide +kernel
theorem md_L_law_725 : decode mb_L_law 725 = .ok (.iaload, 1) := by decide +kernel
theorem md_L_law_726 : decode mb_L_law 726 = .ok (.aload_n 0, 1) := by decide +kernel
theorem md_L_law_727 : decode mb_L_law 727 = .ok (.iload 4, 2) := by decide +kernel
theorem md_L_law_729 : decode mb_L_law 729 = .ok (.iconst 2, 1) := by decide +kernel
theorem md_L_law_730 : decode mb_L_law 730 = .ok (.iadd, 1) := by decide +kernel
theorem md_L_law_731 : decode mb_L_law 731 = .ok (.iaload, 1) := by decide +kernel
theorem md_L_law_732 : decode mb_L_law 732 = .ok (.invokevirtual 121, 3) := by decide +kernel
theorem md_L_law_735 : decode mb_L_law 735 = .ok (.lstore 6, 2) := by decide +kernel
theorem md_L_law_737 : decode mb_L_law 737 = .ok (.aload_n 2, 1) := by decide +kernel
theorem md_L_law_738 : decode mb_L_law 738 = .ok (.invokevirtual 122, 3) := by decide +kernel
theorem md_L_law_741 : decode mb_L_law 741 = .ok (.iload 5, 2) := by decide +kernel
theorem md_L_law_743 : decode mb_L_law 743 = .ok (.if_icmp .eq 5, 3) := by decide +kernel
theorem md_L_law_746 : decode mb_L_law 746 = .ok (.iconst 0, 1) := by decide +kernel
theorem md_L_law_747 : decode mb_L_law 747 = .ok (.ireturn, 1) := by decide +kernel
theorem md_L_law_748 : decode mb_L_law 748 = .ok (.iload 5, 2) := by decide +kernel
theorem md_L_law_750 : decode mb_L_law 750 = .ok (.ifCond .ne 14, 3) := by decide +kernel
theorem md_L_law_753 : decode mb_L_law 753 = .ok (.aload_n 3, 1) := by decide +kernel
theorem md_L_law_754 : decode mb_L_law 754 = .ok (.iconst 0, 1) := by decide +kernel
theorem md_L_law_755 : decode mb_L_law 755 = .ok (.laload, 1) := by decide +kernel
theorem md_L_law_756 : decode mb_L_law 756 = .ok (.lload 6, 2) := by decide +kernel
theorem md_L_law_758 : decode mb_L_law 758 = .ok (.lcmp, 1) := by decide +kernel
theorem md_L_law_759 : decode mb_L_law 759 = .ok (.ifCond .eq 5, 3) := by decide +kernel
theorem md_L_law_762 : decode mb_L_law 762 = .ok (.iconst 0, 1) := by decide +kernel
theorem md_L_law_763 : decode mb_L_law 763 = .ok (.ireturn, 1) := by decide +kernel
theorem md_L_law_764 : decode mb_L_law 764 = .ok (.goto 419, 3) := by decide +kernel
theorem md_L_law_767 : decode mb_L_law 767 = .ok (.aload_n 1, 1) := by decide +kernel
theorem md_L_law_768 : decode mb_L_law 768 = .ok (.aload_n 0, 1) := by decide +kernel
theorem md_L_law_769 : decode mb_L_law 769 = .ok (.iload 4, 2) := by decide +kernel
theorem md_L_law_771 : decode mb_L_law 771 = .ok (.iconst 1, 1) := by decide +kernel
theorem md_L_law_772 : decode mb_L_law 772 = .ok (.iadd, 1) := by decide +kernel
theorem md_L_law_773 : decode mb_L_law 773 = .ok (.iaload, 1) := by decide +kernel
theorem md_L_law_774 : decode mb_L_law 774 = .ok (.aload_n 0, 1) := by decide +kernel
theorem md_L_law_775 : decode mb_L_law 775 = .ok (.iload 4, 2) := by decide +kernel
theorem md_L_law_777 : decode mb_L_law 777 = .ok (.iconst 2, 1) := by decide +kernel
theorem md_L_law_778 : decode mb_L_law 778 = .ok (.iadd, 1) := by decide +kernel
theorem md_L_law_779 : decode mb_L_law 779 = .ok (.iaload, 1) := by decide +kernel
theorem md_L_law_780 : decode mb_L_law 780 = .ok (.i2l, 1) := by decide +kernel
theorem md_L_law_781 : decode mb_L_law 781 = .ok (.bipush 32, 2) := by decide +kernel
theorem md_L_law_783 : decode mb_L_law 783 = .ok (.lshl, 1) := by decide +kernel
theorem md_L_law_784 : decode mb_L_law 784 = .ok (.aload_n 0, 1) := by decide +kernel
theorem md_L_law_785 : decode mb_L_law 785 = .ok (.iload 4, 2) := by decide +kernel
theorem md_L_law_787 : decode mb_L_law 787 = .ok (.iconst 3, 1) := by decide +kernel
theorem md_L_law_788 : decode mb_L_law 788 = .ok (.iadd, 1) := by decide +kernel
theorem md_L_law_789 : decode mb_L_law 789 = .ok (.iaload, 1) := by decide +kernel
theorem md_L_law_790 : decode mb_L_law 790 = .ok (.i2l, 1) := by decide +kernel
theorem md_L_law_791 : decode mb_L_law 791 = .ok (.ldc2_w 94, 3) := by decide +kernel
theorem md_L_law_794 : decode mb_L_law 794 = .ok (.land, 1) := by decide +kernel
theorem md_L_law_795 : decode mb_L_law 795 = .ok (.lor, 1) := by decide +kernel
theorem md_L_law_796 : decode mb_L_law 796 = .ok (.aload_n 0, 1) := by decide +kernel
theorem md_L_law_797 : decode mb_L_law 797 = .ok (.iload 4, 2) := by decide +kernel
theorem md_L_law_799 : decode mb_L_law 799 = .ok (.iconst 4, 1) := by decide +kernel
theorem md_L_law_800 : decode mb_L_law 800 = .ok (.iadd, 1) := by decide +kernel
theorem md_L_law_801 : decode mb_L_law 801 = .ok (.iaload, 1) := by decide +kernel
theorem md_L_law_802 : decode mb_L_law 802 = .ok (.i2l, 1) := by decide +kernel
theorem md_L_law_803 : decode mb_L_law 803 = .ok (.bipush 32, 2) := by decide +kernel
theorem md_L_law_805 : decode mb_L_law 805 = .ok (.lshl, 1) := by decide +kernel
theorem md_L_law_806 : decode mb_L_law 806 = .ok (.aload_n 0, 1) := by decide +kernel
theorem md_L_law_807 : decode mb_L_law 807 = .ok (.iload 4, 2) := by decide +kernel
theorem md_L_law_809 : decode mb_L_law 809 = .ok (.iconst 5, 1) := by decide +kernel
theorem md_L_law_810 : decode mb_L_law 810 = .ok (.iadd, 1) := by decide +kernel
theorem md_L_law_811 : decode mb_L_law 811 = .ok (.iaload, 1) := by decide +kernel
theorem md_L_law_812 : decode mb_L_law 812 = .ok (.i2l, 1) := by decide +kernel
theorem md_L_law_813 : decode mb_L_law 813 = .ok (.ldc2_w 94, 3) := by decide +kernel
theorem md_L_law_816 : decode mb_L_law 816 = .ok (.land, 1) := by decide +kernel
theorem md_L_law_817 : decode mb_L_law 817 = .ok (.lor, 1) := by decide +kernel
theorem md_L_law_818 : decode mb_L_law 818 = .ok (.aload_n 0, 1) := by decide +kernel
theorem md_L_law_819 : decode mb_L_law 819 = .ok (.iload 4, 2) := by decide +kernel
theorem md_L_law_821 : decode mb_L_law 821 = .ok (.bipush 6, 2) := by decide +kernel
theorem md_L_law_823 : decode mb_L_law 823 = .ok (.iadd, 1) := by decide +kernel
theorem md_L_law_824 : decode mb_L_law 824 = .ok (.iaload, 1) := by decide +kernel
