theorem md_L_law_635 : decode mb_L_law 635 = .ok (.i2l, 1) := by decide +kernel
theorem md_L_law_636 : decode mb_L_law 636 = .ok (.bipush 32, 2) := by decide +kernel
theorem md_L_law_638 : decode mb_L_law 638 = .ok (.lshl, 1) := by decide +kernel
theorem md_L_law_639 : decode mb_L_law 639 = .ok (.aload_n 0, 1) := by decide +kernel
theorem md_L_law_640 : decode mb_L_law 640 = .ok (.iload 4, 2) := by decide +kernel
theorem md_L_law_642 : decode mb_L_law 642 = .ok (.bipush 6, 2) := by decide +kernel
theorem md_L_law_644 : decode mb_L_law 644 = .ok (.iadd, 1) := by decide +kernel
theorem md_L_law_645 : decode mb_L_law 645 = .ok (.iaload, 1) := by decide +kernel
theorem md_L_law_646 : decode mb_L_law 646 = .ok (.i2l, 1) := by decide +kernel
theorem md_L_law_647 : decode mb_L_law 647 = .ok (.ldc2_w 94, 3) := by decide +kernel
theorem md_L_law_650 : decode mb_L_law 650 = .ok (.land, 1) := by decide +kernel
theorem md_L_law_651 : decode mb_L_law 651 = .ok (.lor, 1) := by decide +kernel
theorem md_L_law_652 : decode mb_L_law 652 = .ok (.aload_n 0, 1) := by decide +kernel
theorem md_L_law_653 : decode mb_L_law 653 = .ok (.iload 4, 2) := by decide +kernel
theorem md_L_law_655 : decode mb_L_law 655 = .ok (.bipush 7, 2) := by decide +kernel
theorem md_L_law_657 : decode mb_L_law 657 = .ok (.iadd, 1) := by decide +kernel
theorem md_L_law_658 : decode mb_L_law 658 = .ok (.iaload, 1) := by decide +kernel
theorem md_L_law_659 : decode mb_L_law 659 = .ok (.i2l, 1) := by decide +kernel
theorem md_L_law_660 : decode mb_L_law 660 = .ok (.bipush 32, 2) := by decide +kernel
theorem md_L_law_662 : decode mb_L_law 662 = .ok (.lshl, 1) := by decide +kernel
theorem md_L_law_663 : decode mb_L_law 663 = .ok (.aload_n 0, 1) := by decide +kernel
theorem md_L_law_664 : decode mb_L_law 664 = .ok (.iload 4, 2) := by decide +kernel
theorem md_L_law_666 : decode mb_L_law 666 = .ok (.bipush 8, 2) := by decide +kernel
theorem md_L_law_668 : decode mb_L_law 668 = .ok (.iadd, 1) := by decide +kernel
theorem md_L_law_669 : decode mb_L_law 669 = .ok (.iaload, 1) := by decide +kernel
theorem md_L_law_670 : decode mb_L_law 670 = .ok (.i2l, 1) := by decide +kernel
theorem md_L_law_671 : decode mb_L_law 671 = .ok (.ldc2_w 94, 3) := by decide +kernel
theorem md_L_law_674 : decode mb_L_law 674 = .ok (.land, 1) := by decide +kernel
theorem md_L_law_675 : decode mb_L_law 675 = .ok (.lor, 1) := by decide +kernel
theorem md_L_law_676 : decode mb_L_law 676 = .ok (.invokevirtual 113, 3) := by decide +kernel
theorem md_L_law_679 : decode mb_L_law 679 = .ok (.istore 6, 2) := by decide +kernel
theorem md_L_law_681 : decode mb_L_law 681 = .ok (.goto 503, 3) := by decide +kernel
theorem md_L_law_684 : decode mb_L_law 684 = .ok (.aload_n 1, 1) := by decide +kernel
theorem md_L_law_685 : decode mb_L_law 685 = .ok (.aload_n 0, 1) := by decide +kernel
theorem md_L_law_686 : decode mb_L_law 686 = .ok (.iload 4, 2) := by decide +kernel
theorem md_L_law_688 : decode mb_L_law 688 = .ok (.iconst 1, 1) := by decide +kernel
theorem md_L_law_689 : decode mb_L_law 689 = .ok (.iadd, 1) := by decide +kernel
theorem md_L_law_690 : decode mb_L_law 690 = .ok (.iaload, 1) := by decide +kernel
theorem md_L_law_691 : decode mb_L_law 691 = .ok (.aload_n 3, 1) := by decide +kernel
theorem md_L_law_692 : decode mb_L_law 692 = .ok (.invokestatic 114, 3) := by decide +kernel
theorem md_L_law_695 : decode mb_L_law 695 = .ok (.istore 5, 2) := by decide +kernel
theorem md_L_law_697 : decode mb_L_law 697 = .ok (.aload_n 2, 1) := by decide +kernel
theorem md_L_law_698 : decode mb_L_law 698 = .ok (.aload_n 0, 1) := by decide +kernel
theorem md_L_law_699 : decode mb_L_law 699 = .ok (.iload 4, 2) := by decide +kernel
theorem md_L_law_701 : decode mb_L_law 701 = .ok (.iconst 1, 1) := by decide +kernel
theorem md_L_law_702 : decode mb_L_law 702 = .ok (.iadd, 1) := by decide +kernel
theorem md_L_law_703 : decode mb_L_law 703 = .ok (.iaload, 1) := by decide +kernel
theorem md_L_law_704 : decode mb_L_law 704 = .ok (.invokevirtual 117, 3) := by decide +kernel
theorem md_L_law_707 : decode mb_L_law 707 = .ok (.lstore 6, 2) := by decide +kernel
theorem md_L_law_709 : decode mb_L_law 709 = .ok (.goto 475, 3) := by decide +kernel
theorem md_L_law_712 : decode mb_L_law 712 = .ok (.aload_n 1, 1) := by decide +kernel
theorem md_L_law_713 : decode mb_L_law 713 = .ok (.aload_n 3, 1) := by decide +kernel
theorem md_L_law_714 : decode mb_L_law 714 = .ok (.invokestatic 118, 3) := by decide +kernel
theorem md_L_law_717 : decode mb_L_law 717 = .ok (.istore 5, 2) := by decide +kernel
theorem md_L_law_719 : decode mb_L_law 719 = .ok (.aload_n 2, 1) := by decide +kernel
theorem md_L_law_720 : decode mb_L_law 720 = .ok (.invokevirtual 121, 3) := by decide +kernel
theorem md_L_law_723 : decode mb_L_law 723 = .ok (.istore 6, 2) := by decide +kernel
theorem md_L_law_725 : decode mb_L_law 725 = .ok (.goto 459, 3) := by decide +kernel
theorem md_L_law_728 : decode mb_L_law 728 = .ok (.aload_n 1, 1) := by decide +kernel
theorem md_L_law_729 : decode mb_L_law 729 = .ok (.aload_n 0, 1) := by decide +kernel
theorem md_L_law_730 : decode mb_L_law 730 = .ok (.iload 4, 2) := by decide +kernel
theorem md_L_law_732 : decode mb_L_law 732 = .ok (.iconst 1, 1) := by decide +kernel
theorem md_L_law_733 : decode mb_L_law 733 = .ok (.iadd, 1) := by decide +kernel
theorem md_L_law_734 : decode mb_L_law 734 = .ok (.iaload, 1) := by decide +kernel
theorem md_L_law_735 : decode mb_L_law 735 = .ok (.aload_n 0, 1) := by decide +kernel
theorem md_L_law_736 : decode mb_L_law 736 = .ok (.iload 4, 2) := by decide +kernel
theorem md_L_law_738 : decode mb_L_law 738 = .ok (.iconst 2, 1) := by decide +kernel
theorem md_L_law_739 : decode mb_L_law 739 = .ok (.iadd, 1) := by decide +kernel
theorem md_L_law_740 : decode mb_L_law 740 = .ok (.iaload, 1) := by decide +kernel
theorem md_L_law_741 : decode mb_L_law 741 = .ok (.aload_n 3, 1) := by decide +kernel
theorem md_L_law_742 : decode mb_L_law 742 = .ok (.invokestatic 122, 3) := by decide +kernel
theorem md_L_law_745 : decode mb_L_law 745 = .ok (.istore 5, 2) := by decide +kernel
theorem md_L_law_747 : decode mb_L_law 747 = .ok (.aload_n 2, 1) := by decide +kernel
theorem md_L_law_748 : decode mb_L_law 748 = .ok (.aload_n 0, 1) := by decide +kernel
theorem md_L_law_749 : decode mb_L_law 749 = .ok (.iload 4, 2) := by decide +kernel
theorem md_L_law_751 : decode mb_L_law 751 = .ok (.iconst 1, 1) := by decide +kernel
theorem md_L_law_752 : decode mb_L_law 752 = .ok (.iadd, 1) := by decide +kernel
theorem md_L_law_753 : decode mb_L_law 753 = .ok (.iaload, 1) := by decide +kernel
theorem md_L_law_754 : decode mb_L_law 754 = .ok (.aload_n 0, 1) := by decide +kernel
theorem md_L_law_755 : decode mb_L_law 755 = .ok (.iload 4, 2) := by decide +kernel
theorem md_L_law_757 : decode mb_L_law 757 = .ok (.iconst 2, 1) := by decide +kernel
theorem md_L_law_758 : decode mb_L_law 758 = .ok (.iadd, 1) := by decide +kernel
theorem md_L_law_759 : decode mb_L_law 759 = .ok (.iaload, 1) := by decide +kernel
theorem md_L_law_760 : decode mb_L_law 760 = .ok (.invokevirtual 124, 3) := by decide +kernel
theorem md_L_law_763 : decode mb_L_law 763 = .ok (.lstore 6, 2) := by decide +kernel
theorem md_L_law_765 : decode mb_L_law 765 = .ok (.goto 419, 3) := by decide +kernel
theorem md_L_law_768 : decode mb_L_law 768 = .ok (.aload_n 1, 1) := by decide +kernel
theorem md_L_law_769 : decode mb_L_law 769 = .ok (.aload_n 0, 1) := by decide +kernel
theorem md_L_law_770 : decode mb_L_law 770 = .ok (.iload 4, 2) := by decide +kernel
theorem md_L_law_772 : decode mb_L_law 772 = .ok (.iconst 1, 1) := by decide +kernel
theorem md_L_law_773 : decode mb_L_law 773 = .ok (.iadd, 1) := by decide +kernel
theorem md_L_law_774 : decode mb_L_law 774 = .ok (.iaload, 1) := by decide +kernel
theorem md_L_law_775 : decode mb_L_law 775 = .ok (.aload_n 0, 1) := by decide +kernel
theorem md_L_law_776 : decode mb_L_law 776 = .ok (.iload 4, 2) := by decide +kernel
theorem md_L_law_778 : decode mb_L_law 778 = .ok (.iconst 2, 1) := by decide +kernel
theorem md_L_law_779 : decode mb_L_law 779 = .ok (.iadd, 1) := by decide +kernel
theorem md_L_law_780 : decode mb_L_law 780 = .ok (.iaload, 1) := by decide +kernel
theorem md_L_law_781 : decode mb_L_law 781 = .ok (.i2l, 1) := by decide +kernel
theorem md_L_law_782 : decode mb_L_law 782 = .ok (.bipush 32, 2) := by decide +kernel
theorem md_L_law_784 : decode mb_L_law 784 = .ok (.lshl, 1) := by decide +kernel
theorem md_L_law_785 : decode mb_L_law 785 = .ok (.aload_n 0, 1) := by decide +kernel
theorem md_L_law_786 : decode mb_L_law 786 = .ok (.iload 4, 2) := by decide +kernel
theorem md_L_law_788 : decode mb_L_law 788 = .ok (.iconst 3, 1) := by decide +kernel
theorem md_L_law_789 : decode mb_L_law 789 = .ok (.iadd, 1) := by decide +kernel
theorem md_L_law_790 : decode mb_L_law 790 = .ok (.iaload, 1) := by decide +kernel
theorem md_L_law_791 : decode mb_L_law 791 = .ok (.i2l, 1) := by decide +kernel
theorem md_L_law_792 : decode mb_L_law 792 = .ok (.ldc2_w 94, 3) := by decide +kernel
theorem md_L_law_795 : decode mb_L_law 795 = .ok (.land, 1) := by decide +kernel
theorem md_L_law_796 : decode mb_L_law 796 = .ok (.lor, 1) := by decide +kernel
theorem md_L_law_797 : decode mb_L_law 797 = .ok (.aload_n 0, 1) := by decide +kernel
theorem md_L_law_798 : decode mb_L_law 798 = .ok (.iload 4, 2) := by decide +kernel
theorem md_L_law_800 : decode mb_L_law 800 = .ok (.iconst 4, 1) := by decide +kernel
theorem md_L_law_801 : decode mb_L_law 801 = .ok (.iadd, 1) := by decide +kernel
theorem md_L_law_802 : decode mb_L_law 802 = .ok (.iaload, 1) := by decide +kernel
theorem md_L_law_803 : decode mb_L_law 803 = .ok (.i2l, 1) := by decide +kernel
theorem md_L_law_804 : decode mb_L_law 804 = .ok (.bipush 32, 2) := by decide +kernel
theorem md_L_law_806 : decode mb_L_law 806 = .ok (.lshl, 1) := by decide +kernel
theorem md_L_law_807 : decode mb_L_law 807 = .ok (.aload_n 0, 1) := by decide +kernel
theorem md_L_law_808 : decode mb_L_law 808 = .ok (.iload 4, 2) := by decide +kernel
theorem md_L_law_810 : decode mb_L_law 810 = .ok (.iconst 5, 1) := by decide +kernel
theorem md_L_law_811 : decode mb_L_law 811 = .ok (.iadd, 1) := by decide +kernel
theorem md_L_law_812 : decode mb_L_law 812 = .ok (.iaload, 1) := by decide +kernel
theorem md_L_law_813 : decode mb_L_law 813 = .ok (.i2l, 1) := by decide +kernel
theorem md_L_law_814 : decode mb_L_law 814 = .ok (.ldc2_w 94, 3) := by decide +kernel
theorem md_L_law_817 : decode mb_L_law 817 = .ok (.land, 1) := by decide +kernel
theorem md_L_law_818 : decode mb_L_law 818 = .ok (.lor, 1) := by decide +kernel
theorem md_L_law_819 : decode mb_L_law 819 = .ok (.aload_n 0, 1) := by decide +kernel
theorem md_L_law_820 : decode mb_L_law 820 = .ok (.iload 4, 2) := by decide +kernel
theorem md_L_law_822 : decode mb_L_law 822 = .ok (.bipush 6, 2) := by decide +kernel
theorem md_L_law_824 : decode mb_L_law 824 = .ok (.iadd, 1) := by decide +kernel
