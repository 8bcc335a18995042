theorem md_L_law_639 : decode mb_L_law 639 = .ok (.iconst 5, 1) := by decide +kernel
theorem md_L_law_640 : decode mb_L_law 640 = .ok (.iadd, 1) := by decide +kernel
theorem md_L_law_641 : decode mb_L_law 641 = .ok (.iaload, 1) := by decide +kernel
theorem md_L_law_642 : decode mb_L_law 642 = .ok (.i2l, 1) := by decide +kernel
theorem md_L_law_643 : decode mb_L_law 643 = .ok (.bipush 32, 2) := by decide +kernel
theorem md_L_law_645 : decode mb_L_law 645 = .ok (.lshl, 1) := by decide +kernel
theorem md_L_law_646 : decode mb_L_law 646 = .ok (.aload_n 0, 1) := by decide +kernel
theorem md_L_law_647 : decode mb_L_law 647 = .ok (.iload 4, 2) := by decide +kernel
theorem md_L_law_649 : decode mb_L_law 649 = .ok (.bipush 6, 2) := by decide +kernel
theorem md_L_law_651 : decode mb_L_law 651 = .ok (.iadd, 1) := by decide +kernel
theorem md_L_law_652 : decode mb_L_law 652 = .ok (.iaload, 1) := by decide +kernel
theorem md_L_law_653 : decode mb_L_law 653 = .ok (.i2l, 1) := by decide +kernel
theorem md_L_law_654 : decode mb_L_law 654 = .ok (.ldc2_w 97, 3) := by decide +kernel
theorem md_L_law_657 : decode mb_L_law 657 = .ok (.land, 1) := by decide +kernel
theorem md_L_law_658 : decode mb_L_law 658 = .ok (.lor, 1) := by decide +kernel
theorem md_L_law_659 : decode mb_L_law 659 = .ok (.aload_n 0, 1) := by decide +kernel
theorem md_L_law_660 : decode mb_L_law 660 = .ok (.iload 4, 2) := by decide +kernel
theorem md_L_law_662 : decode mb_L_law 662 = .ok (.bipush 7, 2) := by decide +kernel
theorem md_L_law_664 : decode mb_L_law 664 = .ok (.iadd, 1) := by decide +kernel
theorem md_L_law_665 : decode mb_L_law 665 = .ok (.iaload, 1) := by decide +kernel
theorem md_L_law_666 : decode mb_L_law 666 = .ok (.i2l, 1) := by decide +kernel
theorem md_L_law_667 : decode mb_L_law 667 = .ok (.bipush 32, 2) := by decide +kernel
theorem md_L_law_669 : decode mb_L_law 669 = .ok (.lshl, 1) := by decide +kernel
theorem md_L_law_670 : decode mb_L_law 670 = .ok (.aload_n 0, 1) := by decide +kernel
theorem md_L_law_671 : decode mb_L_law 671 = .ok (.iload 4, 2) := by decide +kernel
theorem md_L_law_673 : decode mb_L_law 673 = .ok (.bipush 8, 2) := by decide +kernel
theorem md_L_law_675 : decode mb_L_law 675 = .ok (.iadd, 1) := by decide +kernel
theorem md_L_law_676 : decode mb_L_law 676 = .ok (.iaload, 1) := by decide +kernel
theorem md_L_law_677 : decode mb_L_law 677 = .ok (.i2l, 1) := by decide +kernel
theorem md_L_law_678 : decode mb_L_law 678 = .ok (.ldc2_w 97, 3) := by decide +kernel
theorem md_L_law_681 : decode mb_L_law 681 = .ok (.land, 1) := by decide +kernel
theorem md_L_law_682 : decode mb_L_law 682 = .ok (.lor, 1) := by decide +kernel
theorem md_L_law_683 : decode mb_L_law 683 = .ok (.invokevirtual 113, 3) := by decide +kernel
theorem md_L_law_686 : decode mb_L_law 686 = .ok (.istore 6, 2) := by decide +kernel
theorem md_L_law_688 : decode mb_L_law 688 = .ok (.goto 503, 3) := by decide +kernel
theorem md_L_law_691 : decode mb_L_law 691 = .ok (.aload_n 1, 1) := by decide +kernel
theorem md_L_law_692 : decode mb_L_law 692 = .ok (.aload_n 0, 1) := by decide +kernel
theorem md_L_law_693 : decode mb_L_law 693 = .ok (.iload 4, 2) := by decide +kernel
theorem md_L_law_695 : decode mb_L_law 695 = .ok (.iconst 1, 1) := by decide +kernel
theorem md_L_law_696 : decode mb_L_law 696 = .ok (.iadd, 1) := by decide +kernel
theorem md_L_law_697 : decode mb_L_law 697 = .ok (.iaload, 1) := by decide +kernel
theorem md_L_law_698 : decode mb_L_law 698 = .ok (.aload_n 3, 1) := by decide +kernel
theorem md_L_law_699 : decode mb_L_law 699 = .ok (.invokestatic 114, 3) := by decide +kernel
theorem md_L_law_702 : decode mb_L_law 702 = .ok (.istore 5, 2) := by decide +kernel
theorem md_L_law_704 : decode mb_L_law 704 = .ok (.aload_n 2, 1) := by decide +kernel
theorem md_L_law_705 : decode mb_L_law 705 = .ok (.aload_n 0, 1) := by decide +kernel
theorem md_L_law_706 : decode mb_L_law 706 = .ok (.iload 4, 2) := by decide +kernel
theorem md_L_law_708 : decode mb_L_law 708 = .ok (.iconst 1, 1) := by decide +kernel
theorem md_L_law_709 : decode mb_L_law 709 = .ok (.iadd, 1) := by decide +kernel
theorem md_L_law_710 : decode mb_L_law 710 = .ok (.iaload, 1) := by decide +kernel
theorem md_L_law_711 : decode mb_L_law 711 = .ok (.invokevirtual 117, 3) := by decide +kernel
theorem md_L_law_714 : decode mb_L_law 714 = .ok (.lstore 6, 2) := by decide +kernel
theorem md_L_law_716 : decode mb_L_law 716 = .ok (.goto 475, 3) := by decide +kernel
theorem md_L_law_719 : decode mb_L_law 719 = .ok (.aload_n 1, 1) := by decide +kernel
theorem md_L_law_720 : decode mb_L_law 720 = .ok (.aload_n 3, 1) := by decide +kernel
theorem md_L_law_721 : decode mb_L_law 721 = .ok (.invokestatic 118, 3) := by decide +kernel
theorem md_L_law_724 : decode mb_L_law 724 = .ok (.istore 5, 2) := by decide +kernel
theorem md_L_law_726 : decode mb_L_law 726 = .ok (.aload_n 2, 1) := by decide +kernel
theorem md_L_law_727 : decode mb_L_law 727 = .ok (.invokevirtual 121, 3) := by decide +kernel
theorem md_L_law_730 : decode mb_L_law 730 = .ok (.istore 6, 2) := by decide +kernel
theorem md_L_law_732 : decode mb_L_law 732 = .ok (.goto 459, 3) := by decide +kernel
theorem md_L_law_735 : decode mb_L_law 735 = .ok (.aload_n 1, 1) := by decide +kernel
theorem md_L_law_736 : decode mb_L_law 736 = .ok (.aload_n 0, 1) := by decide +kernel
theorem md_L_law_737 : decode mb_L_law 737 = .ok (.iload 4, 2) := by decide +kernel
theorem md_L_law_739 : decode mb_L_law 739 = .ok (.iconst 1, 1) := by decide +kernel
theorem md_L_law_740 : decode mb_L_law 740 = .ok (.iadd, 1) := by decide +kernel
theorem md_L_law_741 : decode mb_L_law 741 = .ok (.iaload, 1) := by decide +kernel
theorem md_L_law_742 : decode mb_L_law 742 = .ok (.aload_n 0, 1) := by decide +kernel
theorem md_L_law_743 : decode mb_L_law 743 = .ok (.iload 4, 2) := by decide +kernel
theorem md_L_law_745 : decode mb_L_law 745 = .ok (.iconst 2, 1) := by decide +kernel
theorem md_L_law_746 : decode mb_L_law 746 = .ok (.iadd, 1) := by decide +kernel
theorem md_L_law_747 : decode mb_L_law 747 = .ok (.iaload, 1) := by decide +kernel
theorem md_L_law_748 : decode mb_L_law 748 = .ok (.aload_n 3, 1) := by decide +kernel
theorem md_L_law_749 : decode mb_L_law 749 = .ok (.invokestatic 122, 3) := by decide +kernel
theorem md_L_law_752 : decode mb_L_law 752 = .ok (.istore 5, 2) := by decide +kernel
theorem md_L_law_754 : decode mb_L_law 754 = .ok (.aload_n 2, 1) := by decide +kernel
theorem md_L_law_755 : decode mb_L_law 755 = .ok (.aload_n 0, 1) := by decide +kernel
theorem md_L_law_756 : decode mb_L_law 756 = .ok (.iload 4, 2) := by decide +kernel
theorem md_L_law_758 : decode mb_L_law 758 = .ok (.iconst 1, 1) := by decide +kernel
theorem md_L_law_759 : decode mb_L_law 759 = .ok (.iadd, 1) := by decide +kernel
theorem md_L_law_760 : decode mb_L_law 760 = .ok (.iaload, 1) := by decide +kernel
theorem md_L_law_761 : decode mb_L_law 761 = .ok (.aload_n 0, 1) := by decide +kernel
theorem md_L_law_762 : decode mb_L_law 762 = .ok (.iload 4, 2) := by decide +kernel
theorem md_L_law_764 : decode mb_L_law 764 = .ok (.iconst 2, 1) := by decide +kernel
theorem md_L_law_765 : decode mb_L_law 765 = .ok (.iadd, 1) := by decide +kernel
theorem md_L_law_766 : decode mb_L_law 766 = .ok (.iaload, 1) := by decide +kernel
theorem md_L_law_767 : decode mb_L_law 767 = .ok (.invokevirtual 124, 3) := by decide +kernel
theorem md_L_law_770 : decode mb_L_law 770 = .ok (.lstore 6, 2) := by decide +kernel
theorem md_L_law_772 : decode mb_L_law 772 = .ok (.goto 419, 3) := by decide +kernel
theorem md_L_law_775 : decode mb_L_law 775 = .ok (.aload_n 1, 1) := by decide +kernel
theorem md_L_law_776 : decode mb_L_law 776 = .ok (.aload_n 0, 1) := by decide +kernel
theorem md_L_law_777 : decode mb_L_law 777 = .ok (.iload 4, 2) := by decide +kernel
theorem md_L_law_779 : decode mb_L_law 779 = .ok (.iconst 1, 1) := by decide +kernel
theorem md_L_law_780 : decode mb_L_law 780 = .ok (.iadd, 1) := by decide +kernel
theorem md_L_law_781 : decode mb_L_law 781 = .ok (.iaload, 1) := by decide +kernel
theorem md_L_law_782 : decode mb_L_law 782 = .ok (.aload_n 0, 1) := by decide +kernel
theorem md_L_law_783 : decode mb_L_law 783 = .ok (.iload 4, 2) := by decide +kernel
theorem md_L_law_785 : decode mb_L_law 785 = .ok (.iconst 2, 1) := by decide +kernel
theorem md_L_law_786 : decode mb_L_law 786 = .ok (.iadd, 1) := by decide +kernel
theorem md_L_law_787 : decode mb_L_law 787 = .ok (.iaload, 1) := by decide +kernel
theorem md_L_law_788 : decode mb_L_law 788 = .ok (.i2l, 1) := by decide +kernel
theorem md_L_law_789 : decode mb_L_law 789 = .ok (.bipush 32, 2) := by decide +kernel
theorem md_L_law_791 : decode mb_L_law 791 = .ok (.lshl, 1) := by decide +kernel
theorem md_L_law_792 : decode mb_L_law 792 = .ok (.aload_n 0, 1) := by decide +kernel
theorem md_L_law_793 : decode mb_L_law 793 = .ok (.iload 4, 2) := by decide +kernel
theorem md_L_law_795 : decode mb_L_law 795 = .ok (.iconst 3, 1) := by decide +kernel
theorem md_L_law_796 : decode mb_L_law 796 = .ok (.iadd, 1) := by decide +kernel
theorem md_L_law_797 : decode mb_L_law 797 = .ok (.iaload, 1) := by decide +kernel
theorem md_L_law_798 : decode mb_L_law 798 = .ok (.i2l, 1) := by decide +kernel
theorem md_L_law_799 : decode mb_L_law 799 = .ok (.ldc2_w 97, 3) := by decide +kernel
theorem md_L_law_802 : decode mb_L_law 802 = .ok (.land, 1) := by decide +kernel
theorem md_L_law_803 : decode mb_L_law 803 = .ok (.lor, 1) := by decide +kernel
theorem md_L_law_804 : decode mb_L_law 804 = .ok (.aload_n 0, 1) := by decide +kernel
theorem md_L_law_805 : decode mb_L_law 805 = .ok (.iload 4, 2) := by decide +kernel
theorem md_L_law_807 : decode mb_L_law 807 = .ok (.iconst 4, 1) := by decide +kernel
theorem md_L_law_808 : decode mb_L_law 808 = .ok (.iadd, 1) := by decide +kernel
theorem md_L_law_809 : decode mb_L_law 809 = .ok (.iaload, 1) := by decide +kernel
theorem md_L_law_810 : decode mb_L_law 810 = .ok (.i2l, 1) := by decide +kernel
theorem md_L_law_811 : decode mb_L_law 811 = .ok (.bipush 32, 2) := by decide +kernel
theorem md_L_law_813 : decode mb_L_law 813 = .ok (.lshl, 1) := by decide +kernel
theorem md_L_law_814 : decode mb_L_law 814 = .ok (.aload_n 0, 1) := by decide +kernel
theorem md_L_law_815 : decode mb_L_law 815 = .ok (.iload 4, 2) := by decide +kernel
theorem md_L_law_817 : decode mb_L_law 817 = .ok (.iconst 5, 1) := by decide +kernel
theorem md_L_law_818 : decode mb_L_law 818 = .ok (.iadd, 1) := by decide +kernel
theorem md_L_law_819 : decode mb_L_law 819 = .ok (.iaload, 1) := by decide +kernel
theorem md_L_law_820 : decode mb_L_law 820 = .ok (.i2l, 1) := by decide +kernel
theorem md_L_law_821 : decode mb_L_law 821 = .ok (.ldc2_w 97, 3) := by decide +kernel
theorem md_L_law_824 : decode mb_L_law 824 = .ok (.land, 1) := by decide +kernel
theorem md_L_law_825 : decode mb_L_law 825 = .ok (.lor, 1) := by decide +kernel
theorem md_L_law_826 : decode mb_L_law 826 = .ok (.aload_n 0, 1) := by decide +kernel
