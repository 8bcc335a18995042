theorem md_L_law_822 : decode mb_L_law 822 = .ok (.aload_n 0, 1) := by decide +kernel
theorem md_L_law_823 : decode mb_L_law 823 = .ok (.iload 4, 2) := by decide +kernel
theorem md_L_law_825 : decode mb_L_law 825 = .ok (.iconst 1, 1) := by decide +kernel
theorem md_L_law_826 : decode mb_L_law 826 = .ok (.iadd, 1) := by decide +kernel
theorem md_L_law_827 : decode mb_L_law 827 = .ok (.iaload, 1) := by decide +kernel
theorem md_L_law_828 : decode mb_L_law 828 = .ok (.aload_n 0, 1) := by decide +kernel
theorem md_L_law_829 : decode mb_L_law 829 = .ok (.iload 4, 2) := by decide +kernel
theorem md_L_law_831 : decode mb_L_law 831 = .ok (.iconst 2, 1) := by decide +kernel
theorem md_L_law_832 : decode mb_L_law 832 = .ok (.iadd, 1) := by decide +kernel
theorem md_L_law_833 : decode mb_L_law 833 = .ok (.iaload, 1) := by decide +kernel
theorem md_L_law_834 : decode mb_L_law 834 = .ok (.i2l, 1) := by decide +kernel
theorem md_L_law_835 : decode mb_L_law 835 = .ok (.bipush 32, 2) := by decide +kernel
theorem md_L_law_837 : decode mb_L_law 837 = .ok (.lshl, 1) := by decide +kernel
theorem md_L_law_838 : decode mb_L_law 838 = .ok (.aload_n 0, 1) := by decide +kernel
theorem md_L_law_839 : decode mb_L_law 839 = .ok (.iload 4, 2) := by decide +kernel
theorem md_L_law_841 : decode mb_L_law 841 = .ok (.iconst 3, 1) := by decide +kernel
theorem md_L_law_842 : decode mb_L_law 842 = .ok (.iadd, 1) := by decide +kernel
theorem md_L_law_843 : decode mb_L_law 843 = .ok (.iaload, 1) := by decide +kernel
theorem md_L_law_844 : decode mb_L_law 844 = .ok (.i2l, 1) := by decide +kernel
theorem md_L_law_845 : decode mb_L_law 845 = .ok (.ldc2_w 94, 3) := by decide +kernel
theorem md_L_law_848 : decode mb_L_law 848 = .ok (.land, 1) := by decide +kernel
theorem md_L_law_849 : decode mb_L_law 849 = .ok (.lor, 1) := by decide +kernel
theorem md_L_law_850 : decode mb_L_law 850 = .ok (.aload_n 0, 1) := by decide +kernel
theorem md_L_law_851 : decode mb_L_law 851 = .ok (.iload 4, 2) := by decide +kernel
theorem md_L_law_853 : decode mb_L_law 853 = .ok (.iconst 4, 1) := by decide +kernel
theorem md_L_law_854 : decode mb_L_law 854 = .ok (.iadd, 1) := by decide +kernel
theorem md_L_law_855 : decode mb_L_law 855 = .ok (.iaload, 1) := by decide +kernel
theorem md_L_law_856 : decode mb_L_law 856 = .ok (.i2l, 1) := by decide +kernel
theorem md_L_law_857 : decode mb_L_law 857 = .ok (.bipush 32, 2) := by decide +kernel
theorem md_L_law_859 : decode mb_L_law 859 = .ok (.lshl, 1) := by decide +kernel
theorem md_L_law_860 : decode mb_L_law 860 = .ok (.aload_n 0, 1) := by decide +kernel
theorem md_L_law_861 : decode mb_L_law 861 = .ok (.iload 4, 2) := by decide +kernel
theorem md_L_law_863 : decode mb_L_law 863 = .ok (.iconst 5, 1) := by decide +kernel
theorem md_L_law_864 : decode mb_L_law 864 = .ok (.iadd, 1) := by decide +kernel
theorem md_L_law_865 : decode mb_L_law 865 = .ok (.iaload, 1) := by decide +kernel
theorem md_L_law_866 : decode mb_L_law 866 = .ok (.i2l, 1) := by decide +kernel
theorem md_L_law_867 : decode mb_L_law 867 = .ok (.ldc2_w 94, 3) := by decide +kernel
theorem md_L_law_870 : decode mb_L_law 870 = .ok (.land, 1) := by decide +kernel
theorem md_L_law_871 : decode mb_L_law 871 = .ok (.lor, 1) := by decide +kernel
theorem md_L_law_872 : decode mb_L_law 872 = .ok (.aload_n 0, 1) := by decide +kernel
theorem md_L_law_873 : decode mb_L_law 873 = .ok (.iload 4, 2) := by decide +kernel
theorem md_L_law_875 : decode mb_L_law 875 = .ok (.bipush 6, 2) := by decide +kernel
theorem md_L_law_877 : decode mb_L_law 877 = .ok (.iadd, 1) := by decide +kernel
theorem md_L_law_878 : decode mb_L_law 878 = .ok (.iaload, 1) := by decide +kernel
theorem md_L_law_879 : decode mb_L_law 879 = .ok (.i2l, 1) := by decide +kernel
theorem md_L_law_880 : decode mb_L_law 880 = .ok (.bipush 32, 2) := by decide +kernel
theorem md_L_law_882 : decode mb_L_law 882 = .ok (.lshl, 1) := by decide +kernel
theorem md_L_law_883 : decode mb_L_law 883 = .ok (.aload_n 0, 1) := by decide +kernel
theorem md_L_law_884 : decode mb_L_law 884 = .ok (.iload 4, 2) := by decide +kernel
theorem md_L_law_886 : decode mb_L_law 886 = .ok (.bipush 7, 2) := by decide +kernel
theorem md_L_law_888 : decode mb_L_law 888 = .ok (.iadd, 1) := by decide +kernel
theorem md_L_law_889 : decode mb_L_law 889 = .ok (.iaload, 1) := by decide +kernel
theorem md_L_law_890 : decode mb_L_law 890 = .ok (.i2l, 1) := by decide +kernel
theorem md_L_law_891 : decode mb_L_law 891 = .ok (.ldc2_w 94, 3) := by decide +kernel
theorem md_L_law_894 : decode mb_L_law 894 = .ok (.land, 1) := by decide +kernel
theorem md_L_law_895 : decode mb_L_law 895 = .ok (.lor, 1) := by decide +kernel
theorem md_L_law_896 : decode mb_L_law 896 = .ok (.invokevirtual 125, 3) := by decide +kernel
theorem md_L_law_899 : decode mb_L_law 899 = .ok (.istore 6, 2) := by decide +kernel
theorem md_L_law_901 : decode mb_L_law 901 = .ok (.goto 283, 3) := by decide +kernel
theorem md_L_law_904 : decode mb_L_law 904 = .ok (.aload_n 1, 1) := by decide +kernel
theorem md_L_law_905 : decode mb_L_law 905 = .ok (.aload_n 0, 1) := by decide +kernel
theorem md_L_law_906 : decode mb_L_law 906 = .ok (.iload 4, 2) := by decide +kernel
theorem md_L_law_908 : decode mb_L_law 908 = .ok (.iconst 1, 1) := by decide +kernel
theorem md_L_law_909 : decode mb_L_law 909 = .ok (.iadd, 1) := by decide +kernel
theorem md_L_law_910 : decode mb_L_law 910 = .ok (.iaload, 1) := by decide +kernel
theorem md_L_law_911 : decode mb_L_law 911 = .ok (.aload_n 0, 1) := by decide +kernel
theorem md_L_law_912 : decode mb_L_law 912 = .ok (.iload 4, 2) := by decide +kernel
theorem md_L_law_914 : decode mb_L_law 914 = .ok (.iconst 2, 1) := by decide +kernel
theorem md_L_law_915 : decode mb_L_law 915 = .ok (.iadd, 1) := by decide +kernel
theorem md_L_law_916 : decode mb_L_law 916 = .ok (.iaload, 1) := by decide +kernel
theorem md_L_law_917 : decode mb_L_law 917 = .ok (.aload_n 3, 1) := by decide +kernel
theorem md_L_law_918 : decode mb_L_law 918 = .ok (.invokestatic 126, 3) := by decide +kernel
theorem md_L_law_921 : decode mb_L_law 921 = .ok (.istore 5, 2) := by decide +kernel
theorem md_L_law_923 : decode mb_L_law 923 = .ok (.aload_n 2, 1) := by decide +kernel
theorem md_L_law_924 : decode mb_L_law 924 = .ok (.aload_n 0, 1) := by decide +kernel
theorem md_L_law_925 : decode mb_L_law 925 = .ok (.iload 4, 2) := by decide +kernel
theorem md_L_law_927 : decode mb_L_law 927 = .ok (.iconst 1, 1) := by decide +kernel
theorem md_L_law_928 : decode mb_L_law 928 = .ok (.iadd, 1) := by decide +kernel
theorem md_L_law_929 : decode mb_L_law 929 = .ok (.iaload, 1) := by decide +kernel
theorem md_L_law_930 : decode mb_L_law 930 = .ok (.aload_n 0, 1) := by decide +kernel
theorem md_L_law_931 : decode mb_L_law 931 = .ok (.iload 4, 2) := by decide +kernel
theorem md_L_law_933 : decode mb_L_law 933 = .ok (.iconst 2, 1) := by decide +kernel
theorem md_L_law_934 : decode mb_L_law 934 = .ok (.iadd, 1) := by decide +kernel
theorem md_L_law_935 : decode mb_L_law 935 = .ok (.iaload, 1) := by decide +kernel
theorem md_L_law_936 : decode mb_L_law 936 = .ok (.invokevirtual 128, 3) := by decide +kernel
theorem md_L_law_939 : decode mb_L_law 939 = .ok (.istore 6, 2) := by decide +kernel
theorem md_L_law_941 : decode mb_L_law 941 = .ok (.goto 243, 3) := by decide +kernel
theorem md_L_law_944 : decode mb_L_law 944 = .ok (.aload_n 1, 1) := by decide +kernel
theorem md_L_law_945 : decode mb_L_law 945 = .ok (.aload_n 0, 1) := by decide +kernel
theorem md_L_law_946 : decode mb_L_law 946 = .ok (.iload 4, 2) := by decide +kernel
theorem md_L_law_948 : decode mb_L_law 948 = .ok (.iconst 1, 1) := by decide +kernel
theorem md_L_law_949 : decode mb_L_law 949 = .ok (.iadd, 1) := by decide +kernel
theorem md_L_law_950 : decode mb_L_law 950 = .ok (.iaload, 1) := by decide +kernel
theorem md_L_law_951 : decode mb_L_law 951 = .ok (.aload_n 3, 1) := by decide +kernel
theorem md_L_law_952 : decode mb_L_law 952 = .ok (.invokestatic 129, 3) := by decide +kernel
theorem md_L_law_955 : decode mb_L_law 955 = .ok (.istore 5, 2) := by decide +kernel
theorem md_L_law_957 : decode mb_L_law 957 = .ok (.aload_n 2, 1) := by decide +kernel
theorem md_L_law_958 : decode mb_L_law 958 = .ok (.aload_n 0, 1) := by decide +kernel
theorem md_L_law_959 : decode mb_L_law 959 = .ok (.iload 4, 2) := by decide +kernel
theorem md_L_law_961 : decode mb_L_law 961 = .ok (.iconst 1, 1) := by decide +kernel
theorem md_L_law_962 : decode mb_L_law 962 = .ok (.iadd, 1) := by decide +kernel
theorem md_L_law_963 : decode mb_L_law 963 = .ok (.iaload, 1) := by decide +kernel
theorem md_L_law_964 : decode mb_L_law 964 = .ok (.invokevirtual 131, 3) := by decide +kernel
theorem md_L_law_967 : decode mb_L_law 967 = .ok (.istore 6, 2) := by decide +kernel
theorem md_L_law_969 : decode mb_L_law 969 = .ok (.aload_n 2, 1) := by decide +kernel
theorem md_L_law_970 : decode mb_L_law 970 = .ok (.invokevirtual 132, 3) := by decide +kernel
theorem md_L_law_973 : decode mb_L_law 973 = .ok (.iload 5, 2) := by decide +kernel
theorem md_L_law_975 : decode mb_L_law 975 = .ok (.if_icmp .eq 5, 3) := by decide +kernel
theorem md_L_law_978 : decode mb_L_law 978 = .ok (.iconst 0, 1) := by decide +kernel
theorem md_L_law_979 : decode mb_L_law 979 = .ok (.ireturn, 1) := by decide +kernel
theorem md_L_law_980 : decode mb_L_law 980 = .ok (.iload 5, 2) := by decide +kernel
theorem md_L_law_982 : decode mb_L_law 982 = .ok (.ifCond .ne 15, 3) := by decide +kernel
theorem md_L_law_985 : decode mb_L_law 985 = .ok (.aload_n 3, 1) := by decide +kernel
theorem md_L_law_986 : decode mb_L_law 986 = .ok (.iconst 0, 1) := by decide +kernel
theorem md_L_law_987 : decode mb_L_law 987 = .ok (.laload, 1) := by decide +kernel
theorem md_L_law_988 : decode mb_L_law 988 = .ok (.iload 6, 2) := by decide +kernel
theorem md_L_law_990 : decode mb_L_law 990 = .ok (.i2l, 1) := by decide +kernel
theorem md_L_law_991 : decode mb_L_law 991 = .ok (.lcmp, 1) := by decide +kernel
theorem md_L_law_992 : decode mb_L_law 992 = .ok (.ifCond .eq 5, 3) := by decide +kernel
theorem md_L_law_995 : decode mb_L_law 995 = .ok (.iconst 0, 1) := by decide +kernel
theorem md_L_law_996 : decode mb_L_law 996 = .ok (.ireturn, 1) := by decide +kernel
theorem md_L_law_997 : decode mb_L_law 997 = .ok (.goto 187, 3) := by decide +kernel
theorem md_L_law_1000 : decode mb_L_law 1000 = .ok (.aload_n 1, 1) := by decide +kernel
theorem md_L_law_1001 : decode mb_L_law 1001 = .ok (.aload_n 0, 1) := by decide +kernel
theorem md_L_law_1002 : decode mb_L_law 1002 = .ok (.iload 4, 2) := by decide +kernel
theorem md_L_law_1004 : decode mb_L_law 1004 = .ok (.iconst 1, 1) := by decide +kernel
theorem md_L_law_1005 : decode mb_L_law 1005 = .ok (.iadd, 1) := by decide +kernel
theorem md_L_law_1006 : decode mb_L_law 1006 = .ok (.iaload, 1) := by decide +kernel
theorem md_L_law_1007 : decode mb_L_law 1007 = .ok (.i2l, 1) := by decide +kernel
theorem md_L_law_1008 : decode mb_L_law 1008 = .ok (.bipush 32, 2) := by decide +kernel
