theorem md_L_law_827 : decode mb_L_law 827 = .ok (.iload 4, 2) := by decide +kernel
theorem md_L_law_829 : decode mb_L_law 829 = .ok (.bipush 6, 2) := by decide +kernel
theorem md_L_law_831 : decode mb_L_law 831 = .ok (.iadd, 1) := by decide +kernel
theorem md_L_law_832 : decode mb_L_law 832 = .ok (.iaload, 1) := by decide +kernel
theorem md_L_law_833 : decode mb_L_law 833 = .ok (.i2l, 1) := by decide +kernel
theorem md_L_law_834 : decode mb_L_law 834 = .ok (.bipush 32, 2) := by decide +kernel
theorem md_L_law_836 : decode mb_L_law 836 = .ok (.lshl, 1) := by decide +kernel
theorem md_L_law_837 : decode mb_L_law 837 = .ok (.aload_n 0, 1) := by decide +kernel
theorem md_L_law_838 : decode mb_L_law 838 = .ok (.iload 4, 2) := by decide +kernel
theorem md_L_law_840 : decode mb_L_law 840 = .ok (.bipush 7, 2) := by decide +kernel
theorem md_L_law_842 : decode mb_L_law 842 = .ok (.iadd, 1) := by decide +kernel
theorem md_L_law_843 : decode mb_L_law 843 = .ok (.iaload, 1) := by decide +kernel
theorem md_L_law_844 : decode mb_L_law 844 = .ok (.i2l, 1) := by decide +kernel
theorem md_L_law_845 : decode mb_L_law 845 = .ok (.ldc2_w 97, 3) := by decide +kernel
theorem md_L_law_848 : decode mb_L_law 848 = .ok (.land, 1) := by decide +kernel
theorem md_L_law_849 : decode mb_L_law 849 = .ok (.lor, 1) := by decide +kernel
theorem md_L_law_850 : decode mb_L_law 850 = .ok (.aload_n 3, 1) := by decide +kernel
theorem md_L_law_851 : decode mb_L_law 851 = .ok (.invokestatic 125, 3) := by decide +kernel
theorem md_L_law_854 : decode mb_L_law 854 = .ok (.istore 5, 2) := by decide +kernel
theorem md_L_law_856 : decode mb_L_law 856 = .ok (.aload_n 2, 1) := by decide +kernel
theorem md_L_law_857 : decode mb_L_law 857 = .ok (.aload_n 0, 1) := by decide +kernel
theorem md_L_law_858 : decode mb_L_law 858 = .ok (.iload 4, 2) := by decide +kernel
theorem md_L_law_860 : decode mb_L_law 860 = .ok (.iconst 1, 1) := by decide +kernel
theorem md_L_law_861 : decode mb_L_law 861 = .ok (.iadd, 1) := by decide +kernel
theorem md_L_law_862 : decode mb_L_law 862 = .ok (.iaload, 1) := by decide +kernel
theorem md_L_law_863 : decode mb_L_law 863 = .ok (.aload_n 0, 1) := by decide +kernel
theorem md_L_law_864 : decode mb_L_law 864 = .ok (.iload 4, 2) := by decide +kernel
theorem md_L_law_866 : decode mb_L_law 866 = .ok (.iconst 2, 1) := by decide +kernel
theorem md_L_law_867 : decode mb_L_law 867 = .ok (.iadd, 1) := by decide +kernel
theorem md_L_law_868 : decode mb_L_law 868 = .ok (.iaload, 1) := by decide +kernel
theorem md_L_law_869 : decode mb_L_law 869 = .ok (.i2l, 1) := by decide +kernel
theorem md_L_law_870 : decode mb_L_law 870 = .ok (.bipush 32, 2) := by decide +kernel
theorem md_L_law_872 : decode mb_L_law 872 = .ok (.lshl, 1) := by decide +kernel
theorem md_L_law_873 : decode mb_L_law 873 = .ok (.aload_n 0, 1) := by decide +kernel
theorem md_L_law_874 : decode mb_L_law 874 = .ok (.iload 4, 2) := by decide +kernel
theorem md_L_law_876 : decode mb_L_law 876 = .ok (.iconst 3, 1) := by decide +kernel
theorem md_L_law_877 : decode mb_L_law 877 = .ok (.iadd, 1) := by decide +kernel
theorem md_L_law_878 : decode mb_L_law 878 = .ok (.iaload, 1) := by decide +kernel
theorem md_L_law_879 : decode mb_L_law 879 = .ok (.i2l, 1) := by decide +kernel
theorem md_L_law_880 : decode mb_L_law 880 = .ok (.ldc2_w 97, 3) := by decide +kernel
theorem md_L_law_883 : decode mb_L_law 883 = .ok (.land, 1) := by decide +kernel
theorem md_L_law_884 : decode mb_L_law 884 = .ok (.lor, 1) := by decide +kernel
theorem md_L_law_885 : decode mb_L_law 885 = .ok (.aload_n 0, 1) := by decide +kernel
theorem md_L_law_886 : decode mb_L_law 886 = .ok (.iload 4, 2) := by decide +kernel
theorem md_L_law_888 : decode mb_L_law 888 = .ok (.iconst 4, 1) := by decide +kernel
theorem md_L_law_889 : decode mb_L_law 889 = .ok (.iadd, 1) := by decide +kernel
theorem md_L_law_890 : decode mb_L_law 890 = .ok (.iaload, 1) := by decide +kernel
theorem md_L_law_891 : decode mb_L_law 891 = .ok (.i2l, 1) := by decide +kernel
theorem md_L_law_892 : decode mb_L_law 892 = .ok (.bipush 32, 2) := by decide +kernel
theorem md_L_law_894 : decode mb_L_law 894 = .ok (.lshl, 1) := by decide +kernel
theorem md_L_law_895 : decode mb_L_law 895 = .ok (.aload_n 0, 1) := by decide +kernel
theorem md_L_law_896 : decode mb_L_law 896 = .ok (.iload 4, 2) := by decide +kernel
theorem md_L_law_898 : decode mb_L_law 898 = .ok (.iconst 5, 1) := by decide +kernel
theorem md_L_law_899 : decode mb_L_law 899 = .ok (.iadd, 1) := by decide +kernel
theorem md_L_law_900 : decode mb_L_law 900 = .ok (.iaload, 1) := by decide +kernel
theorem md_L_law_901 : decode mb_L_law 901 = .ok (.i2l, 1) := by decide +kernel
theorem md_L_law_902 : decode mb_L_law 902 = .ok (.ldc2_w 97, 3) := by decide +kernel
theorem md_L_law_905 : decode mb_L_law 905 = .ok (.land, 1) := by decide +kernel
theorem md_L_law_906 : decode mb_L_law 906 = .ok (.lor, 1) := by decide +kernel
theorem md_L_law_907 : decode mb_L_law 907 = .ok (.aload_n 0, 1) := by decide +kernel
theorem md_L_law_908 : decode mb_L_law 908 = .ok (.iload 4, 2) := by decide +kernel
theorem md_L_law_910 : decode mb_L_law 910 = .ok (.bipush 6, 2) := by decide +kernel
theorem md_L_law_912 : decode mb_L_law 912 = .ok (.iadd, 1) := by decide +kernel
theorem md_L_law_913 : decode mb_L_law 913 = .ok (.iaload, 1) := by decide +kernel
theorem md_L_law_914 : decode mb_L_law 914 = .ok (.i2l, 1) := by decide +kernel
theorem md_L_law_915 : decode mb_L_law 915 = .ok (.bipush 32, 2) := by decide +kernel
theorem md_L_law_917 : decode mb_L_law 917 = .ok (.lshl, 1) := by decide +kernel
theorem md_L_law_918 : decode mb_L_law 918 = .ok (.aload_n 0, 1) := by decide +kernel
theorem md_L_law_919 : decode mb_L_law 919 = .ok (.iload 4, 2) := by decide +kernel
theorem md_L_law_921 : decode mb_L_law 921 = .ok (.bipush 7, 2) := by decide +kernel
theorem md_L_law_923 : decode mb_L_law 923 = .ok (.iadd, 1) := by decide +kernel
theorem md_L_law_924 : decode mb_L_law 924 = .ok (.iaload, 1) := by decide +kernel
theorem md_L_law_925 : decode mb_L_law 925 = .ok (.i2l, 1) := by decide +kernel
theorem md_L_law_926 : decode mb_L_law 926 = .ok (.ldc2_w 97, 3) := by decide +kernel
theorem md_L_law_929 : decode mb_L_law 929 = .ok (.land, 1) := by decide +kernel
theorem md_L_law_930 : decode mb_L_law 930 = .ok (.lor, 1) := by decide +kernel
theorem md_L_law_931 : decode mb_L_law 931 = .ok (.invokevirtual 128, 3) := by decide +kernel
theorem md_L_law_934 : decode mb_L_law 934 = .ok (.istore 6, 2) := by decide +kernel
theorem md_L_law_936 : decode mb_L_law 936 = .ok (.goto 255, 3) := by decide +kernel
theorem md_L_law_939 : decode mb_L_law 939 = .ok (.aload_n 1, 1) := by decide +kernel
theorem md_L_law_940 : decode mb_L_law 940 = .ok (.aload_n 0, 1) := by decide +kernel
theorem md_L_law_941 : decode mb_L_law 941 = .ok (.iload 4, 2) := by decide +kernel
theorem md_L_law_943 : decode mb_L_law 943 = .ok (.iconst 1, 1) := by decide +kernel
theorem md_L_law_944 : decode mb_L_law 944 = .ok (.iadd, 1) := by decide +kernel
theorem md_L_law_945 : decode mb_L_law 945 = .ok (.iaload, 1) := by decide +kernel
theorem md_L_law_946 : decode mb_L_law 946 = .ok (.aload_n 0, 1) := by decide +kernel
theorem md_L_law_947 : decode mb_L_law 947 = .ok (.iload 4, 2) := by decide +kernel
theorem md_L_law_949 : decode mb_L_law 949 = .ok (.iconst 2, 1) := by decide +kernel
theorem md_L_law_950 : decode mb_L_law 950 = .ok (.iadd, 1) := by decide +kernel
theorem md_L_law_951 : decode mb_L_law 951 = .ok (.iaload, 1) := by decide +kernel
theorem md_L_law_952 : decode mb_L_law 952 = .ok (.aload_n 3, 1) := by decide +kernel
theorem md_L_law_953 : decode mb_L_law 953 = .ok (.invokestatic 129, 3) := by decide +kernel
theorem md_L_law_956 : decode mb_L_law 956 = .ok (.istore 5, 2) := by decide +kernel
theorem md_L_law_958 : decode mb_L_law 958 = .ok (.aload_n 2, 1) := by decide +kernel
theorem md_L_law_959 : decode mb_L_law 959 = .ok (.aload_n 0, 1) := by decide +kernel
theorem md_L_law_960 : decode mb_L_law 960 = .ok (.iload 4, 2) := by decide +kernel
theorem md_L_law_962 : decode mb_L_law 962 = .ok (.iconst 1, 1) := by decide +kernel
theorem md_L_law_963 : decode mb_L_law 963 = .ok (.iadd, 1) := by decide +kernel
theorem md_L_law_964 : decode mb_L_law 964 = .ok (.iaload, 1) := by decide +kernel
theorem md_L_law_965 : decode mb_L_law 965 = .ok (.aload_n 0, 1) := by decide +kernel
theorem md_L_law_966 : decode mb_L_law 966 = .ok (.iload 4, 2) := by decide +kernel
theorem md_L_law_968 : decode mb_L_law 968 = .ok (.iconst 2, 1) := by decide +kernel
theorem md_L_law_969 : decode mb_L_law 969 = .ok (.iadd, 1) := by decide +kernel
theorem md_L_law_970 : decode mb_L_law 970 = .ok (.iaload, 1) := by decide +kernel
theorem md_L_law_971 : decode mb_L_law 971 = .ok (.invokevirtual 131, 3) := by decide +kernel
theorem md_L_law_974 : decode mb_L_law 974 = .ok (.istore 6, 2) := by decide +kernel
theorem md_L_law_976 : decode mb_L_law 976 = .ok (.goto 215, 3) := by decide +kernel
theorem md_L_law_979 : decode mb_L_law 979 = .ok (.aload_n 1, 1) := by decide +kernel
theorem md_L_law_980 : decode mb_L_law 980 = .ok (.aload_n 0, 1) := by decide +kernel
theorem md_L_law_981 : decode mb_L_law 981 = .ok (.iload 4, 2) := by decide +kernel
theorem md_L_law_983 : decode mb_L_law 983 = .ok (.iconst 1, 1) := by decide +kernel
theorem md_L_law_984 : decode mb_L_law 984 = .ok (.iadd, 1) := by decide +kernel
theorem md_L_law_985 : decode mb_L_law 985 = .ok (.iaload, 1) := by decide +kernel
theorem md_L_law_986 : decode mb_L_law 986 = .ok (.aload_n 3, 1) := by decide +kernel
theorem md_L_law_987 : decode mb_L_law 987 = .ok (.invokestatic 132, 3) := by decide +kernel
theorem md_L_law_990 : decode mb_L_law 990 = .ok (.istore 5, 2) := by decide +kernel
theorem md_L_law_992 : decode mb_L_law 992 = .ok (.aload_n 2, 1) := by decide +kernel
theorem md_L_law_993 : decode mb_L_law 993 = .ok (.aload_n 0, 1) := by decide +kernel
theorem md_L_law_994 : decode mb_L_law 994 = .ok (.iload 4, 2) := by decide +kernel
theorem md_L_law_996 : decode mb_L_law 996 = .ok (.iconst 1, 1) := by decide +kernel
theorem md_L_law_997 : decode mb_L_law 997 = .ok (.iadd, 1) := by decide +kernel
theorem md_L_law_998 : decode mb_L_law 998 = .ok (.iaload, 1) := by decide +kernel
theorem md_L_law_999 : decode mb_L_law 999 = .ok (.invokevirtual 134, 3) := by decide +kernel
theorem md_L_law_1002 : decode mb_L_law 1002 = .ok (.istore 6, 2) := by decide +kernel
theorem md_L_law_1004 : decode mb_L_law 1004 = .ok (.goto 187, 3) := by decide +kernel
theorem md_L_law_1007 : decode mb_L_law 1007 = .ok (.aload_n 1, 1) := by decide +kernel
theorem md_L_law_1008 : decode mb_L_law 1008 = .ok (.aload_n 0, 1) := by decide +kernel
theorem md_L_law_1009 : decode mb_L_law 1009 = .ok (.iload 4, 2) := by decide +kernel
theorem md_L_law_1011 : decode mb_L_law 1011 = .ok (.iconst 1, 1) := by decide +kernel
theorem md_L_law_1012 : decode mb_L_law 1012 = .ok (.iadd, 1) := by decide +kernel
