theorem md_L_law_825 : decode mb_L_law 825 = .ok (.i2l, 1) := by decide +kernel
theorem md_L_law_826 : decode mb_L_law 826 = .ok (.bipush 32, 2) := by decide +kernel
theorem md_L_law_828 : decode mb_L_law 828 = .ok (.lshl, 1) := by decide +kernel
theorem md_L_law_829 : decode mb_L_law 829 = .ok (.aload_n 0, 1) := by decide +kernel
theorem md_L_law_830 : decode mb_L_law 830 = .ok (.iload 4, 2) := by decide +kernel
theorem md_L_law_832 : decode mb_L_law 832 = .ok (.bipush 7, 2) := by decide +kernel
theorem md_L_law_834 : decode mb_L_law 834 = .ok (.iadd, 1) := by decide +kernel
theorem md_L_law_835 : decode mb_L_law 835 = .ok (.iaload, 1) := by decide +kernel
theorem md_L_law_836 : decode mb_L_law 836 = .ok (.i2l, 1) := by decide +kernel
theorem md_L_law_837 : decode mb_L_law 837 = .ok (.ldc2_w 94, 3) := by decide +kernel
theorem md_L_law_840 : decode mb_L_law 840 = .ok (.land, 1) := by decide +kernel
theorem md_L_law_841 : decode mb_L_law 841 = .ok (.lor, 1) := by decide +kernel
theorem md_L_law_842 : decode mb_L_law 842 = .ok (.aload_n 3, 1) := by decide +kernel
theorem md_L_law_843 : decode mb_L_law 843 = .ok (.invokestatic 125, 3) := by decide +kernel
theorem md_L_law_846 : decode mb_L_law 846 = .ok (.istore 5, 2) := by decide +kernel
theorem md_L_law_848 : decode mb_L_law 848 = .ok (.aload_n 2, 1) := by decide +kernel
theorem md_L_law_849 : decode mb_L_law 849 = .ok (.aload_n 0, 1) := by decide +kernel
theorem md_L_law_850 : decode mb_L_law 850 = .ok (.iload 4, 2) := by decide +kernel
theorem md_L_law_852 : decode mb_L_law 852 = .ok (.iconst 1, 1) := by decide +kernel
theorem md_L_law_853 : decode mb_L_law 853 = .ok (.iadd, 1) := by decide +kernel
theorem md_L_law_854 : decode mb_L_law 854 = .ok (.iaload, 1) := by decide +kernel
theorem md_L_law_855 : decode mb_L_law 855 = .ok (.aload_n 0, 1) := by decide +kernel
theorem md_L_law_856 : decode mb_L_law 856 = .ok (.iload 4, 2) := by decide +kernel
theorem md_L_law_858 : decode mb_L_law 858 = .ok (.iconst 2, 1) := by decide +kernel
theorem md_L_law_859 : decode mb_L_law 859 = .ok (.iadd, 1) := by decide +kernel
theorem md_L_law_860 : decode mb_L_law 860 = .ok (.iaload, 1) := by decide +kernel
theorem md_L_law_861 : decode mb_L_law 861 = .ok (.i2l, 1) := by decide +kernel
theorem md_L_law_862 : decode mb_L_law 862 = .ok (.bipush 32, 2) := by decide +kernel
theorem md_L_law_864 : decode mb_L_law 864 = .ok (.lshl, 1) := by decide +kernel
theorem md_L_law_865 : decode mb_L_law 865 = .ok (.aload_n 0, 1) := by decide +kernel
theorem md_L_law_866 : decode mb_L_law 866 = .ok (.iload 4, 2) := by decide +kernel
theorem md_L_law_868 : decode mb_L_law 868 = .ok (.iconst 3, 1) := by decide +kernel
theorem md_L_law_869 : decode mb_L_law 869 = .ok (.iadd, 1) := by decide +kernel
theorem md_L_law_870 : decode mb_L_law 870 = .ok (.iaload, 1) := by decide +kernel
theorem md_L_law_871 : decode mb_L_law 871 = .ok (.i2l, 1) := by decide +kernel
theorem md_L_law_872 : decode mb_L_law 872 = .ok (.ldc2_w 94, 3) := by decide +kernel
theorem md_L_law_875 : decode mb_L_law 875 = .ok (.land, 1) := by decide +kernel
theorem md_L_law_876 : decode mb_L_law 876 = .ok (.lor, 1) := by decide +kernel
theorem md_L_law_877 : decode mb_L_law 877 = .ok (.aload_n 0, 1) := by decide +kernel
theorem md_L_law_878 : decode mb_L_law 878 = .ok (.iload 4, 2) := by decide +kernel
theorem md_L_law_880 : decode mb_L_law 880 = .ok (.iconst 4, 1) := by decide +kernel
theorem md_L_law_881 : decode mb_L_law 881 = .ok (.iadd, 1) := by decide +kernel
theorem md_L_law_882 : decode mb_L_law 882 = .ok (.iaload, 1) := by decide +kernel
theorem md_L_law_883 : decode mb_L_law 883 = .ok (.i2l, 1) := by decide +kernel
theorem md_L_law_884 : decode mb_L_law 884 = .ok (.bipush 32, 2) := by decide +kernel
theorem md_L_law_886 : decode mb_L_law 886 = .ok (.lshl, 1) := by decide +kernel
theorem md_L_law_887 : decode mb_L_law 887 = .ok (.aload_n 0, 1) := by decide +kernel
theorem md_L_law_888 : decode mb_L_law 888 = .ok (.iload 4, 2) := by decide +kernel
theorem md_L_law_890 : decode mb_L_law 890 = .ok (.iconst 5, 1) := by decide +kernel
theorem md_L_law_891 : decode mb_L_law 891 = .ok (.iadd, 1) := by decide +kernel
theorem md_L_law_892 : decode mb_L_law 892 = .ok (.iaload, 1) := by decide +kernel
theorem md_L_law_893 : decode mb_L_law 893 = .ok (.i2l, 1) := by decide +kernel
theorem md_L_law_894 : decode mb_L_law 894 = .ok (.ldc2_w 94, 3) := by decide +kernel
theorem md_L_law_897 : decode mb_L_law 897 = .ok (.land, 1) := by decide +kernel
theorem md_L_law_898 : decode mb_L_law 898 = .ok (.lor, 1) := by decide +kernel
theorem md_L_law_899 : decode mb_L_law 899 = .ok (.aload_n 0, 1) := by decide +kernel
theorem md_L_law_900 : decode mb_L_law 900 = .ok (.iload 4, 2) := by decide +kernel
theorem md_L_law_902 : decode mb_L_law 902 = .ok (.bipush 6, 2) := by decide +kernel
theorem md_L_law_904 : decode mb_L_law 904 = .ok (.iadd, 1) := by decide +kernel
theorem md_L_law_905 : decode mb_L_law 905 = .ok (.iaload, 1) := by decide +kernel
theorem md_L_law_906 : decode mb_L_law 906 = .ok (.i2l, 1) := by decide +kernel
theorem md_L_law_907 : decode mb_L_law 907 = .ok (.bipush 32, 2) := by decide +kernel
theorem md_L_law_909 : decode mb_L_law 909 = .ok (.lshl, 1) := by decide +kernel
theorem md_L_law_910 : decode mb_L_law 910 = .ok (.aload_n 0, 1) := by decide +kernel
theorem md_L_law_911 : decode mb_L_law 911 = .ok (.iload 4, 2) := by decide +kernel
theorem md_L_law_913 : decode mb_L_law 913 = .ok (.bipush 7, 2) := by decide +kernel
theorem md_L_law_915 : decode mb_L_law 915 = .ok (.iadd, 1) := by decide +kernel
theorem md_L_law_916 : decode mb_L_law 916 = .ok (.iaload, 1) := by decide +kernel
theorem md_L_law_917 : decode mb_L_law 917 = .ok (.i2l, 1) := by decide +kernel
theorem md_L_law_918 : decode mb_L_law 918 = .ok (.ldc2_w 94, 3) := by decide +kernel
theorem md_L_law_921 : decode mb_L_law 921 = .ok (.land, 1) := by decide +kernel
theorem md_L_law_922 : decode mb_L_law 922 = .ok (.lor, 1) := by decide +kernel
theorem md_L_law_923 : decode mb_L_law 923 = .ok (.invokevirtual 128, 3) := by decide +kernel
theorem md_L_law_926 : decode mb_L_law 926 = .ok (.istore 6, 2) := by decide +kernel
theorem md_L_law_928 : decode mb_L_law 928 = .ok (.goto 255, 3) := by decide +kernel
theorem md_L_law_931 : decode mb_L_law 931 = .ok (.aload_n 1, 1) := by decide +kernel
theorem md_L_law_932 : decode mb_L_law 932 = .ok (.aload_n 0, 1) := by decide +kernel
theorem md_L_law_933 : decode mb_L_law 933 = .ok (.iload 4, 2) := by decide +kernel
theorem md_L_law_935 : decode mb_L_law 935 = .ok (.iconst 1, 1) := by decide +kernel
theorem md_L_law_936 : decode mb_L_law 936 = .ok (.iadd, 1) := by decide +kernel
theorem md_L_law_937 : decode mb_L_law 937 = .ok (.iaload, 1) := by decide +kernel
theorem md_L_law_938 : decode mb_L_law 938 = .ok (.aload_n 0, 1) := by decide +kernel
theorem md_L_law_939 : decode mb_L_law 939 = .ok (.iload 4, 2) := by decide +kernel
theorem md_L_law_941 : decode mb_L_law 941 = .ok (.iconst 2, 1) := by decide +kernel
theorem md_L_law_942 : decode mb_L_law 942 = .ok (.iadd, 1) := by decide +kernel
theorem md_L_law_943 : decode mb_L_law 943 = .ok (.iaload, 1) := by decide +kernel
theorem md_L_law_944 : decode mb_L_law 944 = .ok (.aload_n 3, 1) := by decide +kernel
theorem md_L_law_945 : decode mb_L_law 945 = .ok (.invokestatic 129, 3) := by decide +kernel
theorem md_L_law_948 : decode mb_L_law 948 = .ok (.istore 5, 2) := by decide +kernel
theorem md_L_law_950 : decode mb_L_law 950 = .ok (.aload_n 2, 1) := by decide +kernel
theorem md_L_law_951 : decode mb_L_law 951 = .ok (.aload_n 0, 1) := by decide +kernel
theorem md_L_law_952 : decode mb_L_law 952 = .ok (.iload 4, 2) := by decide +kernel
theorem md_L_law_954 : decode mb_L_law 954 = .ok (.iconst 1, 1) := by decide +kernel
theorem md_L_law_955 : decode mb_L_law 955 = .ok (.iadd, 1) := by decide +kernel
theorem md_L_law_956 : decode mb_L_law 956 = .ok (.iaload, 1) := by decide +kernel
theorem md_L_law_957 : decode mb_L_law 957 = .ok (.aload_n 0, 1) := by decide +kernel
theorem md_L_law_958 : decode mb_L_law 958 = .ok (.iload 4, 2) := by decide +kernel
theorem md_L_law_960 : decode mb_L_law 960 = .ok (.iconst 2, 1) := by decide +kernel
theorem md_L_law_961 : decode mb_L_law 961 = .ok (.iadd, 1) := by decide +kernel
theorem md_L_law_962 : decode mb_L_law 962 = .ok (.iaload, 1) := by decide +kernel
theorem md_L_law_963 : decode mb_L_law 963 = .ok (.invokevirtual 131, 3) := by decide +kernel
theorem md_L_law_966 : decode mb_L_law 966 = .ok (.istore 6, 2) := by decide +kernel
theorem md_L_law_968 : decode mb_L_law 968 = .ok (.goto 215, 3) := by decide +kernel
theorem md_L_law_971 : decode mb_L_law 971 = .ok (.aload_n 1, 1) := by decide +kernel
theorem md_L_law_972 : decode mb_L_law 972 = .ok (.aload_n 0, 1) := by decide +kernel
theorem md_L_law_973 : decode mb_L_law 973 = .ok (.iload 4, 2) := by decide +kernel
theorem md_L_law_975 : decode mb_L_law 975 = .ok (.iconst 1, 1) := by decide +kernel
theorem md_L_law_976 : decode mb_L_law 976 = .ok (.iadd, 1) := by decide +kernel
theorem md_L_law_977 : decode mb_L_law 977 = .ok (.iaload, 1) := by decide +kernel
theorem md_L_law_978 : decode mb_L_law 978 = .ok (.aload_n 3, 1) := by decide +kernel
theorem md_L_law_979 : decode mb_L_law 979 = .ok (.invokestatic 132, 3) := by decide +kernel
theorem md_L_law_982 : decode mb_L_law 982 = .ok (.istore 5, 2) := by decide +kernel
theorem md_L_law_984 : decode mb_L_law 984 = .ok (.aload_n 2, 1) := by decide +kernel
theorem md_L_law_985 : decode mb_L_law 985 = .ok (.aload_n 0, 1) := by decide +kernel
theorem md_L_law_986 : decode mb_L_law 986 = .ok (.iload 4, 2) := by decide +kernel
theorem md_L_law_988 : decode mb_L_law 988 = .ok (.iconst 1, 1) := by decide +kernel
theorem md_L_law_989 : decode mb_L_law 989 = .ok (.iadd, 1) := by decide +kernel
theorem md_L_law_990 : decode mb_L_law 990 = .ok (.iaload, 1) := by decide +kernel
theorem md_L_law_991 : decode mb_L_law 991 = .ok (.invokevirtual 134, 3) := by decide +kernel
theorem md_L_law_994 : decode mb_L_law 994 = .ok (.istore 6, 2) := by decide +kernel
theorem md_L_law_996 : decode mb_L_law 996 = .ok (.goto 187, 3) := by decide +kernel
theorem md_L_law_999 : decode mb_L_law 999 = .ok (.aload_n 1, 1) := by decide +kernel
theorem md_L_law_1000 : decode mb_L_law 1000 = .ok (.aload_n 0, 1) := by decide +kernel
theorem md_L_law_1001 : decode mb_L_law 1001 = .ok (.iload 4, 2) := by decide +kernel
theorem md_L_law_1003 : decode mb_L_law 1003 = .ok (.iconst 1, 1) := by decide +kernel
theorem md_L_law_1004 : decode mb_L_law 1004 = .ok (.iadd, 1) := by decide +kernel
theorem md_L_law_1005 : decode mb_L_law 1005 = .ok (.iaload, 1) := by decide +kernel
theorem md_L_law_1006 : decode mb_L_law 1006 = .ok (.i2l, 1) := by decide +kernel
theorem md_L_law_1007 : decode mb_L_law 1007 = .ok (.bipush 32, 2) := by decide +kernel
theorem md_L_law_1009 : decode mb_L_law 1009 = .ok (.lshl, 1) := by decide +kernel
