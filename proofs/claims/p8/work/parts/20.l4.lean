theorem md_L_law_825 : decode mb_L_law 825 = .ok (.iaload, 1) := by decide +kernel
theorem md_L_law_826 : decode mb_L_law 826 = .ok (.i2l, 1) := by decide +kernel
theorem md_L_law_827 : decode mb_L_law 827 = .ok (.bipush 32, 2) := by decide +kernel
theorem md_L_law_829 : decode mb_L_law 829 = .ok (.lshl, 1) := by decide +kernel
theorem md_L_law_830 : decode mb_L_law 830 = .ok (.aload_n 0, 1) := by decide +kernel
theorem md_L_law_831 : decode mb_L_law 831 = .ok (.iload 4, 2) := by decide +kernel
theorem md_L_law_833 : decode mb_L_law 833 = .ok (.bipush 7, 2) := by decide +kernel
theorem md_L_law_835 : decode mb_L_law 835 = .ok (.iadd, 1) := by decide +kernel
theorem md_L_law_836 : decode mb_L_law 836 = .ok (.iaload, 1) := by decide +kernel
theorem md_L_law_837 : decode mb_L_law 837 = .ok (.i2l, 1) := by decide +kernel
theorem md_L_law_838 : decode mb_L_law 838 = .ok (.ldc2_w 94, 3) := by decide +kernel
theorem md_L_law_841 : decode mb_L_law 841 = .ok (.land, 1) := by decide +kernel
theorem md_L_law_842 : decode mb_L_law 842 = .ok (.lor, 1) := by decide +kernel
theorem md_L_law_843 : decode mb_L_law 843 = .ok (.aload_n 3, 1) := by decide +kernel
theorem md_L_law_844 : decode mb_L_law 844 = .ok (.invokestatic 125, 3) := by decide +kernel
theorem md_L_law_847 : decode mb_L_law 847 = .ok (.istore 5, 2) := by decide +kernel
theorem md_L_law_849 : decode mb_L_law 849 = .ok (.aload_n 2, 1) := by decide +kernel
theorem md_L_law_850 : decode mb_L_law 850 = .ok (.aload_n 0, 1) := by decide +kernel
theorem md_L_law_851 : decode mb_L_law 851 = .ok (.iload 4, 2) := by decide +kernel
theorem md_L_law_853 : decode mb_L_law 853 = .ok (.iconst 1, 1) := by decide +kernel
theorem md_L_law_854 : decode mb_L_law 854 = .ok (.iadd, 1) := by decide +kernel
theorem md_L_law_855 : decode mb_L_law 855 = .ok (.iaload, 1) := by decide +kernel
theorem md_L_law_856 : decode mb_L_law 856 = .ok (.aload_n 0, 1) := by decide +kernel
theorem md_L_law_857 : decode mb_L_law 857 = .ok (.iload 4, 2) := by decide +kernel
theorem md_L_law_859 : decode mb_L_law 859 = .ok (.iconst 2, 1) := by decide +kernel
theorem md_L_law_860 : decode mb_L_law 860 = .ok (.iadd, 1) := by decide +kernel
theorem md_L_law_861 : decode mb_L_law 861 = .ok (.iaload, 1) := by decide +kernel
theorem md_L_law_862 : decode mb_L_law 862 = .ok (.i2l, 1) := by decide +kernel
theorem md_L_law_863 : decode mb_L_law 863 = .ok (.bipush 32, 2) := by decide +kernel
theorem md_L_law_865 : decode mb_L_law 865 = .ok (.lshl, 1) := by decide +kernel
theorem md_L_law_866 : decode mb_L_law 866 = .ok (.aload_n 0, 1) := by decide +kernel
theorem md_L_law_867 : decode mb_L_law 867 = .ok (.iload 4, 2) := by decide +kernel
theorem md_L_law_869 : decode mb_L_law 869 = .ok (.iconst 3, 1) := by decide +kernel
theorem md_L_law_870 : decode mb_L_law 870 = .ok (.iadd, 1) := by decide +kernel
theorem md_L_law_871 : decode mb_L_law 871 = .ok (.iaload, 1) := by decide +kernel
theorem md_L_law_872 : decode mb_L_law 872 = .ok (.i2l, 1) := by decide +kernel
theorem md_L_law_873 : decode mb_L_law 873 = .ok (.ldc2_w 94, 3) := by decide +kernel
theorem md_L_law_876 : decode mb_L_law 876 = .ok (.land, 1) := by decide +kernel
theorem md_L_law_877 : decode mb_L_law 877 = .ok (.lor, 1) := by decide +kernel
theorem md_L_law_878 : decode mb_L_law 878 = .ok (.aload_n 0, 1) := by decide +kernel
theorem md_L_law_879 : decode mb_L_law 879 = .ok (.iload 4, 2) := by decide +kernel
theorem md_L_law_881 : decode mb_L_law 881 = .ok (.iconst 4, 1) := by decide +kernel
theorem md_L_law_882 : decode mb_L_law 882 = .ok (.iadd, 1) := by decide +kernel
theorem md_L_law_883 : decode mb_L_law 883 = .ok (.iaload, 1) := by decide +kernel
theorem md_L_law_884 : decode mb_L_law 884 = .ok (.i2l, 1) := by decide +kernel
theorem md_L_law_885 : decode mb_L_law 885 = .ok (.bipush 32, 2) := by decide +kernel
theorem md_L_law_887 : decode mb_L_law 887 = .ok (.lshl, 1) := by decide +kernel
theorem md_L_law_888 : decode mb_L_law 888 = .ok (.aload_n 0, 1) := by decide +kernel
theorem md_L_law_889 : decode mb_L_law 889 = .ok (.iload 4, 2) := by decide +kernel
theorem md_L_law_891 : decode mb_L_law 891 = .ok (.iconst 5, 1) := by decide +kernel
theorem md_L_law_892 : decode mb_L_law 892 = .ok (.iadd, 1) := by decide +kernel
theorem md_L_law_893 : decode mb_L_law 893 = .ok (.iaload, 1) := by decide +kernel
theorem md_L_law_894 : decode mb_L_law 894 = .ok (.i2l, 1) := by decide +kernel
theorem md_L_law_895 : decode mb_L_law 895 = .ok (.ldc2_w 94, 3) := by decide +kernel
theorem md_L_law_898 : decode mb_L_law 898 = .ok (.land, 1) := by decide +kernel
theorem md_L_law_899 : decode mb_L_law 899 = .ok (.lor, 1) := by decide +kernel
theorem md_L_law_900 : decode mb_L_law 900 = .ok (.aload_n 0, 1) := by decide +kernel
theorem md_L_law_901 : decode mb_L_law 901 = .ok (.iload 4, 2) := by decide +kernel
theorem md_L_law_903 : decode mb_L_law 903 = .ok (.bipush 6, 2) := by decide +kernel
theorem md_L_law_905 : decode mb_L_law 905 = .ok (.iadd, 1) := by decide +kernel
theorem md_L_law_906 : decode mb_L_law 906 = .ok (.iaload, 1) := by decide +kernel
theorem md_L_law_907 : decode mb_L_law 907 = .ok (.i2l, 1) := by decide +kernel
theorem md_L_law_908 : decode mb_L_law 908 = .ok (.bipush 32, 2) := by decide +kernel
theorem md_L_law_910 : decode mb_L_law 910 = .ok (.lshl, 1) := by decide +kernel
theorem md_L_law_911 : decode mb_L_law 911 = .ok (.aload_n 0, 1) := by decide +kernel
theorem md_L_law_912 : decode mb_L_law 912 = .ok (.iload 4, 2) := by decide +kernel
theorem md_L_law_914 : decode mb_L_law 914 = .ok (.bipush 7, 2) := by decide +kernel
theorem md_L_law_916 : decode mb_L_law 916 = .ok (.iadd, 1) := by decide +kernel
theorem md_L_law_917 : decode mb_L_law 917 = .ok (.iaload, 1) := by decide +kernel
theorem md_L_law_918 : decode mb_L_law 918 = .ok (.i2l, 1) := by decide +kernel
theorem md_L_law_919 : decode mb_L_law 919 = .ok (.ldc2_w 94, 3) := by decide +kernel
theorem md_L_law_922 : decode mb_L_law 922 = .ok (.land, 1) := by decide +kernel
theorem md_L_law_923 : decode mb_L_law 923 = .ok (.lor, 1) := by decide +kernel
theorem md_L_law_924 : decode mb_L_law 924 = .ok (.invokevirtual 128, 3) := by decide +kernel
theorem md_L_law_927 : decode mb_L_law 927 = .ok (.istore 6, 2) := by decide +kernel
theorem md_L_law_929 : decode mb_L_law 929 = .ok (.goto 255, 3) := by decide +kernel
theorem md_L_law_932 : decode mb_L_law 932 = .ok (.aload_n 1, 1) := by decide +kernel
theorem md_L_law_933 : decode mb_L_law 933 = .ok (.aload_n 0, 1) := by decide +kernel
theorem md_L_law_934 : decode mb_L_law 934 = .ok (.iload 4, 2) := by decide +kernel
theorem md_L_law_936 : decode mb_L_law 936 = .ok (.iconst 1, 1) := by decide +kernel
theorem md_L_law_937 : decode mb_L_law 937 = .ok (.iadd, 1) := by decide +kernel
theorem md_L_law_938 : decode mb_L_law 938 = .ok (.iaload, 1) := by decide +kernel
theorem md_L_law_939 : decode mb_L_law 939 = .ok (.aload_n 0, 1) := by decide +kernel
theorem md_L_law_940 : decode mb_L_law 940 = .ok (.iload 4, 2) := by decide +kernel
theorem md_L_law_942 : decode mb_L_law 942 = .ok (.iconst 2, 1) := by decide +kernel
theorem md_L_law_943 : decode mb_L_law 943 = .ok (.iadd, 1) := by decide +kernel
theorem md_L_law_944 : decode mb_L_law 944 = .ok (.iaload, 1) := by decide +kernel
theorem md_L_law_945 : decode mb_L_law 945 = .ok (.aload_n 3, 1) := by decide +kernel
theorem md_L_law_946 : decode mb_L_law 946 = .ok (.invokestatic 129, 3) := by decide +kernel
theorem md_L_law_949 : decode mb_L_law 949 = .ok (.istore 5, 2) := by decide +kernel
theorem md_L_law_951 : decode mb_L_law 951 = .ok (.aload_n 2, 1) := by decide +kernel
theorem md_L_law_952 : decode mb_L_law 952 = .ok (.aload_n 0, 1) := by decide +kernel
theorem md_L_law_953 : decode mb_L_law 953 = .ok (.iload 4, 2) := by decide +kernel
theorem md_L_law_955 : decode mb_L_law 955 = .ok (.iconst 1, 1) := by decide +kernel
theorem md_L_law_956 : decode mb_L_law 956 = .ok (.iadd, 1) := by decide +kernel
theorem md_L_law_957 : decode mb_L_law 957 = .ok (.iaload, 1) := by decide +kernel
theorem md_L_law_958 : decode mb_L_law 958 = .ok (.aload_n 0, 1) := by decide +kernel
theorem md_L_law_959 : decode mb_L_law 959 = .ok (.iload 4, 2) := by decide +kernel
theorem md_L_law_961 : decode mb_L_law 961 = .ok (.iconst 2, 1) := by decide +kernel
theorem md_L_law_962 : decode mb_L_law 962 = .ok (.iadd, 1) := by decide +kernel
theorem md_L_law_963 : decode mb_L_law 963 = .ok (.iaload, 1) := by decide +kernel
theorem md_L_law_964 : decode mb_L_law 964 = .ok (.invokevirtual 131, 3) := by decide +kernel
theorem md_L_law_967 : decode mb_L_law 967 = .ok (.istore 6, 2) := by decide +kernel
theorem md_L_law_969 : decode mb_L_law 969 = .ok (.goto 215, 3) := by decide +kernel
theorem md_L_law_972 : decode mb_L_law 972 = .ok (.aload_n 1, 1) := by decide +kernel
theorem md_L_law_973 : decode mb_L_law 973 = .ok (.aload_n 0, 1) := by decide +kernel
theorem md_L_law_974 : decode mb_L_law 974 = .ok (.iload 4, 2) := by decide +kernel
theorem md_L_law_976 : decode mb_L_law 976 = .ok (.iconst 1, 1) := by decide +kernel
theorem md_L_law_977 : decode mb_L_law 977 = .ok (.iadd, 1) := by decide +kernel
theorem md_L_law_978 : decode mb_L_law 978 = .ok (.iaload, 1) := by decide +kernel
theorem md_L_law_979 : decode mb_L_law 979 = .ok (.aload_n 3, 1) := by decide +kernel
theorem md_L_law_980 : decode mb_L_law 980 = .ok (.invokestatic 132, 3) := by decide +kernel
theorem md_L_law_983 : decode mb_L_law 983 = .ok (.istore 5, 2) := by decide +kernel
theorem md_L_law_985 : decode mb_L_law 985 = .ok (.aload_n 2, 1) := by decide +kernel
theorem md_L_law_986 : decode mb_L_law 986 = .ok (.aload_n 0, 1) := by decide +kernel
theorem md_L_law_987 : decode mb_L_law 987 = .ok (.iload 4, 2) := by decide +kernel
theorem md_L_law_989 : decode mb_L_law 989 = .ok (.iconst 1, 1) := by decide +kernel
theorem md_L_law_990 : decode mb_L_law 990 = .ok (.iadd, 1) := by decide +kernel
theorem md_L_law_991 : decode mb_L_law 991 = .ok (.iaload, 1) := by decide +kernel
theorem md_L_law_992 : decode mb_L_law 992 = .ok (.invokevirtual 134, 3) := by decide +kernel
theorem md_L_law_995 : decode mb_L_law 995 = .ok (.istore 6, 2) := by decide +kernel
theorem md_L_law_997 : decode mb_L_law 997 = .ok (.goto 187, 3) := by decide +kernel
theorem md_L_law_1000 : decode mb_L_law 1000 = .ok (.aload_n 1, 1) := by decide +kernel
theorem md_L_law_1001 : decode mb_L_law 1001 = .ok (.aload_n 0, 1) := by decide +kernel
theorem md_L_law_1002 : decode mb_L_law 1002 = .ok (.iload 4, 2) := by decide +kernel
theorem md_L_law_1004 : decode mb_L_law 1004 = .ok (.iconst 1, 1) := by decide +kernel
theorem md_L_law_1005 : decode mb_L_law 1005 = .ok (.iadd, 1) := by decide +kernel
theorem md_L_law_1006 : decode mb_L_law 1006 = .ok (.iaload, 1) := by decide +kernel
theorem md_L_law_1007 : decode mb_L_law 1007 = .ok (.i2l, 1) := by decide +kernel
theorem md_L_law_1008 : decode mb_L_law 1008 = .ok (.bipush 32, 2) := by decide +kernel
