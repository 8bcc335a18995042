theorem md_L_law_1006 : decode mb_L_law 1006 = .ok (.iadd, 1) := by decide +kernel
theorem md_L_law_1007 : decode mb_L_law 1007 = .ok (.iaload, 1) := by decide +kernel
theorem md_L_law_1008 : decode mb_L_law 1008 = .ok (.i2l, 1) := by decide +kernel
theorem md_L_law_1009 : decode mb_L_law 1009 = .ok (.bipush 32, 2) := by decide +kernel
theorem md_L_law_1011 : decode mb_L_law 1011 = .ok (.lshl, 1) := by decide +kernel
theorem md_L_law_1012 : decode mb_L_law 1012 = .ok (.aload_n 0, 1) := by decide +kernel
theorem md_L_law_1013 : decode mb_L_law 1013 = .ok (.iload 4, 2) := by decide +kernel
theorem md_L_law_1015 : decode mb_L_law 1015 = .ok (.iconst 2, 1) := by decide +kernel
theorem md_L_law_1016 : decode mb_L_law 1016 = .ok (.iadd, 1) := by decide +kernel
theorem md_L_law_1017 : decode mb_L_law 1017 = .ok (.iaload, 1) := by decide +kernel
theorem md_L_law_1018 : decode mb_L_law 1018 = .ok (.i2l, 1) := by decide +kernel
theorem md_L_law_1019 : decode mb_L_law 1019 = .ok (.ldc2_w 94, 3) := by decide +kernel
theorem md_L_law_1022 : decode mb_L_law 1022 = .ok (.land, 1) := by decide +kernel
theorem md_L_law_1023 : decode mb_L_law 1023 = .ok (.lor, 1) := by decide +kernel
theorem md_L_law_1024 : decode mb_L_law 1024 = .ok (.invokevirtual 134, 3) := by decide +kernel
theorem md_L_law_1027 : decode mb_L_law 1027 = .ok (.istore 6, 2) := by decide +kernel
theorem md_L_law_1029 : decode mb_L_law 1029 = .ok (.goto 127, 3) := by decide +kernel
theorem md_L_law_1032 : decode mb_L_law 1032 = .ok (.aload_n 1, 1) := by decide +kernel
theorem md_L_law_1033 : decode mb_L_law 1033 = .ok (.aload_n 0, 1) := by decide +kernel
theorem md_L_law_1034 : decode mb_L_law 1034 = .ok (.iload 4, 2) := by decide +kernel
theorem md_L_law_1036 : decode mb_L_law 1036 = .ok (.iconst 1, 1) := by decide +kernel
theorem md_L_law_1037 : decode mb_L_law 1037 = .ok (.iadd, 1) := by decide +kernel
theorem md_L_law_1038 : decode mb_L_law 1038 = .ok (.iaload, 1) := by decide +kernel
theorem md_L_law_1039 : decode mb_L_law 1039 = .ok (.aload_n 0, 1) := by decide +kernel
theorem md_L_law_1040 : decode mb_L_law 1040 = .ok (.iload 4, 2) := by decide +kernel
theorem md_L_law_1042 : decode mb_L_law 1042 = .ok (.iconst 2, 1) := by decide +kernel
theorem md_L_law_1043 : decode mb_L_law 1043 = .ok (.iadd, 1) := by decide +kernel
theorem md_L_law_1044 : decode mb_L_law 1044 = .ok (.iaload, 1) := by decide +kernel
theorem md_L_law_1045 : decode mb_L_law 1045 = .ok (.aload_n 0, 1) := by decide +kernel
theorem md_L_law_1046 : decode mb_L_law 1046 = .ok (.iload 4, 2) := by decide +kernel
theorem md_L_law_1048 : decode mb_L_law 1048 = .ok (.iconst 3, 1) := by decide +kernel
theorem md_L_law_1049 : decode mb_L_law 1049 = .ok (.iadd, 1) := by decide +kernel
theorem md_L_law_1050 : decode mb_L_law 1050 = .ok (.iaload, 1) := by decide +kernel
theorem md_L_law_1051 : decode mb_L_law 1051 = .ok (.aload_n 3, 1) := by decide +kernel
theorem md_L_law_1052 : decode mb_L_law 1052 = .ok (.invokestatic 135, 3) := by decide +kernel
theorem md_L_law_1055 : decode mb_L_law 1055 = .ok (.istore 5, 2) := by decide +kernel
theorem md_L_law_1057 : decode mb_L_law 1057 = .ok (.aload_n 2, 1) := by decide +kernel
theorem md_L_law_1058 : decode mb_L_law 1058 = .ok (.aload_n 0, 1) := by decide +kernel
theorem md_L_law_1059 : decode mb_L_law 1059 = .ok (.iload 4, 2) := by decide +kernel
theorem md_L_law_1061 : decode mb_L_law 1061 = .ok (.iconst 1, 1) := by decide +kernel
theorem md_L_law_1062 : decode mb_L_law 1062 = .ok (.iadd, 1) := by decide +kernel
theorem md_L_law_1063 : decode mb_L_law 1063 = .ok (.iaload, 1) := by decide +kernel
theorem md_L_law_1064 : decode mb_L_law 1064 = .ok (.aload_n 0, 1) := by decide +kernel
theorem md_L_law_1065 : decode mb_L_law 1065 = .ok (.iload 4, 2) := by decide +kernel
theorem md_L_law_1067 : decode mb_L_law 1067 = .ok (.iconst 2, 1) := by decide +kernel
theorem md_L_law_1068 : decode mb_L_law 1068 = .ok (.iadd, 1) := by decide +kernel
theorem md_L_law_1069 : decode mb_L_law 1069 = .ok (.iaload, 1) := by decide +kernel
theorem md_L_law_1070 : decode mb_L_law 1070 = .ok (.aload_n 0, 1) := by decide +kernel
theorem md_L_law_1071 : decode mb_L_law 1071 = .ok (.iload 4, 2) := by decide +kernel
theorem md_L_law_1073 : decode mb_L_law 1073 = .ok (.iconst 3, 1) := by decide +kernel
theorem md_L_law_1074 : decode mb_L_law 1074 = .ok (.iadd, 1) := by decide +kernel
theorem md_L_law_1075 : decode mb_L_law 1075 = .ok (.iaload, 1) := by decide +kernel
theorem md_L_law_1076 : decode mb_L_law 1076 = .ok (.invokevirtual 138, 3) := by decide +kernel
theorem md_L_law_1079 : decode mb_L_law 1079 = .ok (.lstore 6, 2) := by decide +kernel
theorem md_L_law_1081 : decode mb_L_law 1081 = .ok (.goto 75, 3) := by decide +kernel
theorem md_L_law_1084 : decode mb_L_law 1084 = .ok (.aload_n 1, 1) := by decide +kernel
theorem md_L_law_1085 : decode mb_L_law 1085 = .ok (.aload_n 0, 1) := by decide +kernel
theorem md_L_law_1086 : decode mb_L_law 1086 = .ok (.iload 4, 2) := by decide +kernel
theorem md_L_law_1088 : decode mb_L_law 1088 = .ok (.iconst 1, 1) := by decide +kernel
theorem md_L_law_1089 : decode mb_L_law 1089 = .ok (.iadd, 1) := by decide +kernel
theorem md_L_law_1090 : decode mb_L_law 1090 = .ok (.iaload, 1) := by decide +kernel
theorem md_L_law_1091 : decode mb_L_law 1091 = .ok (.i2l, 1) := by decide +kernel
theorem md_L_law_1092 : decode mb_L_law 1092 = .ok (.bipush 32, 2) := by decide +kernel
theorem md_L_law_1094 : decode mb_L_law 1094 = .ok (.lshl, 1) := by decide +kernel
theorem md_L_law_1095 : decode mb_L_law 1095 = .ok (.aload_n 0, 1) := by decide +kernel
theorem md_L_law_1096 : decode mb_L_law 1096 = .ok (.iload 4, 2) := by decide +kernel
theorem md_L_law_1098 : decode mb_L_law 1098 = .ok (.iconst 2, 1) := by decide +kernel
theorem md_L_law_1099 : decode mb_L_law 1099 = .ok (.iadd, 1) := by decide +kernel
theorem md_L_law_1100 : decode mb_L_law 1100 = .ok (.iaload, 1) := by decide +kernel
theorem md_L_law_1101 : decode mb_L_law 1101 = .ok (.i2l, 1) := by decide +kernel
theorem md_L_law_1102 : decode mb_L_law 1102 = .ok (.ldc2_w 94, 3) := by decide +kernel
theorem md_L_law_1105 : decode mb_L_law 1105 = .ok (.land, 1) := by decide +kernel
theorem md_L_law_1106 : decode mb_L_law 1106 = .ok (.lor, 1) := by decide +kernel
theorem md_L_law_1107 : decode mb_L_law 1107 = .ok (.aload_n 0, 1) := by decide +kernel
theorem md_L_law_1108 : decode mb_L_law 1108 = .ok (.iload 4, 2) := by decide +kernel
theorem md_L_law_1110 : decode mb_L_law 1110 = .ok (.iconst 3, 1) := by decide +kernel
theorem md_L_law_1111 : decode mb_L_law 1111 = .ok (.iadd, 1) := by decide +kernel
theorem md_L_law_1112 : decode mb_L_law 1112 = .ok (.iaload, 1) := by decide +kernel
theorem md_L_law_1113 : decode mb_L_law 1113 = .ok (.aload_n 3, 1) := by decide +kernel
theorem md_L_law_1114 : decode mb_L_law 1114 = .ok (.invokestatic 139, 3) := by decide +kernel
theorem md_L_law_1117 : decode mb_L_law 1117 = .ok (.istore 5, 2) := by decide +kernel
theorem md_L_law_1119 : decode mb_L_law 1119 = .ok (.aload_n 2, 1) := by decide +kernel
theorem md_L_law_1120 : decode mb_L_law 1120 = .ok (.aload_n 0, 1) := by decide +kernel
theorem md_L_law_1121 : decode mb_L_law 1121 = .ok (.iload 4, 2) := by decide +kernel
theorem md_L_law_1123 : decode mb_L_law 1123 = .ok (.iconst 1, 1) := by decide +kernel
theorem md_L_law_1124 : decode mb_L_law 1124 = .ok (.iadd, 1) := by decide +kernel
theorem md_L_law_1125 : decode mb_L_law 1125 = .ok (.iaload, 1) := by decide +kernel
theorem md_L_law_1126 : decode mb_L_law 1126 = .ok (.i2l, 1) := by decide +kernel
theorem md_L_law_1127 : decode mb_L_law 1127 = .ok (.bipush 32, 2) := by decide +kernel
theorem md_L_law_1129 : decode mb_L_law 1129 = .ok (.lshl, 1) := by decide +kernel
theorem md_L_law_1130 : decode mb_L_law 1130 = .ok (.aload_n 0, 1) := by decide +kernel
theorem md_L_law_1131 : decode mb_L_law 1131 = .ok (.iload 4, 2) := by decide +kernel
theorem md_L_law_1133 : decode mb_L_law 1133 = .ok (.iconst 2, 1) := by decide +kernel
theorem md_L_law_1134 : decode mb_L_law 1134 = .ok (.iadd, 1) := by decide +kernel
theorem md_L_law_1135 : decode mb_L_law 1135 = .ok (.iaload, 1) := by decide +kernel
theorem md_L_law_1136 : decode mb_L_law 1136 = .ok (.i2l, 1) := by decide +kernel
theorem md_L_law_1137 : decode mb_L_law 1137 = .ok (.ldc2_w 94, 3) := by decide +kernel
theorem md_L_law_1140 : decode mb_L_law 1140 = .ok (.land, 1) := by decide +kernel
theorem md_L_law_1141 : decode mb_L_law 1141 = .ok (.lor, 1) := by decide +kernel
theorem md_L_law_1142 : decode mb_L_law 1142 = .ok (.aload_n 0, 1) := by decide +kernel
theorem md_L_law_1143 : decode mb_L_law 1143 = .ok (.iload 4, 2) := by decide +kernel
theorem md_L_law_1145 : decode mb_L_law 1145 = .ok (.iconst 3, 1) := by decide +kernel
theorem md_L_law_1146 : decode mb_L_law 1146 = .ok (.iadd, 1) := by decide +kernel
theorem md_L_law_1147 : decode mb_L_law 1147 = .ok (.iaload, 1) := by decide +kernel
theorem md_L_law_1148 : decode mb_L_law 1148 = .ok (.invokevirtual 142, 3) := by decide +kernel
theorem md_L_law_1151 : decode mb_L_law 1151 = .ok (.istore 6, 2) := by decide +kernel
theorem md_L_law_1153 : decode mb_L_law 1153 = .ok (.goto 3, 3) := by decide +kernel
theorem md_L_law_1156 : decode mb_L_law 1156 = .ok (.iinc 4 9, 3) := by decide +kernel
theorem md_L_law_1159 : decode mb_L_law 1159 = .ok (.goto (-1136), 3) := by decide +kernel
theorem md_L_law_1162 : decode mb_L_law 1162 = .ok (.iconst 1, 1) := by decide +kernel
theorem md_L_law_1163 : decode mb_L_law 1163 = .ok (.ireturn, 1) := by decide +kernel
