theorem md_L_law_1010 : decode mb_L_law 1010 = .ok (.aload_n 0, 1) := by decide +kernel
theorem md_L_law_1011 : decode mb_L_law 1011 = .ok (.iload 4, 2) := by decide +kernel
theorem md_L_law_1013 : decode mb_L_law 1013 = .ok (.iconst 2, 1) := by decide +kernel
theorem md_L_law_1014 : decode mb_L_law 1014 = .ok (.iadd, 1) := by decide +kernel
theorem md_L_law_1015 : decode mb_L_law 1015 = .ok (.iaload, 1) := by decide +kernel
theorem md_L_law_1016 : decode mb_L_law 1016 = .ok (.i2l, 1) := by decide +kernel
theorem md_L_law_1017 : decode mb_L_law 1017 = .ok (.ldc2_w 94, 3) := by decide +kernel
theorem md_L_law_1020 : decode mb_L_law 1020 = .ok (.land, 1) := by decide +kernel
theorem md_L_law_1021 : decode mb_L_law 1021 = .ok (.lor, 1) := by decide +kernel
theorem md_L_law_1022 : decode mb_L_law 1022 = .ok (.aload_n 3, 1) := by decide +kernel
theorem md_L_law_1023 : decode mb_L_law 1023 = .ok (.invokestatic 135, 3) := by decide +kernel
theorem md_L_law_1026 : decode mb_L_law 1026 = .ok (.istore 5, 2) := by decide +kernel
theorem md_L_law_1028 : decode mb_L_law 1028 = .ok (.aload_n 2, 1) := by decide +kernel
theorem md_L_law_1029 : decode mb_L_law 1029 = .ok (.aload_n 0, 1) := by decide +kernel
theorem md_L_law_1030 : decode mb_L_law 1030 = .ok (.iload 4, 2) := by decide +kernel
theorem md_L_law_1032 : decode mb_L_law 1032 = .ok (.iconst 1, 1) := by decide +kernel
theorem md_L_law_1033 : decode mb_L_law 1033 = .ok (.iadd, 1) := by decide +kernel
theorem md_L_law_1034 : decode mb_L_law 1034 = .ok (.iaload, 1) := by decide +kernel
theorem md_L_law_1035 : decode mb_L_law 1035 = .ok (.i2l, 1) := by decide +kernel
theorem md_L_law_1036 : decode mb_L_law 1036 = .ok (.bipush 32, 2) := by decide +kernel
theorem md_L_law_1038 : decode mb_L_law 1038 = .ok (.lshl, 1) := by decide +kernel
theorem md_L_law_1039 : decode mb_L_law 1039 = .ok (.aload_n 0, 1) := by decide +kernel
theorem md_L_law_1040 : decode mb_L_law 1040 = .ok (.iload 4, 2) := by decide +kernel
theorem md_L_law_1042 : decode mb_L_law 1042 = .ok (.iconst 2, 1) := by decide +kernel
theorem md_L_law_1043 : decode mb_L_law 1043 = .ok (.iadd, 1) := by decide +kernel
theorem md_L_law_1044 : decode mb_L_law 1044 = .ok (.iaload, 1) := by decide +kernel
theorem md_L_law_1045 : decode mb_L_law 1045 = .ok (.i2l, 1) := by decide +kernel
theorem md_L_law_1046 : decode mb_L_law 1046 = .ok (.ldc2_w 94, 3) := by decide +kernel
theorem md_L_law_1049 : decode mb_L_law 1049 = .ok (.land, 1) := by decide +kernel
theorem md_L_law_1050 : decode mb_L_law 1050 = .ok (.lor, 1) := by decide +kernel
theorem md_L_law_1051 : decode mb_L_law 1051 = .ok (.invokevirtual 137, 3) := by decide +kernel
theorem md_L_law_1054 : decode mb_L_law 1054 = .ok (.istore 6, 2) := by decide +kernel
theorem md_L_law_1056 : decode mb_L_law 1056 = .ok (.goto 127, 3) := by decide +kernel
theorem md_L_law_1059 : decode mb_L_law 1059 = .ok (.aload_n 1, 1) := by decide +kernel
theorem md_L_law_1060 : decode mb_L_law 1060 = .ok (.aload_n 0, 1) := by decide +kernel
theorem md_L_law_1061 : decode mb_L_law 1061 = .ok (.iload 4, 2) := by decide +kernel
theorem md_L_law_1063 : decode mb_L_law 1063 = .ok (.iconst 1, 1) := by decide +kernel
theorem md_L_law_1064 : decode mb_L_law 1064 = .ok (.iadd, 1) := by decide +kernel
theorem md_L_law_1065 : decode mb_L_law 1065 = .ok (.iaload, 1) := by decide +kernel
theorem md_L_law_1066 : decode mb_L_law 1066 = .ok (.aload_n 0, 1) := by decide +kernel
theorem md_L_law_1067 : decode mb_L_law 1067 = .ok (.iload 4, 2) := by decide +kernel
theorem md_L_law_1069 : decode mb_L_law 1069 = .ok (.iconst 2, 1) := by decide +kernel
theorem md_L_law_1070 : decode mb_L_law 1070 = .ok (.iadd, 1) := by decide +kernel
theorem md_L_law_1071 : decode mb_L_law 1071 = .ok (.iaload, 1) := by decide +kernel
theorem md_L_law_1072 : decode mb_L_law 1072 = .ok (.aload_n 0, 1) := by decide +kernel
theorem md_L_law_1073 : decode mb_L_law 1073 = .ok (.iload 4, 2) := by decide +kernel
theorem md_L_law_1075 : decode mb_L_law 1075 = .ok (.iconst 3, 1) := by decide +kernel
theorem md_L_law_1076 : decode mb_L_law 1076 = .ok (.iadd, 1) := by decide +kernel
theorem md_L_law_1077 : decode mb_L_law 1077 = .ok (.iaload, 1) := by decide +kernel
theorem md_L_law_1078 : decode mb_L_law 1078 = .ok (.aload_n 3, 1) := by decide +kernel
theorem md_L_law_1079 : decode mb_L_law 1079 = .ok (.invokestatic 138, 3) := by decide +kernel
theorem md_L_law_1082 : decode mb_L_law 1082 = .ok (.istore 5, 2) := by decide +kernel
theorem md_L_law_1084 : decode mb_L_law 1084 = .ok (.aload_n 2, 1) := by decide +kernel
theorem md_L_law_1085 : decode mb_L_law 1085 = .ok (.aload_n 0, 1) := by decide +kernel
theorem md_L_law_1086 : decode mb_L_law 1086 = .ok (.iload 4, 2) := by decide +kernel
theorem md_L_law_1088 : decode mb_L_law 1088 = .ok (.iconst 1, 1) := by decide +kernel
theorem md_L_law_1089 : decode mb_L_law 1089 = .ok (.iadd, 1) := by decide +kernel
theorem md_L_law_1090 : decode mb_L_law 1090 = .ok (.iaload, 1) := by decide +kernel
theorem md_L_law_1091 : decode mb_L_law 1091 = .ok (.aload_n 0, 1) := by decide +kernel
theorem md_L_law_1092 : decode mb_L_law 1092 = .ok (.iload 4, 2) := by decide +kernel
theorem md_L_law_1094 : decode mb_L_law 1094 = .ok (.iconst 2, 1) := by decide +kernel
theorem md_L_law_1095 : decode mb_L_law 1095 = .ok (.iadd, 1) := by decide +kernel
theorem md_L_law_1096 : decode mb_L_law 1096 = .ok (.iaload, 1) := by decide +kernel
theorem md_L_law_1097 : decode mb_L_law 1097 = .ok (.aload_n 0, 1) := by decide +kernel
theorem md_L_law_1098 : decode mb_L_law 1098 = .ok (.iload 4, 2) := by decide +kernel
theorem md_L_law_1100 : decode mb_L_law 1100 = .ok (.iconst 3, 1) := by decide +kernel
theorem md_L_law_1101 : decode mb_L_law 1101 = .ok (.iadd, 1) := by decide +kernel
theorem md_L_law_1102 : decode mb_L_law 1102 = .ok (.iaload, 1) := by decide +kernel
theorem md_L_law_1103 : decode mb_L_law 1103 = .ok (.invokevirtual 141, 3) := by decide +kernel
theorem md_L_law_1106 : decode mb_L_law 1106 = .ok (.lstore 6, 2) := by decide +kernel
theorem md_L_law_1108 : decode mb_L_law 1108 = .ok (.goto 75, 3) := by decide +kernel
theorem md_L_law_1111 : decode mb_L_law 1111 = .ok (.aload_n 1, 1) := by decide +kernel
theorem md_L_law_1112 : decode mb_L_law 1112 = .ok (.aload_n 0, 1) := by decide +kernel
theorem md_L_law_1113 : decode mb_L_law 1113 = .ok (.iload 4, 2) := by decide +kernel
theorem md_L_law_1115 : decode mb_L_law 1115 = .ok (.iconst 1, 1) := by decide +kernel
theorem md_L_law_1116 : decode mb_L_law 1116 = .ok (.iadd, 1) := by decide +kernel
theorem md_L_law_1117 : decode mb_L_law 1117 = .ok (.iaload, 1) := by decide +kernel
theorem md_L_law_1118 : decode mb_L_law 1118 = .ok (.i2l, 1) := by decide +kernel
theorem md_L_law_1119 : decode mb_L_law 1119 = .ok (.bipush 32, 2) := by decide +kernel
theorem md_L_law_1121 : decode mb_L_law 1121 = .ok (.lshl, 1) := by decide +kernel
theorem md_L_law_1122 : decode mb_L_law 1122 = .ok (.aload_n 0, 1) := by decide +kernel
theorem md_L_law_1123 : decode mb_L_law 1123 = .ok (.iload 4, 2) := by decide +kernel
theorem md_L_law_1125 : decode mb_L_law 1125 = .ok (.iconst 2, 1) := by decide +kernel
theorem md_L_law_1126 : decode mb_L_law 1126 = .ok (.iadd, 1) := by decide +kernel
theorem md_L_law_1127 : decode mb_L_law 1127 = .ok (.iaload, 1) := by decide +kernel
theorem md_L_law_1128 : decode mb_L_law 1128 = .ok (.i2l, 1) := by decide +kernel
theorem md_L_law_1129 : decode mb_L_law 1129 = .ok (.ldc2_w 94, 3) := by decide +kernel
theorem md_L_law_1132 : decode mb_L_law 1132 = .ok (.land, 1) := by decide +kernel
theorem md_L_law_1133 : decode mb_L_law 1133 = .ok (.lor, 1) := by decide +kernel
theorem md_L_law_1134 : decode mb_L_law 1134 = .ok (.aload_n 0, 1) := by decide +kernel
theorem md_L_law_1135 : decode mb_L_law 1135 = .ok (.iload 4, 2) := by decide +kernel
theorem md_L_law_1137 : decode mb_L_law 1137 = .ok (.iconst 3, 1) := by decide +kernel
theorem md_L_law_1138 : decode mb_L_law 1138 = .ok (.iadd, 1) := by decide +kernel
theorem md_L_law_1139 : decode mb_L_law 1139 = .ok (.iaload, 1) := by decide +kernel
theorem md_L_law_1140 : decode mb_L_law 1140 = .ok (.aload_n 3, 1) := by decide +kernel
theorem md_L_law_1141 : decode mb_L_law 1141 = .ok (.invokestatic 142, 3) := by decide +kernel
theorem md_L_law_1144 : decode mb_L_law 1144 = .ok (.istore 5, 2) := by decide +kernel
theorem md_L_law_1146 : decode mb_L_law 1146 = .ok (.aload_n 2, 1) := by decide +kernel
theorem md_L_law_1147 : decode mb_L_law 1147 = .ok (.aload_n 0, 1) := by decide +kernel
theorem md_L_law_1148 : decode mb_L_law 1148 = .ok (.iload 4, 2) := by decide +kernel
theorem md_L_law_1150 : decode mb_L_law 1150 = .ok (.iconst 1, 1) := by decide +kernel
theorem md_L_law_1151 : decode mb_L_law 1151 = .ok (.iadd, 1) := by decide +kernel
theorem md_L_law_1152 : decode mb_L_law 1152 = .ok (.iaload, 1) := by decide +kernel
theorem md_L_law_1153 : decode mb_L_law 1153 = .ok (.i2l, 1) := by decide +kernel
theorem md_L_law_1154 : decode mb_L_law 1154 = .ok (.bipush 32, 2) := by decide +kernel
theorem md_L_law_1156 : decode mb_L_law 1156 = .ok (.lshl, 1) := by decide +kernel
theorem md_L_law_1157 : decode mb_L_law 1157 = .ok (.aload_n 0, 1) := by decide +kernel
theorem md_L_law_1158 : decode mb_L_law 1158 = .ok (.iload 4, 2) := by decide +kernel
theorem md_L_law_1160 : decode mb_L_law 1160 = .ok (.iconst 2, 1) := by decide +kernel
theorem md_L_law_1161 : decode mb_L_law 1161 = .ok (.iadd, 1) := by decide +kernel
theorem md_L_law_1162 : decode mb_L_law 1162 = .ok (.iaload, 1) := by decide +kernel
theorem md_L_law_1163 : decode mb_L_law 1163 = .ok (.i2l, 1) := by decide +kernel
theorem md_L_law_1164 : decode mb_L_law 1164 = .ok (.ldc2_w 94, 3) := by decide +kernel
theorem md_L_law_1167 : decode mb_L_law 1167 = .ok (.land, 1) := by decide +kernel
theorem md_L_law_1168 : decode mb_L_law 1168 = .ok (.lor, 1) := by decide +kernel
theorem md_L_law_1169 : decode mb_L_law 1169 = .ok (.aload_n 0, 1) := by decide +kernel
theorem md_L_law_1170 : decode mb_L_law 1170 = .ok (.iload 4, 2) := by decide +kernel
theorem md_L_law_1172 : decode mb_L_law 1172 = .ok (.iconst 3, 1) := by decide +kernel
theorem md_L_law_1173 : decode mb_L_law 1173 = .ok (.iadd, 1) := by decide +kernel
theorem md_L_law_1174 : decode mb_L_law 1174 = .ok (.iaload, 1) := by decide +kernel
theorem md_L_law_1175 : decode mb_L_law 1175 = .ok (.invokevirtual 145, 3) := by decide +kernel
theorem md_L_law_1178 : decode mb_L_law 1178 = .ok (.istore 6, 2) := by decide +kernel
theorem md_L_law_1180 : decode mb_L_law 1180 = .ok (.goto 3, 3) := by decide +kernel
theorem md_L_law_1183 : decode mb_L_law 1183 = .ok (.iinc 4 9, 3) := by decide +kernel
theorem md_L_law_1186 : decode mb_L_law 1186 = .ok (.goto (-1163), 3) := by decide +kernel
theorem md_L_law_1189 : decode mb_L_law 1189 = .ok (.iconst 1, 1) := by decide +kernel
theorem md_L_law_1190 : decode mb_L_law 1190 = .ok (.ireturn, 1) := by decide +kernel
