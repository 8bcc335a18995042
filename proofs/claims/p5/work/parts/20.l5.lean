theorem md_L_law_1013 : decode mb_L_law 1013 = .ok (.iaload, 1) := by decide +kernel
theorem md_L_law_1014 : decode mb_L_law 1014 = .ok (.i2l, 1) := by decide +kernel
theorem md_L_law_1015 : decode mb_L_law 1015 = .ok (.bipush 32, 2) := by decide +kernel
theorem md_L_law_1017 : decode mb_L_law 1017 = .ok (.lshl, 1) := by decide +kernel
theorem md_L_law_1018 : decode mb_L_law 1018 = .ok (.aload_n 0, 1) := by decide +kernel
theorem md_L_law_1019 : decode mb_L_law 1019 = .ok (.iload 4, 2) := by decide +kernel
theorem md_L_law_1021 : decode mb_L_law 1021 = .ok (.iconst 2, 1) := by decide +kernel
theorem md_L_law_1022 : decode mb_L_law 1022 = .ok (.iadd, 1) := by decide +kernel
theorem md_L_law_1023 : decode mb_L_law 1023 = .ok (.iaload, 1) := by decide +kernel
theorem md_L_law_1024 : decode mb_L_law 1024 = .ok (.i2l, 1) := by decide +kernel
theorem md_L_law_1025 : decode mb_L_law 1025 = .ok (.ldc2_w 97, 3) := by decide +kernel
theorem md_L_law_1028 : decode mb_L_law 1028 = .ok (.land, 1) := by decide +kernel
theorem md_L_law_1029 : decode mb_L_law 1029 = .ok (.lor, 1) := by decide +kernel
theorem md_L_law_1030 : decode mb_L_law 1030 = .ok (.aload_n 3, 1) := by decide +kernel
theorem md_L_law_1031 : decode mb_L_law 1031 = .ok (.invokestatic 135, 3) := by decide +kernel
theorem md_L_law_1034 : decode mb_L_law 1034 = .ok (.istore 5, 2) := by decide +kernel
theorem md_L_law_1036 : decode mb_L_law 1036 = .ok (.aload_n 2, 1) := by decide +kernel
theorem md_L_law_1037 : decode mb_L_law 1037 = .ok (.aload_n 0, 1) := by decide +kernel
theorem md_L_law_1038 : decode mb_L_law 1038 = .ok (.iload 4, 2) := by decide +kernel
theorem md_L_law_1040 : decode mb_L_law 1040 = .ok (.iconst 1, 1) := by decide +kernel
theorem md_L_law_1041 : decode mb_L_law 1041 = .ok (.iadd, 1) := by decide +kernel
theorem md_L_law_1042 : decode mb_L_law 1042 = .ok (.iaload, 1) := by decide +kernel
theorem md_L_law_1043 : decode mb_L_law 1043 = .ok (.i2l, 1) := by decide +kernel
theorem md_L_law_1044 : decode mb_L_law 1044 = .ok (.bipush 32, 2) := by decide +kernel
theorem md_L_law_1046 : decode mb_L_law 1046 = .ok (.lshl, 1) := by decide +kernel
theorem md_L_law_1047 : decode mb_L_law 1047 = .ok (.aload_n 0, 1) := by decide +kernel
theorem md_L_law_1048 : decode mb_L_law 1048 = .ok (.iload 4, 2) := by decide +kernel
theorem md_L_law_1050 : decode mb_L_law 1050 = .ok (.iconst 2, 1) := by decide +kernel
theorem md_L_law_1051 : decode mb_L_law 1051 = .ok (.iadd, 1) := by decide +kernel
theorem md_L_law_1052 : decode mb_L_law 1052 = .ok (.iaload, 1) := by decide +kernel
theorem md_L_law_1053 : decode mb_L_law 1053 = .ok (.i2l, 1) := by decide +kernel
theorem md_L_law_1054 : decode mb_L_law 1054 = .ok (.ldc2_w 97, 3) := by decide +kernel
theorem md_L_law_1057 : decode mb_L_law 1057 = .ok (.land, 1) := by decide +kernel
theorem md_L_law_1058 : decode mb_L_law 1058 = .ok (.lor, 1) := by decide +kernel
theorem md_L_law_1059 : decode mb_L_law 1059 = .ok (.invokevirtual 137, 3) := by decide +kernel
theorem md_L_law_1062 : decode mb_L_law 1062 = .ok (.istore 6, 2) := by decide +kernel
theorem md_L_law_1064 : decode mb_L_law 1064 = .ok (.goto 127, 3) := by decide +kernel
theorem md_L_law_1067 : decode mb_L_law 1067 = .ok (.aload_n 1, 1) := by decide +kernel
theorem md_L_law_1068 : decode mb_L_law 1068 = .ok (.aload_n 0, 1) := by decide +kernel
theorem md_L_law_1069 : decode mb_L_law 1069 = .ok (.iload 4, 2) := by decide +kernel
theorem md_L_law_1071 : decode mb_L_law 1071 = .ok (.iconst 1, 1) := by decide +kernel
theorem md_L_law_1072 : decode mb_L_law 1072 = .ok (.iadd, 1) := by decide +kernel
theorem md_L_law_1073 : decode mb_L_law 1073 = .ok (.iaload, 1) := by decide +kernel
theorem md_L_law_1074 : decode mb_L_law 1074 = .ok (.aload_n 0, 1) := by decide +kernel
theorem md_L_law_1075 : decode mb_L_law 1075 = .ok (.iload 4, 2) := by decide +kernel
theorem md_L_law_1077 : decode mb_L_law 1077 = .ok (.iconst 2, 1) := by decide +kernel
theorem md_L_law_1078 : decode mb_L_law 1078 = .ok (.iadd, 1) := by decide +kernel
theorem md_L_law_1079 : decode mb_L_law 1079 = .ok (.iaload, 1) := by decide +kernel
theorem md_L_law_1080 : decode mb_L_law 1080 = .ok (.aload_n 0, 1) := by decide +kernel
theorem md_L_law_1081 : decode mb_L_law 1081 = .ok (.iload 4, 2) := by decide +kernel
theorem md_L_law_1083 : decode mb_L_law 1083 = .ok (.iconst 3, 1) := by decide +kernel
theorem md_L_law_1084 : decode mb_L_law 1084 = .ok (.iadd, 1) := by decide +kernel
theorem md_L_law_1085 : decode mb_L_law 1085 = .ok (.iaload, 1) := by decide +kernel
theorem md_L_law_1086 : decode mb_L_law 1086 = .ok (.aload_n 3, 1) := by decide +kernel
theorem md_L_law_1087 : decode mb_L_law 1087 = .ok (.invokestatic 138, 3) := by decide +kernel
theorem md_L_law_1090 : decode mb_L_law 1090 = .ok (.istore 5, 2) := by decide +kernel
theorem md_L_law_1092 : decode mb_L_law 1092 = .ok (.aload_n 2, 1) := by decide +kernel
theorem md_L_law_1093 : decode mb_L_law 1093 = .ok (.aload_n 0, 1) := by decide +kernel
theorem md_L_law_1094 : decode mb_L_law 1094 = .ok (.iload 4, 2) := by decide +kernel
theorem md_L_law_1096 : decode mb_L_law 1096 = .ok (.iconst 1, 1) := by decide +kernel
theorem md_L_law_1097 : decode mb_L_law 1097 = .ok (.iadd, 1) := by decide +kernel
theorem md_L_law_1098 : decode mb_L_law 1098 = .ok (.iaload, 1) := by decide +kernel
theorem md_L_law_1099 : decode mb_L_law 1099 = .ok (.aload_n 0, 1) := by decide +kernel
theorem md_L_law_1100 : decode mb_L_law 1100 = .ok (.iload 4, 2) := by decide +kernel
theorem md_L_law_1102 : decode mb_L_law 1102 = .ok (.iconst 2, 1) := by decide +kernel
theorem md_L_law_1103 : decode mb_L_law 1103 = .ok (.iadd, 1) := by decide +kernel
theorem md_L_law_1104 : decode mb_L_law 1104 = .ok (.iaload, 1) := by decide +kernel
theorem md_L_law_1105 : decode mb_L_law 1105 = .ok (.aload_n 0, 1) := by decide +kernel
theorem md_L_law_1106 : decode mb_L_law 1106 = .ok (.iload 4, 2) := by decide +kernel
theorem md_L_law_1108 : decode mb_L_law 1108 = .ok (.iconst 3, 1) := by decide +kernel
theorem md_L_law_1109 : decode mb_L_law 1109 = .ok (.iadd, 1) := by decide +kernel
theorem md_L_law_1110 : decode mb_L_law 1110 = .ok (.iaload, 1) := by decide +kernel
theorem md_L_law_1111 : decode mb_L_law 1111 = .ok (.invokevirtual 141, 3) := by decide +kernel
theorem md_L_law_1114 : decode mb_L_law 1114 = .ok (.lstore 6, 2) := by decide +kernel
theorem md_L_law_1116 : decode mb_L_law 1116 = .ok (.goto 75, 3) := by decide +kernel
theorem md_L_law_1119 : decode mb_L_law 1119 = .ok (.aload_n 1, 1) := by decide +kernel
theorem md_L_law_1120 : decode mb_L_law 1120 = .ok (.aload_n 0, 1) := by decide +kernel
theorem md_L_law_1121 : decode mb_L_law 1121 = .ok (.iload 4, 2) := by decide +kernel
theorem md_L_law_1123 : decode mb_L_law 1123 = .ok (.iconst 1, 1) := by decide +kernel
theorem md_L_law_1124 : decode mb_L_law 1124 = .ok (.iadd, 1) := by decide +kernel
theorem md_L_law_1125 : decode mb_L_law 1125 = .ok (.iaload, 1) := by decide +kernel
theorem md_L_law_1126 : decode mb_L_law 1126 = .ok (.i2l, 1) := by decide +kernel
theorem md_L_law_1127 : decode mb_L_law 1127 = .ok (.bipush 32, 2) := by decide +kernel
theorem md_L_law_1129 : decode mb_L_law 1129 = .ok (.lshl, 1) := by decide +kernel
theorem md_L_law_1130 : decode mb_L_law 1130 = .ok (.aload_n 0, 1) := by decide +kernel
theorem md_L_law_1131 : decode mb_L_law 1131 = .ok (.iload 4, 2) := by decide +kernel
theorem md_L_law_1133 : decode mb_L_law 1133 = .ok (.iconst 2, 1) := by decide +kernel
theorem md_L_law_1134 : decode mb_L_law 1134 = .ok (.iadd, 1) := by decide +kernel
theorem md_L_law_1135 : decode mb_L_law 1135 = .ok (.iaload, 1) := by decide +kernel
theorem md_L_law_1136 : decode mb_L_law 1136 = .ok (.i2l, 1) := by decide +kernel
theorem md_L_law_1137 : decode mb_L_law 1137 = .ok (.ldc2_w 97, 3) := by decide +kernel
theorem md_L_law_1140 : decode mb_L_law 1140 = .ok (.land, 1) := by decide +kernel
theorem md_L_law_1141 : decode mb_L_law 1141 = .ok (.lor, 1) := by decide +kernel
theorem md_L_law_1142 : decode mb_L_law 1142 = .ok (.aload_n 0, 1) := by decide +kernel
theorem md_L_law_1143 : decode mb_L_law 1143 = .ok (.iload 4, 2) := by decide +kernel
theorem md_L_law_1145 : decode mb_L_law 1145 = .ok (.iconst 3, 1) := by decide +kernel
theorem md_L_law_1146 : decode mb_L_law 1146 = .ok (.iadd, 1) := by decide +kernel
theorem md_L_law_1147 : decode mb_L_law 1147 = .ok (.iaload, 1) := by decide +kernel
theorem md_L_law_1148 : decode mb_L_law 1148 = .ok (.aload_n 3, 1) := by decide +kernel
theorem md_L_law_1149 : decode mb_L_law 1149 = .ok (.invokestatic 142, 3) := by decide +kernel
theorem md_L_law_1152 : decode mb_L_law 1152 = .ok (.istore 5, 2) := by decide +kernel
theorem md_L_law_1154 : decode mb_L_law 1154 = .ok (.aload_n 2, 1) := by decide +kernel
theorem md_L_law_1155 : decode mb_L_law 1155 = .ok (.aload_n 0, 1) := by decide +kernel
theorem md_L_law_1156 : decode mb_L_law 1156 = .ok (.iload 4, 2) := by decide +kernel
theorem md_L_law_1158 : decode mb_L_law 1158 = .ok (.iconst 1, 1) := by decide +kernel
theorem md_L_law_1159 : decode mb_L_law 1159 = .ok (.iadd, 1) := by decide +kernel
theorem md_L_law_1160 : decode mb_L_law 1160 = .ok (.iaload, 1) := by decide +kernel
theorem md_L_law_1161 : decode mb_L_law 1161 = .ok (.i2l, 1) := by decide +kernel
theorem md_L_law_1162 : decode mb_L_law 1162 = .ok (.bipush 32, 2) := by decide +kernel
theorem md_L_law_1164 : decode mb_L_law 1164 = .ok (.lshl, 1) := by decide +kernel
theorem md_L_law_1165 : decode mb_L_law 1165 = .ok (.aload_n 0, 1) := by decide +kernel
theorem md_L_law_1166 : decode mb_L_law 1166 = .ok (.iload 4, 2) := by decide +kernel
theorem md_L_law_1168 : decode mb_L_law 1168 = .ok (.iconst 2, 1) := by decide +kernel
theorem md_L_law_1169 : decode mb_L_law 1169 = .ok (.iadd, 1) := by decide +kernel
theorem md_L_law_1170 : decode mb_L_law 1170 = .ok (.iaload, 1) := by decide +kernel
theorem md_L_law_1171 : decode mb_L_law 1171 = .ok (.i2l, 1) := by decide +kernel
theorem md_L_law_1172 : decode mb_L_law 1172 = .ok (.ldc2_w 97, 3) := by decide +kernel
theorem md_L_law_1175 : decode mb_L_law 1175 = .ok (.land, 1) := by decide +kernel
theorem md_L_law_1176 : decode mb_L_law 1176 = .ok (.lor, 1) := by decide +kernel
theorem md_L_law_1177 : decode mb_L_law 1177 = .ok (.aload_n 0, 1) := by decide +kernel
theorem md_L_law_1178 : decode mb_L_law 1178 = .ok (.iload 4, 2) := by decide +kernel
theorem md_L_law_1180 : decode mb_L_law 1180 = .ok (.iconst 3, 1) := by decide +kernel
theorem md_L_law_1181 : decode mb_L_law 1181 = .ok (.iadd, 1) := by decide +kernel
theorem md_L_law_1182 : decode mb_L_law 1182 = .ok (.iaload, 1) := by decide +kernel
theorem md_L_law_1183 : decode mb_L_law 1183 = .ok (.invokevirtual 145, 3) := by decide +kernel
theorem md_L_law_1186 : decode mb_L_law 1186 = .ok (.istore 6, 2) := by decide +kernel
theorem md_L_law_1188 : decode mb_L_law 1188 = .ok (.goto 3, 3) := by decide +kernel
theorem md_L_law_1191 : decode mb_L_law 1191 = .ok (.iinc 4 9, 3) := by decide +kernel
theorem md_L_law_1194 : decode mb_L_law 1194 = .ok (.goto (-1171), 3) := by decide +kernel
theorem md_L_law_1197 : decode mb_L_law 1197 = .ok (.iconst 1, 1) := by decide +kernel
