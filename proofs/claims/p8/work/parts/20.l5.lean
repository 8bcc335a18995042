theorem md_L_law_1010 : decode mb_L_law 1010 = .ok (.lshl, 1) := by decide +kernel
theorem md_L_law_1011 : decode mb_L_law 1011 = .ok (.aload_n 0, 1) := by decide +kernel
theorem md_L_law_1012 : decode mb_L_law 1012 = .ok (.iload 4, 2) := by decide +kernel
theorem md_L_law_1014 : decode mb_L_law 1014 = .ok (.iconst 2, 1) := by decide +kernel
theorem md_L_law_1015 : decode mb_L_law 1015 = .ok (.iadd, 1) := by decide +kernel
theorem md_L_law_1016 : decode mb_L_law 1016 = .ok (.iaload, 1) := by decide +kernel
theorem md_L_law_1017 : decode mb_L_law 1017 = .ok (.i2l, 1) := by decide +kernel
theorem md_L_law_1018 : decode mb_L_law 1018 = .ok (.ldc2_w 94, 3) := by decide +kernel
theorem md_L_law_1021 : decode mb_L_law 1021 = .ok (.land, 1) := by decide +kernel
theorem md_L_law_1022 : decode mb_L_law 1022 = .ok (.lor, 1) := by decide +kernel
theorem md_L_law_1023 : decode mb_L_law 1023 = .ok (.aload_n 3, 1) := by decide +kernel
theorem md_L_law_1024 : decode mb_L_law 1024 = .ok (.invokestatic 135, 3) := by decide +kernel
theorem md_L_law_1027 : decode mb_L_law 1027 = .ok (.istore 5, 2) := by decide +kernel
theorem md_L_law_1029 : decode mb_L_law 1029 = .ok (.aload_n 2, 1) := by decide +kernel
theorem md_L_law_1030 : decode mb_L_law 1030 = .ok (.aload_n 0, 1) := by decide +kernel
theorem md_L_law_1031 : decode mb_L_law 1031 = .ok (.iload 4, 2) := by decide +kernel
theorem md_L_law_1033 : decode mb_L_law 1033 = .ok (.iconst 1, 1) := by decide +kernel
theorem md_L_law_1034 : decode mb_L_law 1034 = .ok (.iadd, 1) := by decide +kernel
theorem md_L_law_1035 : decode mb_L_law 1035 = .ok (.iaload, 1) := by decide +kernel
theorem md_L_law_1036 : decode mb_L_law 1036 = .ok (.i2l, 1) := by decide +kernel
theorem md_L_law_1037 : decode mb_L_law 1037 = .ok (.bipush 32, 2) := by decide +kernel
theorem md_L_law_1039 : decode mb_L_law 1039 = .ok (.lshl, 1) := by decide +kernel
theorem md_L_law_1040 : decode mb_L_law 1040 = .ok (.aload_n 0, 1) := by decide +kernel
theorem md_L_law_1041 : decode mb_L_law 1041 = .ok (.iload 4, 2) := by decide +kernel
theorem md_L_law_1043 : decode mb_L_law 1043 = .ok (.iconst 2, 1) := by decide +kernel
theorem md_L_law_1044 : decode mb_L_law 1044 = .ok (.iadd, 1) := by decide +kernel
theorem md_L_law_1045 : decode mb_L_law 1045 = .ok (.iaload, 1) := by decide +kernel
theorem md_L_law_1046 : decode mb_L_law 1046 = .ok (.i2l, 1) := by decide +kernel
theorem md_L_law_1047 : decode mb_L_law 1047 = .ok (.ldc2_w 94, 3) := by decide +kernel
theorem md_L_law_1050 : decode mb_L_law 1050 = .ok (.land, 1) := by decide +kernel
theorem md_L_law_1051 : decode mb_L_law 1051 = .ok (.lor, 1) := by decide +kernel
theorem md_L_law_1052 : decode mb_L_law 1052 = .ok (.invokevirtual 137, 3) := by decide +kernel
theorem md_L_law_1055 : decode mb_L_law 1055 = .ok (.istore 6, 2) := by decide +kernel
theorem md_L_law_1057 : decode mb_L_law 1057 = .ok (.goto 127, 3) := by decide +kernel
theorem md_L_law_1060 : decode mb_L_law 1060 = .ok (.aload_n 1, 1) := by decide +kernel
theorem md_L_law_1061 : decode mb_L_law 1061 = .ok (.aload_n 0, 1) := by decide +kernel
theorem md_L_law_1062 : decode mb_L_law 1062 = .ok (.iload 4, 2) := by decide +kernel
theorem md_L_law_1064 : decode mb_L_law 1064 = .ok (.iconst 1, 1) := by decide +kernel
theorem md_L_law_1065 : decode mb_L_law 1065 = .ok (.iadd, 1) := by decide +kernel
theorem md_L_law_1066 : decode mb_L_law 1066 = .ok (.iaload, 1) := by decide +kernel
theorem md_L_law_1067 : decode mb_L_law 1067 = .ok (.aload_n 0, 1) := by decide +kernel
theorem md_L_law_1068 : decode mb_L_law 1068 = .ok (.iload 4, 2) := by decide +kernel
theorem md_L_law_1070 : decode mb_L_law 1070 = .ok (.iconst 2, 1) := by decide +kernel
theorem md_L_law_1071 : decode mb_L_law 1071 = .ok (.iadd, 1) := by decide +kernel
theorem md_L_law_1072 : decode mb_L_law 1072 = .ok (.iaload, 1) := by decide +kernel
theorem md_L_law_1073 : decode mb_L_law 1073 = .ok (.aload_n 0, 1) := by decide +kernel
theorem md_L_law_1074 : decode mb_L_law 1074 = .ok (.iload 4, 2) := by decide +kernel
theorem md_L_law_1076 : decode mb_L_law 1076 = .ok (.iconst 3, 1) := by decide +kernel
theorem md_L_law_1077 : decode mb_L_law 1077 = .ok (.iadd, 1) := by decide +kernel
theorem md_L_law_1078 : decode mb_L_law 1078 = .ok (.iaload, 1) := by decide +kernel
theorem md_L_law_1079 : decode mb_L_law 1079 = .ok (.aload_n 3, 1) := by decide +kernel
theorem md_L_law_1080 : decode mb_L_law 1080 = .ok (.invokestatic 138, 3) := by decide +kernel
theorem md_L_law_1083 : decode mb_L_law 1083 = .ok (.istore 5, 2) := by decide +kernel
theorem md_L_law_1085 : decode mb_L_law 1085 = .ok (.aload_n 2, 1) := by decide +kernel
theorem md_L_law_1086 : decode mb_L_law 1086 = .ok (.aload_n 0, 1) := by decide +kernel
theorem md_L_law_1087 : decode mb_L_law 1087 = .ok (.iload 4, 2) := by decide +kernel
theorem md_L_law_1089 : decode mb_L_law 1089 = .ok (.iconst 1, 1) := by decide +kernel
theorem md_L_law_1090 : decode mb_L_law 1090 = .ok (.iadd, 1) := by decide +kernel
theorem md_L_law_1091 : decode mb_L_law 1091 = .ok (.iaload, 1) := by decide +kernel
theorem md_L_law_1092 : decode mb_L_law 1092 = .ok (.aload_n 0, 1) := by decide +kernel
theorem md_L_law_1093 : decode mb_L_law 1093 = .ok (.iload 4, 2) := by decide +kernel
theorem md_L_law_1095 : decode mb_L_law 1095 = .ok (.iconst 2, 1) := by decide +kernel
theorem md_L_law_1096 : decode mb_L_law 1096 = .ok (.iadd, 1) := by decide +kernel
theorem md_L_law_1097 : decode mb_L_law 1097 = .ok (.iaload, 1) := by decide +kernel
theorem md_L_law_1098 : decode mb_L_law 1098 = .ok (.aload_n 0, 1) := by decide +kernel
theorem md_L_law_1099 : decode mb_L_law 1099 = .ok (.iload 4, 2) := by decide +kernel
theorem md_L_law_1101 : decode mb_L_law 1101 = .ok (.iconst 3, 1) := by decide +kernel
theorem md_L_law_1102 : decode mb_L_law 1102 = .ok (.iadd, 1) := by decide +kernel
theorem md_L_law_1103 : decode mb_L_law 1103 = .ok (.iaload, 1) := by decide +kernel
theorem md_L_law_1104 : decode mb_L_law 1104 = .ok (.invokevirtual 141, 3) := by decide +kernel
theorem md_L_law_1107 : decode mb_L_law 1107 = .ok (.lstore 6, 2) := by decide +kernel
theorem md_L_law_1109 : decode mb_L_law 1109 = .ok (.goto 75, 3) := by decide +kernel
theorem md_L_law_1112 : decode mb_L_law 1112 = .ok (.aload_n 1, 1) := by decide +kernel
theorem md_L_law_1113 : decode mb_L_law 1113 = .ok (.aload_n 0, 1) := by decide +kernel
theorem md_L_law_1114 : decode mb_L_law 1114 = .ok (.iload 4, 2) := by decide +kernel
theorem md_L_law_1116 : decode mb_L_law 1116 = .ok (.iconst 1, 1) := by decide +kernel
theorem md_L_law_1117 : decode mb_L_law 1117 = .ok (.iadd, 1) := by decide +kernel
theorem md_L_law_1118 : decode mb_L_law 1118 = .ok (.iaload, 1) := by decide +kernel
theorem md_L_law_1119 : decode mb_L_law 1119 = .ok (.i2l, 1) := by decide +kernel
theorem md_L_law_1120 : decode mb_L_law 1120 = .ok (.bipush 32, 2) := by decide +kernel
theorem md_L_law_1122 : decode mb_L_law 1122 = .ok (.lshl, 1) := by decide +kernel
theorem md_L_law_1123 : decode mb_L_law 1123 = .ok (.aload_n 0, 1) := by decide +kernel
theorem md_L_law_1124 : decode mb_L_law 1124 = .ok (.iload 4, 2) := by decide +kernel
theorem md_L_law_1126 : decode mb_L_law 1126 = .ok (.iconst 2, 1) := by decide +kernel
theorem md_L_law_1127 : decode mb_L_law 1127 = .ok (.iadd, 1) := by decide +kernel
theorem md_L_law_1128 : decode mb_L_law 1128 = .ok (.iaload, 1) := by decide +kernel
theorem md_L_law_1129 : decode mb_L_law 1129 = .ok (.i2l, 1) := by decide +kernel
theorem md_L_law_1130 : decode mb_L_law 1130 = .ok (.ldc2_w 94, 3) := by decide +kernel
theorem md_L_law_1133 : decode mb_L_law 1133 = .ok (.land, 1) := by decide +kernel
theorem md_L_law_1134 : decode mb_L_law 1134 = .ok (.lor, 1) := by decide +kernel
theorem md_L_law_1135 : decode mb_L_law 1135 = .ok (.aload_n 0, 1) := by decide +kernel
theorem md_L_law_1136 : decode mb_L_law 1136 = .ok (.iload 4, 2) := by decide +kernel
theorem md_L_law_1138 : decode mb_L_law 1138 = .ok (.iconst 3, 1) := by decide +kernel
theorem md_L_law_1139 : decode mb_L_law 1139 = .ok (.iadd, 1) := by decide +kernel
theorem md_L_law_1140 : decode mb_L_law 1140 = .ok (.iaload, 1) := by decide +kernel
theorem md_L_law_1141 : decode mb_L_law 1141 = .ok (.aload_n 3, 1) := by decide +kernel
theorem md_L_law_1142 : decode mb_L_law 1142 = .ok (.invokestatic 142, 3) := by decide +kernel
theorem md_L_law_1145 : decode mb_L_law 1145 = .ok (.istore 5, 2) := by decide +kernel
theorem md_L_law_1147 : decode mb_L_law 1147 = .ok (.aload_n 2, 1) := by decide +kernel
theorem md_L_law_1148 : decode mb_L_law 1148 = .ok (.aload_n 0, 1) := by decide +kernel
theorem md_L_law_1149 : decode mb_L_law 1149 = .ok (.iload 4, 2) := by decide +kernel
theorem md_L_law_1151 : decode mb_L_law 1151 = .ok (.iconst 1, 1) := by decide +kernel
theorem md_L_law_1152 : decode mb_L_law 1152 = .ok (.iadd, 1) := by decide +kernel
theorem md_L_law_1153 : decode mb_L_law 1153 = .ok (.iaload, 1) := by decide +kernel
theorem md_L_law_1154 : decode mb_L_law 1154 = .ok (.i2l, 1) := by decide +kernel
theorem md_L_law_1155 : decode mb_L_law 1155 = .ok (.bipush 32, 2) := by decide +kernel
theorem md_L_law_1157 : decode mb_L_law 1157 = .ok (.lshl, 1) := by decide +kernel
theorem md_L_law_1158 : decode mb_L_law 1158 = .ok (.aload_n 0, 1) := by decide +kernel
theorem md_L_law_1159 : decode mb_L_law 1159 = .ok (.iload 4, 2) := by decide +kernel
theorem md_L_law_1161 : decode mb_L_law 1161 = .ok (.iconst 2, 1) := by decide +kernel
theorem md_L_law_1162 : decode mb_L_law 1162 = .ok (.iadd, 1) := by decide +kernel
theorem md_L_law_1163 : decode mb_L_law 1163 = .ok (.iaload, 1) := by decide +kernel
theorem md_L_law_1164 : decode mb_L_law 1164 = .ok (.i2l, 1) := by decide +kernel
theorem md_L_law_1165 : decode mb_L_law 1165 = .ok (.ldc2_w 94, 3) := by decide +kernel
theorem md_L_law_1168 : decode mb_L_law 1168 = .ok (.land, 1) := by decide +kernel
theorem md_L_law_1169 : decode mb_L_law 1169 = .ok (.lor, 1) := by decide +kernel
theorem md_L_law_1170 : decode mb_L_law 1170 = .ok (.aload_n 0, 1) := by decide +kernel
theorem md_L_law_1171 : decode mb_L_law 1171 = .ok (.iload 4, 2) := by decide +kernel
theorem md_L_law_1173 : decode mb_L_law 1173 = .ok (.iconst 3, 1) := by decide +kernel
theorem md_L_law_1174 : decode mb_L_law 1174 = .ok (.iadd, 1) := by decide +kernel
theorem md_L_law_1175 : decode mb_L_law 1175 = .ok (.iaload, 1) := by decide +kernel
theorem md_L_law_1176 : decode mb_L_law 1176 = .ok (.invokevirtual 145, 3) := by decide +kernel
theorem md_L_law_1179 : decode mb_L_law 1179 = .ok (.istore 6, 2) := by decide +kernel
theorem md_L_law_1181 : decode mb_L_law 1181 = .ok (.goto 3, 3) := by decide +kernel
theorem md_L_law_1184 : decode mb_L_law 1184 = .ok (.iinc 4 9, 3) := by decide +kernel
theorem md_L_law_1187 : decode mb_L_law 1187 = .ok (.goto (-1164), 3) := by decide +kernel
theorem md_L_law_1190 : decode mb_L_law 1190 = .ok (.iconst 1, 1) := by decide +kernel
theorem md_L_law_1191 : decode mb_L_law 1191 = .ok (.ireturn, 1) := by decide +kernel
