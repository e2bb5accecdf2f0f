theorem dL_law_994 : decode cL_law 994 = .ok (.if_icmp .ge 51, 3) := by decide +kernel
theorem dL_law_997 : decode cL_law 997 = .ok (.lload 16, 2) := by decide +kernel
theorem dL_law_999 : decode cL_law 999 = .ok (.aload 9, 2) := by decide +kernel
theorem dL_law_1001 : decode cL_law 1001 = .ok (.iload 20, 2) := by decide +kernel
theorem dL_law_1003 : decode cL_law 1003 = .ok (.iaload, 1) := by decide +kernel
theorem dL_law_1004 : decode cL_law 1004 = .ok (.i2l, 1) := by decide +kernel
theorem dL_law_1005 : decode cL_law 1005 = .ok (.aload 6, 2) := by decide +kernel
theorem dL_law_1007 : decode cL_law 1007 = .ok (.iload 20, 2) := by decide +kernel
theorem dL_law_1009 : decode cL_law 1009 = .ok (.aaload, 1) := by decide +kernel
theorem dL_law_1010 : decode cL_law 1010 = .ok (.iload 15, 2) := by decide +kernel
theorem dL_law_1012 : decode cL_law 1012 = .ok (.iaload, 1) := by decide +kernel
theorem dL_law_1013 : decode cL_law 1013 = .ok (.i2l, 1) := by decide +kernel
theorem dL_law_1014 : decode cL_law 1014 = .ok (.lmul, 1) := by decide +kernel
theorem dL_law_1015 : decode cL_law 1015 = .ok (.ladd, 1) := by decide +kernel
theorem dL_law_1016 : decode cL_law 1016 = .ok (.lstore 16, 2) := by decide +kernel
theorem dL_law_1018 : decode cL_law 1018 = .ok (.lload 18, 2) := by decide +kernel
theorem dL_law_1020 : decode cL_law 1020 = .ok (.aload 10, 2) := by decide +kernel
theorem dL_law_1022 : decode cL_law 1022 = .ok (.iload 20, 2) := by decide +kernel
theorem dL_law_1024 : decode cL_law 1024 = .ok (.iaload, 1) := by decide +kernel
theorem dL_law_1025 : decode cL_law 1025 = .ok (.i2l, 1) := by decide +kernel
theorem dL_law_1026 : decode cL_law 1026 = .ok (.aload 6, 2) := by decide +kernel
theorem dL_law_1028 : decode cL_law 1028 = .ok (.iload 20, 2) := by decide +kernel
theorem dL_law_1030 : decode cL_law 1030 = .ok (.aaload, 1) := by decide +kernel
theorem dL_law_1031 : decode cL_law 1031 = .ok (.iload 15, 2) := by decide +kernel
theorem dL_law_1033 : decode cL_law 1033 = .ok (.iaload, 1) := by decide +kernel
theorem dL_law_1034 : decode cL_law 1034 = .ok (.i2l, 1) := by decide +kernel
theorem dL_law_1035 : decode cL_law 1035 = .ok (.lmul, 1) := by decide +kernel
theorem dL_law_1036 : decode cL_law 1036 = .ok (.ladd, 1) := by decide +kernel
theorem dL_law_1037 : decode cL_law 1037 = .ok (.lstore 18, 2) := by decide +kernel
theorem dL_law_1039 : decode cL_law 1039 = .ok (.iinc 20 1, 3) := by decide +kernel
theorem dL_law_1042 : decode cL_law 1042 = .ok (.goto (-52), 3) := by decide +kernel
theorem dL_law_1045 : decode cL_law 1045 = .ok (.aload_n 1, 1) := by decide +kernel
theorem dL_law_1046 : decode cL_law 1046 = .ok (.iconst 0, 1) := by decide +kernel
theorem dL_law_1047 : decode cL_law 1047 = .ok (.iload 4, 2) := by decide +kernel
theorem dL_law_1049 : decode cL_law 1049 = .ok (.iload 15, 2) := by decide +kernel
theorem dL_law_1051 : decode cL_law 1051 = .ok (.iadd, 1) := by decide +kernel
theorem dL_law_1052 : decode cL_law 1052 = .ok (.invokevirtual 167, 3) := by decide +kernel
theorem dL_law_1055 : decode cL_law 1055 = .ok (.lload 16, 2) := by decide +kernel
theorem dL_law_1057 : decode cL_law 1057 = .ok (.lcmp, 1) := by decide +kernel
theorem dL_law_1058 : decode cL_law 1058 = .ok (.ifCond .ne 38, 3) := by decide +kernel
theorem dL_law_1061 : decode cL_law 1061 = .ok (.aload_n 1, 1) := by decide +kernel
theorem dL_law_1062 : decode cL_law 1062 = .ok (.iconst 1, 1) := by decide +kernel
theorem dL_law_1063 : decode cL_law 1063 = .ok (.iload 4, 2) := by decide +kernel
theorem dL_law_1065 : decode cL_law 1065 = .ok (.iload 15, 2) := by decide +kernel
theorem dL_law_1067 : decode cL_law 1067 = .ok (.iadd, 1) := by decide +kernel
theorem dL_law_1068 : decode cL_law 1068 = .ok (.invokevirtual 167, 3) := by decide +kernel
theorem dL_law_1071 : decode cL_law 1071 = .ok (.lload 18, 2) := by decide +kernel
theorem dL_law_1073 : decode cL_law 1073 = .ok (.lcmp, 1) := by decide +kernel
theorem dL_law_1074 : decode cL_law 1074 = .ok (.ifCond .ne 22, 3) := by decide +kernel
theorem dL_law_1077 : decode cL_law 1077 = .ok (.aload_n 1, 1) := by decide +kernel
theorem dL_law_1078 : decode cL_law 1078 = .ok (.iconst 2, 1) := by decide +kernel
theorem dL_law_1079 : decode cL_law 1079 = .ok (.iload 4, 2) := by decide +kernel
theorem dL_law_1081 : decode cL_law 1081 = .ok (.iload 15, 2) := by decide +kernel
theorem dL_law_1083 : decode cL_law 1083 = .ok (.iadd, 1) := by decide +kernel
theorem dL_law_1084 : decode cL_law 1084 = .ok (.invokevirtual 167, 3) := by decide +kernel
theorem dL_law_1087 : decode cL_law 1087 = .ok (.lload 16, 2) := by decide +kernel
theorem dL_law_1089 : decode cL_law 1089 = .ok (.lload 18, 2) := by decide +kernel
theorem dL_law_1091 : decode cL_law 1091 = .ok (.lmul, 1) := by decide +kernel
theorem dL_law_1092 : decode cL_law 1092 = .ok (.lcmp, 1) := by decide +kernel
theorem dL_law_1093 : decode cL_law 1093 = .ok (.ifCond .eq 5, 3) := by decide +kernel
theorem dL_law_1096 : decode cL_law 1096 = .ok (.iconst 0, 1) := by decide +kernel
theorem dL_law_1097 : decode cL_law 1097 = .ok (.ireturn, 1) := by decide +kernel
theorem dL_law_1098 : decode cL_law 1098 = .ok (.iinc 15 1, 3) := by decide +kernel
theorem dL_law_1101 : decode cL_law 1101 = .ok (.goto (-127), 3) := by decide +kernel
theorem dL_law_1104 : decode cL_law 1104 = .ok (.aload_n 1, 1) := by decide +kernel
theorem dL_law_1105 : decode cL_law 1105 = .ok (.iconst 3, 1) := by decide +kernel
theorem dL_law_1106 : decode cL_law 1106 = .ok (.invokevirtual 53, 3) := by decide +kernel
theorem dL_law_1109 : decode cL_law 1109 = .ok (.ifCond .lt 11, 3) := by decide +kernel
theorem dL_law_1112 : decode cL_law 1112 = .ok (.aload_n 1, 1) := by decide +kernel
theorem dL_law_1113 : decode cL_law 1113 = .ok (.iconst 2, 1) := by decide +kernel
theorem dL_law_1114 : decode cL_law 1114 = .ok (.invokevirtual 53, 3) := by decide +kernel
theorem dL_law_1117 : decode cL_law 1117 = .ok (.ifCond .ge 5, 3) := by decide +kernel
theorem dL_law_1120 : decode cL_law 1120 = .ok (.iconst 0, 1) := by decide +kernel
theorem dL_law_1121 : decode cL_law 1121 = .ok (.ireturn, 1) := by decide +kernel
theorem dL_law_1122 : decode cL_law 1122 = .ok (.iload_n 3, 1) := by decide +kernel
theorem dL_law_1123 : decode cL_law 1123 = .ok (.ifCond .le 297, 3) := by decide +kernel
theorem dL_law_1126 : decode cL_law 1126 = .ok (.iload_n 3, 1) := by decide +kernel
theorem dL_law_1127 : decode cL_law 1127 = .ok (.invokestatic 45, 3) := by decide +kernel
theorem dL_law_1130 : decode cL_law 1130 = .ok (.iload_n 3, 1) := by decide +kernel
theorem dL_law_1131 : decode cL_law 1131 = .ok (.iconst 1, 1) := by decide +kernel
theorem dL_law_1132 : decode cL_law 1132 = .ok (.isub, 1) := by decide +kernel
theorem dL_law_1133 : decode cL_law 1133 = .ok (.invokestatic 45, 3) := by decide +kernel
theorem dL_law_1136 : decode cL_law 1136 = .ok (.isub, 1) := by decide +kernel
theorem dL_law_1137 : decode cL_law 1137 = .ok (.istore 15, 2) := by decide +kernel
theorem dL_law_1139 : decode cL_law 1139 = .ok (.aload_n 0, 1) := by decide +kernel
theorem dL_law_1140 : decode cL_law 1140 = .ok (.bipush 13, 2) := by decide +kernel
theorem dL_law_1142 : decode cL_law 1142 = .ok (.iload 15, 2) := by decide +kernel
theorem dL_law_1144 : decode cL_law 1144 = .ok (.invokestatic 145, 3) := by decide +kernel
theorem dL_law_1147 : decode cL_law 1147 = .ok (.astore 16, 2) := by decide +kernel
theorem dL_law_1149 : decode cL_law 1149 = .ok (.aload_n 1, 1) := by decide +kernel
theorem dL_law_1150 : decode cL_law 1150 = .ok (.iconst 2, 1) := by decide +kernel
theorem dL_law_1151 : decode cL_law 1151 = .ok (.aload_n 2, 1) := by decide +kernel
theorem dL_law_1152 : decode cL_law 1152 = .ok (.iload_n 3, 1) := by decide +kernel
theorem dL_law_1153 : decode cL_law 1153 = .ok (.iconst 1, 1) := by decide +kernel
theorem dL_law_1154 : decode cL_law 1154 = .ok (.isub, 1) := by decide +kernel
theorem dL_law_1155 : decode cL_law 1155 = .ok (.aload 16, 2) := by decide +kernel
theorem dL_law_1157 : decode cL_law 1157 = .ok (.invokestatic 149, 3) := by decide +kernel
theorem dL_law_1160 : decode cL_law 1160 = .ok (.istore 17, 2) := by decide +kernel
theorem dL_law_1162 : decode cL_law 1162 = .ok (.iload 17, 2) := by decide +kernel
theorem dL_law_1164 : decode cL_law 1164 = .ok (.bipush (-2), 2) := by decide +kernel
theorem dL_law_1166 : decode cL_law 1166 = .ok (.if_icmp .ne 21, 3) := by decide +kernel
theorem dL_law_1169 : decode cL_law 1169 = .ok (.aload_n 1, 1) := by decide +kernel
theorem dL_law_1170 : decode cL_law 1170 = .ok (.iconst 2, 1) := by decide +kernel
theorem dL_law_1171 : decode cL_law 1171 = .ok (.aload_n 2, 1) := by decide +kernel
theorem dL_law_1172 : decode cL_law 1172 = .ok (.iload_n 3, 1) := by decide +kernel
theorem dL_law_1173 : decode cL_law 1173 = .ok (.iconst 1, 1) := by decide +kernel
theorem dL_law_1174 : decode cL_law 1174 = .ok (.isub, 1) := by decide +kernel
theorem dL_law_1175 : decode cL_law 1175 = .ok (.iload 15, 2) := by decide +kernel
theorem dL_law_1177 : decode cL_law 1177 = .ok (.newarray .int, 2) := by decide +kernel
theorem dL_law_1179 : decode cL_law 1179 = .ok (.dup, 1) := by decide +kernel
theorem dL_law_1180 : decode cL_law 1180 = .ok (.astore 16, 2) := by decide +kernel
theorem dL_law_1182 : decode cL_law 1182 = .ok (.invokestatic 149, 3) := by decide +kernel
theorem dL_law_1185 : decode cL_law 1185 = .ok (.istore 17, 2) := by decide +kernel
theorem dL_law_1187 : decode cL_law 1187 = .ok (.iload 17, 2) := by decide +kernel
theorem dL_law_1189 : decode cL_law 1189 = .ok (.ifCond .lt 41, 3) := by decide +kernel
theorem dL_law_1192 : decode cL_law 1192 = .ok (.aload_n 1, 1) := by decide +kernel
theorem dL_law_1193 : decode cL_law 1193 = .ok (.iconst 3, 1) := by decide +kernel
theorem dL_law_1194 : decode cL_law 1194 = .ok (.iconst 0, 1) := by decide +kernel
theorem dL_law_1195 : decode cL_law 1195 = .ok (.iconst 0, 1) := by decide +kernel
theorem dL_law_1196 : decode cL_law 1196 = .ok (.iconst 0, 1) := by decide +kernel
theorem dL_law_1197 : decode cL_law 1197 = .ok (.invokevirtual 160, 3) := by decide +kernel
theorem dL_law_1200 : decode cL_law 1200 = .ok (.ifCond .lt 30, 3) := by decide +kernel
theorem dL_law_1203 : decode cL_law 1203 = .ok (.aload_n 1, 1) := by decide +kernel
theorem dL_law_1204 : decode cL_law 1204 = .ok (.iconst 3, 1) := by decide +kernel
theorem dL_law_1205 : decode cL_law 1205 = .ok (.iconst 1, 1) := by decide +kernel
theorem dL_law_1206 : decode cL_law 1206 = .ok (.invokevirtual 170, 3) := by decide +kernel
theorem dL_law_1209 : decode cL_law 1209 = .ok (.aload_n 1, 1) := by decide +kernel
theorem dL_law_1210 : decode cL_law 1210 = .ok (.iconst 3, 1) := by decide +kernel
theorem dL_law_1211 : decode cL_law 1211 = .ok (.iconst 1, 1) := by decide +kernel
theorem dL_law_1212 : decode cL_law 1212 = .ok (.invokevirtual 164, 3) := by decide +kernel
theorem dL_law_1215 : decode cL_law 1215 = .ok (.if_icmp .ne 15, 3) := by decide +kernel
theorem dL_law_1218 : decode cL_law 1218 = .ok (.aload_n 1, 1) := by decide +kernel
theorem dL_law_1219 : decode cL_law 1219 = .ok (.iconst 3, 1) := by decide +kernel
theorem dL_law_1220 : decode cL_law 1220 = .ok (.iconst 0, 1) := by decide +kernel
theorem dL_law_1221 : decode cL_law 1221 = .ok (.invokevirtual 164, 3) := by decide +kernel
theorem dL_law_1224 : decode cL_law 1224 = .ok (.iload_n 3, 1) := by decide +kernel
theorem dL_law_1225 : decode cL_law 1225 = .ok (.iconst 1, 1) := by decide +kernel
theorem dL_law_1226 : decode cL_law 1226 = .ok (.isub, 1) := by decide +kernel
theorem dL_law_1227 : decode cL_law 1227 = .ok (.if_icmp .eq 5, 3) := by decide +kernel
theorem dL_law_1230 : decode cL_law 1230 = .ok (.iconst 0, 1) := by decide +kernel
theorem dL_law_1231 : decode cL_law 1231 = .ok (.ireturn, 1) := by decide +kernel
theorem dL_law_1232 : decode cL_law 1232 = .ok (.aload_n 1, 1) := by decide +kernel
theorem dL_law_1233 : decode cL_law 1233 = .ok (.iconst 2, 1) := by decide +kernel
theorem dL_law_1234 : decode cL_law 1234 = .ok (.iconst 3, 1) := by decide +kernel
theorem dL_law_1235 : decode cL_law 1235 = .ok (.invokevirtual 156, 3) := by decide +kernel
theorem dL_law_1238 : decode cL_law 1238 = .ok (.lstore 18, 2) := by decide +kernel
theorem dL_law_1240 : decode cL_law 1240 = .ok (.iconst 0, 1) := by decide +kernel
theorem dL_law_1241 : decode cL_law 1241 = .ok (.istore 20, 2) := by decide +kernel
theorem dL_law_1243 : decode cL_law 1243 = .ok (.iload 20, 2) := by decide +kernel
theorem dL_law_1245 : decode cL_law 1245 = .ok (.iload 15, 2) := by decide +kernel
theorem dL_law_1247 : decode cL_law 1247 = .ok (.if_icmp .ge 120, 3) := by decide +kernel
theorem dL_law_1250 : decode cL_law 1250 = .ok (.aload_n 2, 1) := by decide +kernel
theorem dL_law_1251 : decode cL_law 1251 = .ok (.iload_n 3, 1) := by decide +kernel
theorem dL_law_1252 : decode cL_law 1252 = .ok (.iconst 1, 1) := by decide +kernel
theorem dL_law_1253 : decode cL_law 1253 = .ok (.isub, 1) := by decide +kernel
theorem dL_law_1254 : decode cL_law 1254 = .ok (.invokestatic 45, 3) := by decide +kernel
theorem dL_law_1257 : decode cL_law 1257 = .ok (.iload 20, 2) := by decide +kernel
theorem dL_law_1259 : decode cL_law 1259 = .ok (.iadd, 1) := by decide +kernel
theorem dL_law_1260 : decode cL_law 1260 = .ok (.aaload, 1) := by decide +kernel
theorem dL_law_1261 : decode cL_law 1261 = .ok (.astore 21, 2) := by decide +kernel
theorem dL_law_1263 : decode cL_law 1263 = .ok (.aload 21, 2) := by decide +kernel
theorem dL_law_1265 : decode cL_law 1265 = .ok (.arraylength, 1) := by decide +kernel
theorem dL_law_1266 : decode cL_law 1266 = .ok (.iconst 1, 1) := by decide +kernel
theorem dL_law_1267 : decode cL_law 1267 = .ok (.iadd, 1) := by decide +kernel
theorem dL_law_1268 : decode cL_law 1268 = .ok (.newarray .int, 2) := by decide +kernel
theorem dL_law_1270 : decode cL_law 1270 = .ok (.astore 22, 2) := by decide +kernel
theorem dL_law_1272 : decode cL_law 1272 = .ok (.aload 21, 2) := by decide +kernel
theorem dL_law_1274 : decode cL_law 1274 = .ok (.iconst 0, 1) := by decide +kernel
theorem dL_law_1275 : decode cL_law 1275 = .ok (.aload 22, 2) := by decide +kernel
theorem dL_law_1277 : decode cL_law 1277 = .ok (.iconst 0, 1) := by decide +kernel
theorem dL_law_1278 : decode cL_law 1278 = .ok (.aload 21, 2) := by decide +kernel
theorem dL_law_1280 : decode cL_law 1280 = .ok (.arraylength, 1) := by decide +kernel
theorem dL_law_1281 : decode cL_law 1281 = .ok (.invokestatic 8, 3) := by decide +kernel
theorem dL_law_1284 : decode cL_law 1284 = .ok (.aload 22, 2) := by decide +kernel
theorem dL_law_1286 : decode cL_law 1286 = .ok (.aload 21, 2) := by decide +kernel
theorem dL_law_1288 : decode cL_law 1288 = .ok (.arraylength, 1) := by decide +kernel
theorem dL_law_1289 : decode cL_law 1289 = .ok (.iconst 1, 1) := by decide +kernel
theorem dL_law_1290 : decode cL_law 1290 = .ok (.iastore, 1) := by decide +kernel
theorem dL_law_1291 : decode cL_law 1291 = .ok (.lconst 0, 1) := by decide +kernel
theorem dL_law_1292 : decode cL_law 1292 = .ok (.lstore 23, 2) := by decide +kernel
theorem dL_law_1294 : decode cL_law 1294 = .ok (.iconst 0, 1) := by decide +kernel
theorem dL_law_1295 : decode cL_law 1295 = .ok (.istore 25, 2) := by decide +kernel
theorem dL_law_1297 : decode cL_law 1297 = .ok (.iload 25, 2) := by decide +kernel
theorem dL_law_1299 : decode cL_law 1299 = .ok (.iload 5, 2) := by decide +kernel
theorem dL_law_1301 : decode cL_law 1301 = .ok (.if_icmp .ge 38, 3) := by decide +kernel
theorem dL_law_1304 : decode cL_law 1304 = .ok (.lload 23, 2) := by decide +kernel
theorem dL_law_1306 : decode cL_law 1306 = .ok (.ldc2_w 173, 3) := by decide +kernel
theorem dL_law_1309 : decode cL_law 1309 = .ok (.aload 9, 2) := by decide +kernel
theorem dL_law_1311 : decode cL_law 1311 = .ok (.iload 25, 2) := by decide +kernel
