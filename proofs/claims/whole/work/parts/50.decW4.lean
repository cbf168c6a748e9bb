theorem d_L_law_1036 : decode b_L_law 1036 = .ok (.aload_n 0, 1) := by decide +kernel
theorem d_L_law_1037 : decode b_L_law 1037 = .ok (.iload 4, 2) := by decide +kernel
theorem d_L_law_1039 : decode b_L_law 1039 = .ok (.iconst 2, 1) := by decide +kernel
theorem d_L_law_1040 : decode b_L_law 1040 = .ok (.iadd, 1) := by decide +kernel
theorem d_L_law_1041 : decode b_L_law 1041 = .ok (.iaload, 1) := by decide +kernel
theorem d_L_law_1042 : decode b_L_law 1042 = .ok (.invokevirtual 123, 3) := by decide +kernel
theorem d_L_law_1045 : decode b_L_law 1045 = .ok (.istore 6, 2) := by decide +kernel
theorem d_L_law_1047 : decode b_L_law 1047 = .ok (.aload_n 2, 1) := by decide +kernel
theorem d_L_law_1048 : decode b_L_law 1048 = .ok (.invokevirtual 80, 3) := by decide +kernel
theorem d_L_law_1051 : decode b_L_law 1051 = .ok (.iload 5, 2) := by decide +kernel
theorem d_L_law_1053 : decode b_L_law 1053 = .ok (.if_icmp .eq 5, 3) := by decide +kernel
theorem d_L_law_1056 : decode b_L_law 1056 = .ok (.iconst 0, 1) := by decide +kernel
theorem d_L_law_1057 : decode b_L_law 1057 = .ok (.ireturn, 1) := by decide +kernel
theorem d_L_law_1058 : decode b_L_law 1058 = .ok (.iload 5, 2) := by decide +kernel
theorem d_L_law_1060 : decode b_L_law 1060 = .ok (.ifCond .ne 15, 3) := by decide +kernel
theorem d_L_law_1063 : decode b_L_law 1063 = .ok (.aload_n 3, 1) := by decide +kernel
theorem d_L_law_1064 : decode b_L_law 1064 = .ok (.iconst 0, 1) := by decide +kernel
theorem d_L_law_1065 : decode b_L_law 1065 = .ok (.laload, 1) := by decide +kernel
theorem d_L_law_1066 : decode b_L_law 1066 = .ok (.iload 6, 2) := by decide +kernel
theorem d_L_law_1068 : decode b_L_law 1068 = .ok (.i2l, 1) := by decide +kernel
theorem d_L_law_1069 : decode b_L_law 1069 = .ok (.lcmp, 1) := by decide +kernel
theorem d_L_law_1070 : decode b_L_law 1070 = .ok (.ifCond .eq 5, 3) := by decide +kernel
theorem d_L_law_1073 : decode b_L_law 1073 = .ok (.iconst 0, 1) := by decide +kernel
theorem d_L_law_1074 : decode b_L_law 1074 = .ok (.ireturn, 1) := by decide +kernel
theorem d_L_law_1075 : decode b_L_law 1075 = .ok (.goto 267, 3) := by decide +kernel
theorem d_L_law_1078 : decode b_L_law 1078 = .ok (.aload_n 1, 1) := by decide +kernel
theorem d_L_law_1079 : decode b_L_law 1079 = .ok (.aload_n 0, 1) := by decide +kernel
theorem d_L_law_1080 : decode b_L_law 1080 = .ok (.iload 4, 2) := by decide +kernel
theorem d_L_law_1082 : decode b_L_law 1082 = .ok (.iconst 1, 1) := by decide +kernel
theorem d_L_law_1083 : decode b_L_law 1083 = .ok (.iadd, 1) := by decide +kernel
theorem d_L_law_1084 : decode b_L_law 1084 = .ok (.iaload, 1) := by decide +kernel
theorem d_L_law_1085 : decode b_L_law 1085 = .ok (.aload_n 0, 1) := by decide +kernel
theorem d_L_law_1086 : decode b_L_law 1086 = .ok (.iload 4, 2) := by decide +kernel
theorem d_L_law_1088 : decode b_L_law 1088 = .ok (.iconst 2, 1) := by decide +kernel
theorem d_L_law_1089 : decode b_L_law 1089 = .ok (.iadd, 1) := by decide +kernel
theorem d_L_law_1090 : decode b_L_law 1090 = .ok (.iaload, 1) := by decide +kernel
theorem d_L_law_1091 : decode b_L_law 1091 = .ok (.aload_n 0, 1) := by decide +kernel
theorem d_L_law_1092 : decode b_L_law 1092 = .ok (.iload 4, 2) := by decide +kernel
theorem d_L_law_1094 : decode b_L_law 1094 = .ok (.iconst 3, 1) := by decide +kernel
theorem d_L_law_1095 : decode b_L_law 1095 = .ok (.iadd, 1) := by decide +kernel
theorem d_L_law_1096 : decode b_L_law 1096 = .ok (.iaload, 1) := by decide +kernel
theorem d_L_law_1097 : decode b_L_law 1097 = .ok (.aload_n 0, 1) := by decide +kernel
theorem d_L_law_1098 : decode b_L_law 1098 = .ok (.iload 4, 2) := by decide +kernel
theorem d_L_law_1100 : decode b_L_law 1100 = .ok (.iconst 4, 1) := by decide +kernel
theorem d_L_law_1101 : decode b_L_law 1101 = .ok (.iadd, 1) := by decide +kernel
theorem d_L_law_1102 : decode b_L_law 1102 = .ok (.iaload, 1) := by decide +kernel
theorem d_L_law_1103 : decode b_L_law 1103 = .ok (.aload_n 3, 1) := by decide +kernel
theorem d_L_law_1104 : decode b_L_law 1104 = .ok (.invokestatic 124, 3) := by decide +kernel
theorem d_L_law_1107 : decode b_L_law 1107 = .ok (.istore 5, 2) := by decide +kernel
theorem d_L_law_1109 : decode b_L_law 1109 = .ok (.aload_n 2, 1) := by decide +kernel
theorem d_L_law_1110 : decode b_L_law 1110 = .ok (.aload_n 0, 1) := by decide +kernel
theorem d_L_law_1111 : decode b_L_law 1111 = .ok (.iload 4, 2) := by decide +kernel
theorem d_L_law_1113 : decode b_L_law 1113 = .ok (.iconst 1, 1) := by decide +kernel
theorem d_L_law_1114 : decode b_L_law 1114 = .ok (.iadd, 1) := by decide +kernel
theorem d_L_law_1115 : decode b_L_law 1115 = .ok (.iaload, 1) := by decide +kernel
theorem d_L_law_1116 : decode b_L_law 1116 = .ok (.aload_n 0, 1) := by decide +kernel
theorem d_L_law_1117 : decode b_L_law 1117 = .ok (.iload 4, 2) := by decide +kernel
theorem d_L_law_1119 : decode b_L_law 1119 = .ok (.iconst 2, 1) := by decide +kernel
theorem d_L_law_1120 : decode b_L_law 1120 = .ok (.iadd, 1) := by decide +kernel
theorem d_L_law_1121 : decode b_L_law 1121 = .ok (.iaload, 1) := by decide +kernel
theorem d_L_law_1122 : decode b_L_law 1122 = .ok (.aload_n 0, 1) := by decide +kernel
theorem d_L_law_1123 : decode b_L_law 1123 = .ok (.iload 4, 2) := by decide +kernel
theorem d_L_law_1125 : decode b_L_law 1125 = .ok (.iconst 3, 1) := by decide +kernel
theorem d_L_law_1126 : decode b_L_law 1126 = .ok (.iadd, 1) := by decide +kernel
theorem d_L_law_1127 : decode b_L_law 1127 = .ok (.iaload, 1) := by decide +kernel
theorem d_L_law_1128 : decode b_L_law 1128 = .ok (.aload_n 0, 1) := by decide +kernel
theorem d_L_law_1129 : decode b_L_law 1129 = .ok (.iload 4, 2) := by decide +kernel
theorem d_L_law_1131 : decode b_L_law 1131 = .ok (.iconst 4, 1) := by decide +kernel
theorem d_L_law_1132 : decode b_L_law 1132 = .ok (.iadd, 1) := by decide +kernel
theorem d_L_law_1133 : decode b_L_law 1133 = .ok (.iaload, 1) := by decide +kernel
theorem d_L_law_1134 : decode b_L_law 1134 = .ok (.invokevirtual 126, 3) := by decide +kernel
theorem d_L_law_1137 : decode b_L_law 1137 = .ok (.istore 6, 2) := by decide +kernel
theorem d_L_law_1139 : decode b_L_law 1139 = .ok (.aload_n 2, 1) := by decide +kernel
theorem d_L_law_1140 : decode b_L_law 1140 = .ok (.invokevirtual 80, 3) := by decide +kernel
theorem d_L_law_1143 : decode b_L_law 1143 = .ok (.iload 5, 2) := by decide +kernel
theorem d_L_law_1145 : decode b_L_law 1145 = .ok (.if_icmp .eq 5, 3) := by decide +kernel
theorem d_L_law_1148 : decode b_L_law 1148 = .ok (.iconst 0, 1) := by decide +kernel
theorem d_L_law_1149 : decode b_L_law 1149 = .ok (.ireturn, 1) := by decide +kernel
theorem d_L_law_1150 : decode b_L_law 1150 = .ok (.iload 5, 2) := by decide +kernel
theorem d_L_law_1152 : decode b_L_law 1152 = .ok (.ifCond .ne 15, 3) := by decide +kernel
theorem d_L_law_1155 : decode b_L_law 1155 = .ok (.aload_n 3, 1) := by decide +kernel
theorem d_L_law_1156 : decode b_L_law 1156 = .ok (.iconst 0, 1) := by decide +kernel
theorem d_L_law_1157 : decode b_L_law 1157 = .ok (.laload, 1) := by decide +kernel
theorem d_L_law_1158 : decode b_L_law 1158 = .ok (.iload 6, 2) := by decide +kernel
theorem d_L_law_1160 : decode b_L_law 1160 = .ok (.i2l, 1) := by decide +kernel
theorem d_L_law_1161 : decode b_L_law 1161 = .ok (.lcmp, 1) := by decide +kernel
theorem d_L_law_1162 : decode b_L_law 1162 = .ok (.ifCond .eq 5, 3) := by decide +kernel
theorem d_L_law_1165 : decode b_L_law 1165 = .ok (.iconst 0, 1) := by decide +kernel
theorem d_L_law_1166 : decode b_L_law 1166 = .ok (.ireturn, 1) := by decide +kernel
theorem d_L_law_1167 : decode b_L_law 1167 = .ok (.goto 175, 3) := by decide +kernel
theorem d_L_law_1170 : decode b_L_law 1170 = .ok (.aload_n 1, 1) := by decide +kernel
theorem d_L_law_1171 : decode b_L_law 1171 = .ok (.aload_n 0, 1) := by decide +kernel
theorem d_L_law_1172 : decode b_L_law 1172 = .ok (.iload 4, 2) := by decide +kernel
theorem d_L_law_1174 : decode b_L_law 1174 = .ok (.iconst 1, 1) := by decide +kernel
theorem d_L_law_1175 : decode b_L_law 1175 = .ok (.iadd, 1) := by decide +kernel
theorem d_L_law_1176 : decode b_L_law 1176 = .ok (.iaload, 1) := by decide +kernel
theorem d_L_law_1177 : decode b_L_law 1177 = .ok (.aload_n 0, 1) := by decide +kernel
theorem d_L_law_1178 : decode b_L_law 1178 = .ok (.iload 4, 2) := by decide +kernel
theorem d_L_law_1180 : decode b_L_law 1180 = .ok (.iconst 2, 1) := by decide +kernel
theorem d_L_law_1181 : decode b_L_law 1181 = .ok (.iadd, 1) := by decide +kernel
theorem d_L_law_1182 : decode b_L_law 1182 = .ok (.iaload, 1) := by decide +kernel
theorem d_L_law_1183 : decode b_L_law 1183 = .ok (.aload_n 0, 1) := by decide +kernel
theorem d_L_law_1184 : decode b_L_law 1184 = .ok (.iload 4, 2) := by decide +kernel
theorem d_L_law_1186 : decode b_L_law 1186 = .ok (.iconst 3, 1) := by decide +kernel
theorem d_L_law_1187 : decode b_L_law 1187 = .ok (.iadd, 1) := by decide +kernel
theorem d_L_law_1188 : decode b_L_law 1188 = .ok (.iaload, 1) := by decide +kernel
theorem d_L_law_1189 : decode b_L_law 1189 = .ok (.aload_n 3, 1) := by decide +kernel
theorem d_L_law_1190 : decode b_L_law 1190 = .ok (.invokestatic 127, 3) := by decide +kernel
theorem d_L_law_1193 : decode b_L_law 1193 = .ok (.istore 5, 2) := by decide +kernel
theorem d_L_law_1195 : decode b_L_law 1195 = .ok (.aload_n 2, 1) := by decide +kernel
theorem d_L_law_1196 : decode b_L_law 1196 = .ok (.aload_n 0, 1) := by decide +kernel
theorem d_L_law_1197 : decode b_L_law 1197 = .ok (.iload 4, 2) := by decide +kernel
theorem d_L_law_1199 : decode b_L_law 1199 = .ok (.iconst 1, 1) := by decide +kernel
theorem d_L_law_1200 : decode b_L_law 1200 = .ok (.iadd, 1) := by decide +kernel
theorem d_L_law_1201 : decode b_L_law 1201 = .ok (.iaload, 1) := by decide +kernel
theorem d_L_law_1202 : decode b_L_law 1202 = .ok (.aload_n 0, 1) := by decide +kernel
theorem d_L_law_1203 : decode b_L_law 1203 = .ok (.iload 4, 2) := by decide +kernel
theorem d_L_law_1205 : decode b_L_law 1205 = .ok (.iconst 2, 1) := by decide +kernel
theorem d_L_law_1206 : decode b_L_law 1206 = .ok (.iadd, 1) := by decide +kernel
theorem d_L_law_1207 : decode b_L_law 1207 = .ok (.iaload, 1) := by decide +kernel
theorem d_L_law_1208 : decode b_L_law 1208 = .ok (.aload_n 0, 1) := by decide +kernel
theorem d_L_law_1209 : decode b_L_law 1209 = .ok (.iload 4, 2) := by decide +kernel
theorem d_L_law_1211 : decode b_L_law 1211 = .ok (.iconst 3, 1) := by decide +kernel
theorem d_L_law_1212 : decode b_L_law 1212 = .ok (.iadd, 1) := by decide +kernel
theorem d_L_law_1213 : decode b_L_law 1213 = .ok (.iaload, 1) := by decide +kernel
theorem d_L_law_1214 : decode b_L_law 1214 = .ok (.invokevirtual 129, 3) := by decide +kernel
theorem d_L_law_1217 : decode b_L_law 1217 = .ok (.istore 6, 2) := by decide +kernel
theorem d_L_law_1219 : decode b_L_law 1219 = .ok (.aload_n 2, 1) := by decide +kernel
theorem d_L_law_1220 : decode b_L_law 1220 = .ok (.invokevirtual 80, 3) := by decide +kernel
theorem d_L_law_1223 : decode b_L_law 1223 = .ok (.iload 5, 2) := by decide +kernel
theorem d_L_law_1225 : decode b_L_law 1225 = .ok (.if_icmp .eq 5, 3) := by decide +kernel
theorem d_L_law_1228 : decode b_L_law 1228 = .ok (.iconst 0, 1) := by decide +kernel
theorem d_L_law_1229 : decode b_L_law 1229 = .ok (.ireturn, 1) := by decide +kernel
theorem d_L_law_1230 : decode b_L_law 1230 = .ok (.iload 5, 2) := by decide +kernel
theorem d_L_law_1232 : decode b_L_law 1232 = .ok (.ifCond .ne 15, 3) := by decide +kernel
theorem d_L_law_1235 : decode b_L_law 1235 = .ok (.aload_n 3, 1) := by decide +kernel
theorem d_L_law_1236 : decode b_L_law 1236 = .ok (.iconst 0, 1) := by decide +kernel
theorem d_L_law_1237 : decode b_L_law 1237 = .ok (.laload, 1) := by decide +kernel
theorem d_L_law_1238 : decode b_L_law 1238 = .ok (.iload 6, 2) := by decide +kernel
theorem d_L_law_1240 : decode b_L_law 1240 = .ok (.i2l, 1) := by decide +kernel
theorem d_L_law_1241 : decode b_L_law 1241 = .ok (.lcmp, 1) := by decide +kernel
theorem d_L_law_1242 : decode b_L_law 1242 = .ok (.ifCond .eq 5, 3) := by decide +kernel
theorem d_L_law_1245 : decode b_L_law 1245 = .ok (.iconst 0, 1) := by decide +kernel
theorem d_L_law_1246 : decode b_L_law 1246 = .ok (.ireturn, 1) := by decide +kernel
theorem d_L_law_1247 : decode b_L_law 1247 = .ok (.goto 95, 3) := by decide +kernel
theorem d_L_law_1250 : decode b_L_law 1250 = .ok (.aload_n 1, 1) := by decide +kernel
theorem d_L_law_1251 : decode b_L_law 1251 = .ok (.aload_n 0, 1) := by decide +kernel
theorem d_L_law_1252 : decode b_L_law 1252 = .ok (.iload 4, 2) := by decide +kernel
theorem d_L_law_1254 : decode b_L_law 1254 = .ok (.iconst 1, 1) := by decide +kernel
theorem d_L_law_1255 : decode b_L_law 1255 = .ok (.iadd, 1) := by decide +kernel
theorem d_L_law_1256 : decode b_L_law 1256 = .ok (.iaload, 1) := by decide +kernel
theorem d_L_law_1257 : decode b_L_law 1257 = .ok (.aload_n 0, 1) := by decide +kernel
theorem d_L_law_1258 : decode b_L_law 1258 = .ok (.iload 4, 2) := by decide +kernel
theorem d_L_law_1260 : decode b_L_law 1260 = .ok (.iconst 2, 1) := by decide +kernel
theorem d_L_law_1261 : decode b_L_law 1261 = .ok (.iadd, 1) := by decide +kernel
theorem d_L_law_1262 : decode b_L_law 1262 = .ok (.iaload, 1) := by decide +kernel
theorem d_L_law_1263 : decode b_L_law 1263 = .ok (.aload_n 0, 1) := by decide +kernel
theorem d_L_law_1264 : decode b_L_law 1264 = .ok (.iload 4, 2) := by decide +kernel
theorem d_L_law_1266 : decode b_L_law 1266 = .ok (.iconst 3, 1) := by decide +kernel
theorem d_L_law_1267 : decode b_L_law 1267 = .ok (.iadd, 1) := by decide +kernel
theorem d_L_law_1268 : decode b_L_law 1268 = .ok (.iaload, 1) := by decide +kernel
theorem d_L_law_1269 : decode b_L_law 1269 = .ok (.aload_n 0, 1) := by decide +kernel
theorem d_L_law_1270 : decode b_L_law 1270 = .ok (.iload 4, 2) := by decide +kernel
theorem d_L_law_1272 : decode b_L_law 1272 = .ok (.iconst 4, 1) := by decide +kernel
theorem d_L_law_1273 : decode b_L_law 1273 = .ok (.iadd, 1) := by decide +kernel
theorem d_L_law_1274 : decode b_L_law 1274 = .ok (.iaload, 1) := by decide +kernel
theorem d_L_law_1275 : decode b_L_law 1275 = .ok (.aload_n 3, 1) := by decide +kernel
theorem d_L_law_1276 : decode b_L_law 1276 = .ok (.invokestatic 130, 3) := by decide +kernel
theorem d_L_law_1279 : decode b_L_law 1279 = .ok (.istore 5, 2) := by decide +kernel
theorem d_L_law_1281 : decode b_L_law 1281 = .ok (.aload_n 2, 1) := by decide +kernel
theorem d_L_law_1282 : decode b_L_law 1282 = .ok (.aload_n 0, 1) := by decide +kernel
theorem d_L_law_1283 : decode b_L_law 1283 = .ok (.iload 4, 2) := by decide +kernel
theorem d_L_law_1285 : decode b_L_law 1285 = .ok (.iconst 1, 1) := by decide +kernel
theorem d_L_law_1286 : decode b_L_law 1286 = .ok (.iadd, 1) := by decide +kernel
theorem d_L_law_1287 : decode b_L_law 1287 = .ok (.iaload, 1) := by decide +kernel
theorem d_L_law_1288 : decode b_L_law 1288 = .ok (.aload_n 0, 1) := by decide +kernel
theorem d_L_law_1289 : decode b_L_law 1289 = .ok (.iload 4, 2) := by decide +kernel
theorem d_L_law_1291 : decode b_L_law 1291 = .ok (.iconst 2, 1) := by decide +kernel
theorem d_L_law_1292 : decode b_L_law 1292 = .ok (.iadd, 1) := by decide +kernel
theorem d_L_law_1293 : decode b_L_law 1293 = .ok (.iaload, 1) := by decide +kernel
theorem d_L_law_1294 : decode b_L_law 1294 = .ok (.aload_n 0, 1) := by decide +kernel
theorem d_L_law_1295 : decode b_L_law 1295 = .ok (.iload 4, 2) := by decide +kernel
theorem d_L_law_1297 : decode b_L_law 1297 = .ok (.iconst 3, 1) := by decide +kernel
theorem d_L_law_1298 : decode b_L_law 1298 = .ok (.iadd, 1) := by decide +kernel
theorem d_L_law_1299 : decode b_L_law 1299 = .ok (.iaload, 1) := by decide +kernel
theorem d_L_law_1300 : decode b_L_law 1300 = .ok (.aload_n 0, 1) := by decide +kernel
theorem d_L_law_1301 : decode b_L_law 1301 = .ok (.iload 4, 2) := by decide +kernel
theorem d_L_law_1303 : decode b_L_law 1303 = .ok (.iconst 4, 1) := by decide +kernel
theorem d_L_law_1304 : decode b_L_law 1304 = .ok (.iadd, 1) := by decide +kernel
theorem d_L_law_1305 : decode b_L_law 1305 = .ok (.iaload, 1) := by decide +kernel
theorem d_L_law_1306 : decode b_L_law 1306 = .ok (.invokevirtual 132, 3) := by decide +kernel
theorem d_L_law_1309 : decode b_L_law 1309 = .ok (.istore 6, 2) := by decide +kernel
theorem d_L_law_1311 : decode b_L_law 1311 = .ok (.aload_n 2, 1) := by decide +kernel
theorem d_L_law_1312 : decode b_L_law 1312 = .ok (.invokevirtual 80, 3) := by decide +kernel
theorem d_L_law_1315 : decode b_L_law 1315 = .ok (.iload 5, 2) := by decide +kernel
theorem d_L_law_1317 : decode b_L_law 1317 = .ok (.if_icmp .eq 5, 3) := by decide +kernel
theorem d_L_law_1320 : decode b_L_law 1320 = .ok (.iconst 0, 1) := by decide +kernel
theorem d_L_law_1321 : decode b_L_law 1321 = .ok (.ireturn, 1) := by decide +kernel
theorem d_L_law_1322 : decode b_L_law 1322 = .ok (.iload 5, 2) := by decide +kernel
theorem d_L_law_1324 : decode b_L_law 1324 = .ok (.ifCond .ne 15, 3) := by decide +kernel
theorem d_L_law_1327 : decode b_L_law 1327 = .ok (.aload_n 3, 1) := by decide +kernel
theorem d_L_law_1328 : decode b_L_law 1328 = .ok (.iconst 0, 1) := by decide +kernel
theorem d_L_law_1329 : decode b_L_law 1329 = .ok (.laload, 1) := by decide +kernel
theorem d_L_law_1330 : decode b_L_law 1330 = .ok (.iload 6, 2) := by decide +kernel
theorem d_L_law_1332 : decode b_L_law 1332 = .ok (.i2l, 1) := by decide +kernel
theorem d_L_law_1333 : decode b_L_law 1333 = .ok (.lcmp, 1) := by decide +kernel
theorem d_L_law_1334 : decode b_L_law 1334 = .ok (.ifCond .eq 5, 3) := by decide +kernel
theorem d_L_law_1337 : decode b_L_law 1337 = .ok (.iconst 0, 1) := by decide +kernel
theorem d_L_law_1338 : decode b_L_law 1338 = .ok (.ireturn, 1) := by decide +kernel
theorem d_L_law_1339 : decode b_L_law 1339 = .ok (.goto 3, 3) := by decide +kernel
theorem d_L_law_1342 : decode b_L_law 1342 = .ok (.iinc 4 5, 3) := by decide +kernel
theorem d_L_law_1345 : decode b_L_law 1345 = .ok (.goto (-1322), 3) := by decide +kernel
theorem d_L_law_1348 : decode b_L_law 1348 = .ok (.iconst 1, 1) := by decide +kernel
theorem d_L_law_1349 : decode b_L_law 1349 = .ok (.ireturn, 1) := by decide +kernel
