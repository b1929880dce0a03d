theorem dq_W_law_1087 : decode code 1087 = .ok (.iaload, 1) := by decide +kernel
theorem dq_W_law_1088 : decode code 1088 = .ok (.i2l, 1) := by decide +kernel
theorem dq_W_law_1089 : decode code 1089 = .ok (.ldc2_w 13, 3) := by decide +kernel
theorem dq_W_law_1092 : decode code 1092 = .ok (.land, 1) := by decide +kernel
theorem dq_W_law_1093 : decode code 1093 = .ok (.lor, 1) := by decide +kernel
theorem dq_W_law_1094 : decode code 1094 = .ok (.aload_n 0, 1) := by decide +kernel
theorem dq_W_law_1095 : decode code 1095 = .ok (.iload_n 3, 1) := by decide +kernel
theorem dq_W_law_1096 : decode code 1096 = .ok (.iconst 5, 1) := by decide +kernel
theorem dq_W_law_1097 : decode code 1097 = .ok (.iadd, 1) := by decide +kernel
theorem dq_W_law_1098 : decode code 1098 = .ok (.iaload, 1) := by decide +kernel
theorem dq_W_law_1099 : decode code 1099 = .ok (.i2l, 1) := by decide +kernel
theorem dq_W_law_1100 : decode code 1100 = .ok (.bipush 32, 2) := by decide +kernel
theorem dq_W_law_1102 : decode code 1102 = .ok (.lshl, 1) := by decide +kernel
theorem dq_W_law_1103 : decode code 1103 = .ok (.aload_n 0, 1) := by decide +kernel
theorem dq_W_law_1104 : decode code 1104 = .ok (.iload_n 3, 1) := by decide +kernel
theorem dq_W_law_1105 : decode code 1105 = .ok (.bipush 6, 2) := by decide +kernel
theorem dq_W_law_1107 : decode code 1107 = .ok (.iadd, 1) := by decide +kernel
theorem dq_W_law_1108 : decode code 1108 = .ok (.iaload, 1) := by decide +kernel
theorem dq_W_law_1109 : decode code 1109 = .ok (.i2l, 1) := by decide +kernel
theorem dq_W_law_1110 : decode code 1110 = .ok (.ldc2_w 13, 3) := by decide +kernel
theorem dq_W_law_1113 : decode code 1113 = .ok (.land, 1) := by decide +kernel
theorem dq_W_law_1114 : decode code 1114 = .ok (.lor, 1) := by decide +kernel
theorem dq_W_law_1115 : decode code 1115 = .ok (.invokevirtual 84, 3) := by decide +kernel
theorem dq_W_law_1118 : decode code 1118 = .ok (.aload_n 2, 1) := by decide +kernel
theorem dq_W_law_1119 : decode code 1119 = .ok (.aload_n 0, 1) := by decide +kernel
theorem dq_W_law_1120 : decode code 1120 = .ok (.iload_n 3, 1) := by decide +kernel
theorem dq_W_law_1121 : decode code 1121 = .ok (.iconst 1, 1) := by decide +kernel
theorem dq_W_law_1122 : decode code 1122 = .ok (.iadd, 1) := by decide +kernel
theorem dq_W_law_1123 : decode code 1123 = .ok (.iaload, 1) := by decide +kernel
theorem dq_W_law_1124 : decode code 1124 = .ok (.aload_n 0, 1) := by decide +kernel
theorem dq_W_law_1125 : decode code 1125 = .ok (.iload_n 3, 1) := by decide +kernel
theorem dq_W_law_1126 : decode code 1126 = .ok (.iconst 2, 1) := by decide +kernel
theorem dq_W_law_1127 : decode code 1127 = .ok (.iadd, 1) := by decide +kernel
theorem dq_W_law_1128 : decode code 1128 = .ok (.iaload, 1) := by decide +kernel
theorem dq_W_law_1129 : decode code 1129 = .ok (.aload_n 0, 1) := by decide +kernel
theorem dq_W_law_1130 : decode code 1130 = .ok (.iload_n 3, 1) := by decide +kernel
theorem dq_W_law_1131 : decode code 1131 = .ok (.iconst 3, 1) := by decide +kernel
theorem dq_W_law_1132 : decode code 1132 = .ok (.iadd, 1) := by decide +kernel
theorem dq_W_law_1133 : decode code 1133 = .ok (.iaload, 1) := by decide +kernel
theorem dq_W_law_1134 : decode code 1134 = .ok (.i2l, 1) := by decide +kernel
theorem dq_W_law_1135 : decode code 1135 = .ok (.bipush 32, 2) := by decide +kernel
theorem dq_W_law_1137 : decode code 1137 = .ok (.lshl, 1) := by decide +kernel
theorem dq_W_law_1138 : decode code 1138 = .ok (.aload_n 0, 1) := by decide +kernel
theorem dq_W_law_1139 : decode code 1139 = .ok (.iload_n 3, 1) := by decide +kernel
theorem dq_W_law_1140 : decode code 1140 = .ok (.iconst 4, 1) := by decide +kernel
theorem dq_W_law_1141 : decode code 1141 = .ok (.iadd, 1) := by decide +kernel
theorem dq_W_law_1142 : decode code 1142 = .ok (.iaload, 1) := by decide +kernel
theorem dq_W_law_1143 : decode code 1143 = .ok (.i2l, 1) := by decide +kernel
theorem dq_W_law_1144 : decode code 1144 = .ok (.ldc2_w 13, 3) := by decide +kernel
theorem dq_W_law_1147 : decode code 1147 = .ok (.land, 1) := by decide +kernel
theorem dq_W_law_1148 : decode code 1148 = .ok (.lor, 1) := by decide +kernel
theorem dq_W_law_1149 : decode code 1149 = .ok (.aload_n 0, 1) := by decide +kernel
theorem dq_W_law_1150 : decode code 1150 = .ok (.iload_n 3, 1) := by decide +kernel
theorem dq_W_law_1151 : decode code 1151 = .ok (.iconst 5, 1) := by decide +kernel
theorem dq_W_law_1152 : decode code 1152 = .ok (.iadd, 1) := by decide +kernel
theorem dq_W_law_1153 : decode code 1153 = .ok (.iaload, 1) := by decide +kernel
theorem dq_W_law_1154 : decode code 1154 = .ok (.i2l, 1) := by decide +kernel
theorem dq_W_law_1155 : decode code 1155 = .ok (.bipush 32, 2) := by decide +kernel
theorem dq_W_law_1157 : decode code 1157 = .ok (.lshl, 1) := by decide +kernel
theorem dq_W_law_1158 : decode code 1158 = .ok (.aload_n 0, 1) := by decide +kernel
theorem dq_W_law_1159 : decode code 1159 = .ok (.iload_n 3, 1) := by decide +kernel
theorem dq_W_law_1160 : decode code 1160 = .ok (.bipush 6, 2) := by decide +kernel
theorem dq_W_law_1162 : decode code 1162 = .ok (.iadd, 1) := by decide +kernel
theorem dq_W_law_1163 : decode code 1163 = .ok (.iaload, 1) := by decide +kernel
theorem dq_W_law_1164 : decode code 1164 = .ok (.i2l, 1) := by decide +kernel
theorem dq_W_law_1165 : decode code 1165 = .ok (.ldc2_w 13, 3) := by decide +kernel
theorem dq_W_law_1168 : decode code 1168 = .ok (.land, 1) := by decide +kernel
theorem dq_W_law_1169 : decode code 1169 = .ok (.lor, 1) := by decide +kernel
theorem dq_W_law_1170 : decode code 1170 = .ok (.invokevirtual 88, 3) := by decide +kernel
theorem dq_W_law_1173 : decode code 1173 = .ok (.if_icmp .eq 581, 3) := by decide +kernel
theorem dq_W_law_1176 : decode code 1176 = .ok (.iconst 0, 1) := by decide +kernel
theorem dq_W_law_1177 : decode code 1177 = .ok (.ireturn, 1) := by decide +kernel
theorem dq_W_law_1178 : decode code 1178 = .ok (.aload_n 1, 1) := by decide +kernel
theorem dq_W_law_1179 : decode code 1179 = .ok (.invokevirtual 89, 3) := by decide +kernel
theorem dq_W_law_1182 : decode code 1182 = .ok (.aload_n 2, 1) := by decide +kernel
theorem dq_W_law_1183 : decode code 1183 = .ok (.invokevirtual 93, 3) := by decide +kernel
theorem dq_W_law_1186 : decode code 1186 = .ok (.lcmp, 1) := by decide +kernel
theorem dq_W_law_1187 : decode code 1187 = .ok (.ifCond .eq 567, 3) := by decide +kernel
theorem dq_W_law_1190 : decode code 1190 = .ok (.iconst 0, 1) := by decide +kernel
theorem dq_W_law_1191 : decode code 1191 = .ok (.ireturn, 1) := by decide +kernel
theorem dq_W_law_1192 : decode code 1192 = .ok (.aload_n 1, 1) := by decide +kernel
theorem dq_W_law_1193 : decode code 1193 = .ok (.aload_n 0, 1) := by decide +kernel
theorem dq_W_law_1194 : decode code 1194 = .ok (.iload_n 3, 1) := by decide +kernel
theorem dq_W_law_1195 : decode code 1195 = .ok (.iconst 1, 1) := by decide +kernel
theorem dq_W_law_1196 : decode code 1196 = .ok (.iadd, 1) := by decide +kernel
theorem dq_W_law_1197 : decode code 1197 = .ok (.iaload, 1) := by decide +kernel
theorem dq_W_law_1198 : decode code 1198 = .ok (.invokevirtual 94, 3) := by decide +kernel
theorem dq_W_law_1201 : decode code 1201 = .ok (.aload_n 2, 1) := by decide +kernel
theorem dq_W_law_1202 : decode code 1202 = .ok (.aload_n 0, 1) := by decide +kernel
theorem dq_W_law_1203 : decode code 1203 = .ok (.iload_n 3, 1) := by decide +kernel
theorem dq_W_law_1204 : decode code 1204 = .ok (.iconst 1, 1) := by decide +kernel
theorem dq_W_law_1205 : decode code 1205 = .ok (.iadd, 1) := by decide +kernel
theorem dq_W_law_1206 : decode code 1206 = .ok (.iaload, 1) := by decide +kernel
theorem dq_W_law_1207 : decode code 1207 = .ok (.invokevirtual 97, 3) := by decide +kernel
theorem dq_W_law_1210 : decode code 1210 = .ok (.lcmp, 1) := by decide +kernel
theorem dq_W_law_1211 : decode code 1211 = .ok (.ifCond .eq 543, 3) := by decide +kernel
theorem dq_W_law_1214 : decode code 1214 = .ok (.iconst 0, 1) := by decide +kernel
theorem dq_W_law_1215 : decode code 1215 = .ok (.ireturn, 1) := by decide +kernel
theorem dq_W_law_1216 : decode code 1216 = .ok (.aload_n 1, 1) := by decide +kernel
theorem dq_W_law_1217 : decode code 1217 = .ok (.aload_n 0, 1) := by decide +kernel
theorem dq_W_law_1218 : decode code 1218 = .ok (.iload_n 3, 1) := by decide +kernel
theorem dq_W_law_1219 : decode code 1219 = .ok (.iconst 1, 1) := by decide +kernel
theorem dq_W_law_1220 : decode code 1220 = .ok (.iadd, 1) := by decide +kernel
theorem dq_W_law_1221 : decode code 1221 = .ok (.iaload, 1) := by decide +kernel
theorem dq_W_law_1222 : decode code 1222 = .ok (.aload_n 0, 1) := by decide +kernel
theorem dq_W_law_1223 : decode code 1223 = .ok (.iload_n 3, 1) := by decide +kernel
theorem dq_W_law_1224 : decode code 1224 = .ok (.iconst 2, 1) := by decide +kernel
theorem dq_W_law_1225 : decode code 1225 = .ok (.iadd, 1) := by decide +kernel
theorem dq_W_law_1226 : decode code 1226 = .ok (.iaload, 1) := by decide +kernel
theorem dq_W_law_1227 : decode code 1227 = .ok (.i2l, 1) := by decide +kernel
theorem dq_W_law_1228 : decode code 1228 = .ok (.bipush 32, 2) := by decide +kernel
theorem dq_W_law_1230 : decode code 1230 = .ok (.lshl, 1) := by decide +kernel
theorem dq_W_law_1231 : decode code 1231 = .ok (.aload_n 0, 1) := by decide +kernel
theorem dq_W_law_1232 : decode code 1232 = .ok (.iload_n 3, 1) := by decide +kernel
theorem dq_W_law_1233 : decode code 1233 = .ok (.iconst 3, 1) := by decide +kernel
theorem dq_W_law_1234 : decode code 1234 = .ok (.iadd, 1) := by decide +kernel
theorem dq_W_law_1235 : decode code 1235 = .ok (.iaload, 1) := by decide +kernel
theorem dq_W_law_1236 : decode code 1236 = .ok (.i2l, 1) := by decide +kernel
theorem dq_W_law_1237 : decode code 1237 = .ok (.ldc2_w 13, 3) := by decide +kernel
theorem dq_W_law_1240 : decode code 1240 = .ok (.land, 1) := by decide +kernel
theorem dq_W_law_1241 : decode code 1241 = .ok (.lor, 1) := by decide +kernel
theorem dq_W_law_1242 : decode code 1242 = .ok (.invokevirtual 98, 3) := by decide +kernel
theorem dq_W_law_1245 : decode code 1245 = .ok (.aload_n 2, 1) := by decide +kernel
theorem dq_W_law_1246 : decode code 1246 = .ok (.aload_n 0, 1) := by decide +kernel
theorem dq_W_law_1247 : decode code 1247 = .ok (.iload_n 3, 1) := by decide +kernel
theorem dq_W_law_1248 : decode code 1248 = .ok (.iconst 1, 1) := by decide +kernel
theorem dq_W_law_1249 : decode code 1249 = .ok (.iadd, 1) := by decide +kernel
theorem dq_W_law_1250 : decode code 1250 = .ok (.iaload, 1) := by decide +kernel
theorem dq_W_law_1251 : decode code 1251 = .ok (.aload_n 0, 1) := by decide +kernel
theorem dq_W_law_1252 : decode code 1252 = .ok (.iload_n 3, 1) := by decide +kernel
theorem dq_W_law_1253 : decode code 1253 = .ok (.iconst 2, 1) := by decide +kernel
theorem dq_W_law_1254 : decode code 1254 = .ok (.iadd, 1) := by decide +kernel
theorem dq_W_law_1255 : decode code 1255 = .ok (.iaload, 1) := by decide +kernel
theorem dq_W_law_1256 : decode code 1256 = .ok (.i2l, 1) := by decide +kernel
theorem dq_W_law_1257 : decode code 1257 = .ok (.bipush 32, 2) := by decide +kernel
theorem dq_W_law_1259 : decode code 1259 = .ok (.lshl, 1) := by decide +kernel
theorem dq_W_law_1260 : decode code 1260 = .ok (.aload_n 0, 1) := by decide +kernel
theorem dq_W_law_1261 : decode code 1261 = .ok (.iload_n 3, 1) := by decide +kernel
theorem dq_W_law_1262 : decode code 1262 = .ok (.iconst 3, 1) := by decide +kernel
theorem dq_W_law_1263 : decode code 1263 = .ok (.iadd, 1) := by decide +kernel
theorem dq_W_law_1264 : decode code 1264 = .ok (.iaload, 1) := by decide +kernel
theorem dq_W_law_1265 : decode code 1265 = .ok (.i2l, 1) := by decide +kernel
theorem dq_W_law_1266 : decode code 1266 = .ok (.ldc2_w 13, 3) := by decide +kernel
theorem dq_W_law_1269 : decode code 1269 = .ok (.land, 1) := by decide +kernel
theorem dq_W_law_1270 : decode code 1270 = .ok (.lor, 1) := by decide +kernel
theorem dq_W_law_1271 : decode code 1271 = .ok (.invokevirtual 102, 3) := by decide +kernel
theorem dq_W_law_1274 : decode code 1274 = .ok (.lcmp, 1) := by decide +kernel
theorem dq_W_law_1275 : decode code 1275 = .ok (.ifCond .eq 479, 3) := by decide +kernel
theorem dq_W_law_1278 : decode code 1278 = .ok (.iconst 0, 1) := by decide +kernel
theorem dq_W_law_1279 : decode code 1279 = .ok (.ireturn, 1) := by decide +kernel
theorem dq_W_law_1280 : decode code 1280 = .ok (.aload_n 1, 1) := by decide +kernel
theorem dq_W_law_1281 : decode code 1281 = .ok (.aload_n 0, 1) := by decide +kernel
theorem dq_W_law_1282 : decode code 1282 = .ok (.iload_n 3, 1) := by decide +kernel
theorem dq_W_law_1283 : decode code 1283 = .ok (.iconst 1, 1) := by decide +kernel
theorem dq_W_law_1284 : decode code 1284 = .ok (.iadd, 1) := by decide +kernel
theorem dq_W_law_1285 : decode code 1285 = .ok (.iaload, 1) := by decide +kernel
theorem dq_W_law_1286 : decode code 1286 = .ok (.aload_n 0, 1) := by decide +kernel
theorem dq_W_law_1287 : decode code 1287 = .ok (.iload_n 3, 1) := by decide +kernel
theorem dq_W_law_1288 : decode code 1288 = .ok (.iconst 2, 1) := by decide +kernel
theorem dq_W_law_1289 : decode code 1289 = .ok (.iadd, 1) := by decide +kernel
theorem dq_W_law_1290 : decode code 1290 = .ok (.iaload, 1) := by decide +kernel
theorem dq_W_law_1291 : decode code 1291 = .ok (.aload_n 0, 1) := by decide +kernel
theorem dq_W_law_1292 : decode code 1292 = .ok (.iload_n 3, 1) := by decide +kernel
theorem dq_W_law_1293 : decode code 1293 = .ok (.iconst 3, 1) := by decide +kernel
theorem dq_W_law_1294 : decode code 1294 = .ok (.iadd, 1) := by decide +kernel
theorem dq_W_law_1295 : decode code 1295 = .ok (.iaload, 1) := by decide +kernel
theorem dq_W_law_1296 : decode code 1296 = .ok (.i2l, 1) := by decide +kernel
theorem dq_W_law_1297 : decode code 1297 = .ok (.bipush 32, 2) := by decide +kernel
theorem dq_W_law_1299 : decode code 1299 = .ok (.lshl, 1) := by decide +kernel
theorem dq_W_law_1300 : decode code 1300 = .ok (.aload_n 0, 1) := by decide +kernel
theorem dq_W_law_1301 : decode code 1301 = .ok (.iload_n 3, 1) := by decide +kernel
theorem dq_W_law_1302 : decode code 1302 = .ok (.iconst 4, 1) := by decide +kernel
theorem dq_W_law_1303 : decode code 1303 = .ok (.iadd, 1) := by decide +kernel
theorem dq_W_law_1304 : decode code 1304 = .ok (.iaload, 1) := by decide +kernel
theorem dq_W_law_1305 : decode code 1305 = .ok (.i2l, 1) := by decide +kernel
theorem dq_W_law_1306 : decode code 1306 = .ok (.ldc2_w 13, 3) := by decide +kernel
theorem dq_W_law_1309 : decode code 1309 = .ok (.land, 1) := by decide +kernel
theorem dq_W_law_1310 : decode code 1310 = .ok (.lor, 1) := by decide +kernel
theorem dq_W_law_1311 : decode code 1311 = .ok (.invokevirtual 103, 3) := by decide +kernel
theorem dq_W_law_1314 : decode code 1314 = .ok (.aload_n 2, 1) := by decide +kernel
theorem dq_W_law_1315 : decode code 1315 = .ok (.aload_n 0, 1) := by decide +kernel
theorem dq_W_law_1316 : decode code 1316 = .ok (.iload_n 3, 1) := by decide +kernel
theorem dq_W_law_1317 : decode code 1317 = .ok (.iconst 1, 1) := by decide +kernel
theorem dq_W_law_1318 : decode code 1318 = .ok (.iadd, 1) := by decide +kernel
theorem dq_W_law_1319 : decode code 1319 = .ok (.iaload, 1) := by decide +kernel
theorem dq_W_law_1320 : decode code 1320 = .ok (.aload_n 0, 1) := by decide +kernel
theorem dq_W_law_1321 : decode code 1321 = .ok (.iload_n 3, 1) := by decide +kernel
theorem dq_W_law_1322 : decode code 1322 = .ok (.iconst 2, 1) := by decide +kernel
theorem dq_W_law_1323 : decode code 1323 = .ok (.iadd, 1) := by decide +kernel
theorem dq_W_law_1324 : decode code 1324 = .ok (.iaload, 1) := by decide +kernel
theorem dq_W_law_1325 : decode code 1325 = .ok (.aload_n 0, 1) := by decide +kernel
theorem dq_W_law_1326 : decode code 1326 = .ok (.iload_n 3, 1) := by decide +kernel
theorem dq_W_law_1327 : decode code 1327 = .ok (.iconst 3, 1) := by decide +kernel
theorem dq_W_law_1328 : decode code 1328 = .ok (.iadd, 1) := by decide +kernel
theorem dq_W_law_1329 : decode code 1329 = .ok (.iaload, 1) := by decide +kernel
theorem dq_W_law_1330 : decode code 1330 = .ok (.i2l, 1) := by decide +kernel
theorem dq_W_law_1331 : decode code 1331 = .ok (.bipush 32, 2) := by decide +kernel
theorem dq_W_law_1333 : decode code 1333 = .ok (.lshl, 1) := by decide +kernel
theorem dq_W_law_1334 : decode code 1334 = .ok (.aload_n 0, 1) := by decide +kernel
theorem dq_W_law_1335 : decode code 1335 = .ok (.iload_n 3, 1) := by decide +kernel
theorem dq_W_law_1336 : decode code 1336 = .ok (.iconst 4, 1) := by decide +kernel
theorem dq_W_law_1337 : decode code 1337 = .ok (.iadd, 1) := by decide +kernel
theorem dq_W_law_1338 : decode code 1338 = .ok (.iaload, 1) := by decide +kernel
theorem dq_W_law_1339 : decode code 1339 = .ok (.i2l, 1) := by decide +kernel
theorem dq_W_law_1340 : decode code 1340 = .ok (.ldc2_w 13, 3) := by decide +kernel
theorem dq_W_law_1343 : decode code 1343 = .ok (.land, 1) := by decide +kernel
theorem dq_W_law_1344 : decode code 1344 = .ok (.lor, 1) := by decide +kernel
theorem dq_W_law_1345 : decode code 1345 = .ok (.invokevirtual 106, 3) := by decide +kernel
theorem dq_W_law_1348 : decode code 1348 = .ok (.lcmp, 1) := by decide +kernel
theorem dq_W_law_1349 : decode code 1349 = .ok (.ifCond .eq 405, 3) := by decide +kernel
theorem dq_W_law_1352 : decode code 1352 = .ok (.iconst 0, 1) := by decide +kernel
theorem dq_W_law_1353 : decode code 1353 = .ok (.ireturn, 1) := by decide +kernel
theorem dq_W_law_1354 : decode code 1354 = .ok (.aload_n 1, 1) := by decide +kernel
theorem dq_W_law_1355 : decode code 1355 = .ok (.aload_n 0, 1) := by decide +kernel
theorem dq_W_law_1356 : decode code 1356 = .ok (.iload_n 3, 1) := by decide +kernel
theorem dq_W_law_1357 : decode code 1357 = .ok (.iconst 1, 1) := by decide +kernel
theorem dq_W_law_1358 : decode code 1358 = .ok (.iadd, 1) := by decide +kernel
theorem dq_W_law_1359 : decode code 1359 = .ok (.iaload, 1) := by decide +kernel
theorem dq_W_law_1360 : decode code 1360 = .ok (.aload_n 0, 1) := by decide +kernel
theorem dq_W_law_1361 : decode code 1361 = .ok (.iload_n 3, 1) := by decide +kernel
theorem dq_W_law_1362 : decode code 1362 = .ok (.iconst 2, 1) := by decide +kernel
theorem dq_W_law_1363 : decode code 1363 = .ok (.iadd, 1) := by decide +kernel
theorem dq_W_law_1364 : decode code 1364 = .ok (.iaload, 1) := by decide +kernel
theorem dq_W_law_1365 : decode code 1365 = .ok (.aload_n 0, 1) := by decide +kernel
theorem dq_W_law_1366 : decode code 1366 = .ok (.iload_n 3, 1) := by decide +kernel
theorem dq_W_law_1367 : decode code 1367 = .ok (.iconst 3, 1) := by decide +kernel
theorem dq_W_law_1368 : decode code 1368 = .ok (.iadd, 1) := by decide +kernel
theorem dq_W_law_1369 : decode code 1369 = .ok (.iaload, 1) := by decide +kernel
theorem dq_W_law_1370 : decode code 1370 = .ok (.i2l, 1) := by decide +kernel
theorem dq_W_law_1371 : decode code 1371 = .ok (.bipush 32, 2) := by decide +kernel
theorem dq_W_law_1373 : decode code 1373 = .ok (.lshl, 1) := by decide +kernel
theorem dq_W_law_1374 : decode code 1374 = .ok (.aload_n 0, 1) := by decide +kernel
theorem dq_W_law_1375 : decode code 1375 = .ok (.iload_n 3, 1) := by decide +kernel
theorem dq_W_law_1376 : decode code 1376 = .ok (.iconst 4, 1) := by decide +kernel
theorem dq_W_law_1377 : decode code 1377 = .ok (.iadd, 1) := by decide +kernel
theorem dq_W_law_1378 : decode code 1378 = .ok (.iaload, 1) := by decide +kernel
theorem dq_W_law_1379 : decode code 1379 = .ok (.i2l, 1) := by decide +kernel
theorem dq_W_law_1380 : decode code 1380 = .ok (.ldc2_w 13, 3) := by decide +kernel
theorem dq_W_law_1383 : decode code 1383 = .ok (.land, 1) := by decide +kernel
theorem dq_W_law_1384 : decode code 1384 = .ok (.lor, 1) := by decide +kernel
theorem dq_W_law_1385 : decode code 1385 = .ok (.invokevirtual 107, 3) := by decide +kernel
theorem dq_W_law_1388 : decode code 1388 = .ok (.aload_n 2, 1) := by decide +kernel
theorem dq_W_law_1389 : decode code 1389 = .ok (.aload_n 0, 1) := by decide +kernel
theorem dq_W_law_1390 : decode code 1390 = .ok (.iload_n 3, 1) := by decide +kernel
theorem dq_W_law_1391 : decode code 1391 = .ok (.iconst 1, 1) := by decide +kernel
theorem dq_W_law_1392 : decode code 1392 = .ok (.iadd, 1) := by decide +kernel
theorem dq_W_law_1393 : decode code 1393 = .ok (.iaload, 1) := by decide +kernel
theorem dq_W_law_1394 : decode code 1394 = .ok (.aload_n 0, 1) := by decide +kernel
theorem dq_W_law_1395 : decode code 1395 = .ok (.iload_n 3, 1) := by decide +kernel
theorem dq_W_law_1396 : decode code 1396 = .ok (.iconst 2, 1) := by decide +kernel
theorem dq_W_law_1397 : decode code 1397 = .ok (.iadd, 1) := by decide +kernel
theorem dq_W_law_1398 : decode code 1398 = .ok (.iaload, 1) := by decide +kernel
theorem dq_W_law_1399 : decode code 1399 = .ok (.aload_n 0, 1) := by decide +kernel
theorem dq_W_law_1400 : decode code 1400 = .ok (.iload_n 3, 1) := by decide +kernel
theorem dq_W_law_1401 : decode code 1401 = .ok (.iconst 3, 1) := by decide +kernel
theorem dq_W_law_1402 : decode code 1402 = .ok (.iadd, 1) := by decide +kernel
theorem dq_W_law_1403 : decode code 1403 = .ok (.iaload, 1) := by decide +kernel
theorem dq_W_law_1404 : decode code 1404 = .ok (.i2l, 1) := by decide +kernel
theorem dq_W_law_1405 : decode code 1405 = .ok (.bipush 32, 2) := by decide +kernel
theorem dq_W_law_1407 : decode code 1407 = .ok (.lshl, 1) := by decide +kernel
