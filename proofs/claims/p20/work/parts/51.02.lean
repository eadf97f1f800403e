theorem dL_law_1117 : decode cL_law 1117 = .ok (.aload_n 1, 1) := by decide +kernel
theorem dL_law_1118 : decode cL_law 1118 = .ok (.aload_n 0, 1) := by decide +kernel
theorem dL_law_1119 : decode cL_law 1119 = .ok (.iload 4, 2) := by decide +kernel
theorem dL_law_1121 : decode cL_law 1121 = .ok (.iconst 1, 1) := by decide +kernel
theorem dL_law_1122 : decode cL_law 1122 = .ok (.iadd, 1) := by decide +kernel
theorem dL_law_1123 : decode cL_law 1123 = .ok (.iaload, 1) := by decide +kernel
theorem dL_law_1124 : decode cL_law 1124 = .ok (.aload_n 0, 1) := by decide +kernel
theorem dL_law_1125 : decode cL_law 1125 = .ok (.iload 4, 2) := by decide +kernel
theorem dL_law_1127 : decode cL_law 1127 = .ok (.iconst 2, 1) := by decide +kernel
theorem dL_law_1128 : decode cL_law 1128 = .ok (.iadd, 1) := by decide +kernel
theorem dL_law_1129 : decode cL_law 1129 = .ok (.iaload, 1) := by decide +kernel
theorem dL_law_1130 : decode cL_law 1130 = .ok (.ifCond .eq 7, 3) := by decide +kernel
theorem dL_law_1133 : decode cL_law 1133 = .ok (.iconst 1, 1) := by decide +kernel
theorem dL_law_1134 : decode cL_law 1134 = .ok (.goto 4, 3) := by decide +kernel
theorem dL_law_1137 : decode cL_law 1137 = .ok (.iconst 0, 1) := by decide +kernel
theorem dL_law_1138 : decode cL_law 1138 = .ok (.aload_n 3, 1) := by decide +kernel
theorem dL_law_1139 : decode cL_law 1139 = .ok (.invokestatic 221, 3) := by decide +kernel
theorem dL_law_1142 : decode cL_law 1142 = .ok (.istore 5, 2) := by decide +kernel
theorem dL_law_1144 : decode cL_law 1144 = .ok (.aload_n 2, 1) := by decide +kernel
theorem dL_law_1145 : decode cL_law 1145 = .ok (.aload_n 0, 1) := by decide +kernel
theorem dL_law_1146 : decode cL_law 1146 = .ok (.iload 4, 2) := by decide +kernel
theorem dL_law_1148 : decode cL_law 1148 = .ok (.iconst 1, 1) := by decide +kernel
theorem dL_law_1149 : decode cL_law 1149 = .ok (.iadd, 1) := by decide +kernel
theorem dL_law_1150 : decode cL_law 1150 = .ok (.iaload, 1) := by decide +kernel
theorem dL_law_1151 : decode cL_law 1151 = .ok (.aload_n 0, 1) := by decide +kernel
theorem dL_law_1152 : decode cL_law 1152 = .ok (.iload 4, 2) := by decide +kernel
theorem dL_law_1154 : decode cL_law 1154 = .ok (.iconst 2, 1) := by decide +kernel
theorem dL_law_1155 : decode cL_law 1155 = .ok (.iadd, 1) := by decide +kernel
theorem dL_law_1156 : decode cL_law 1156 = .ok (.iaload, 1) := by decide +kernel
theorem dL_law_1157 : decode cL_law 1157 = .ok (.ifCond .eq 7, 3) := by decide +kernel
theorem dL_law_1160 : decode cL_law 1160 = .ok (.iconst 1, 1) := by decide +kernel
theorem dL_law_1161 : decode cL_law 1161 = .ok (.goto 4, 3) := by decide +kernel
theorem dL_law_1164 : decode cL_law 1164 = .ok (.iconst 0, 1) := by decide +kernel
theorem dL_law_1165 : decode cL_law 1165 = .ok (.invokevirtual 224, 3) := by decide +kernel
theorem dL_law_1168 : decode cL_law 1168 = .ok (.istore 6, 2) := by decide +kernel
theorem dL_law_1170 : decode cL_law 1170 = .ok (.goto 493, 3) := by decide +kernel
theorem dL_law_1173 : decode cL_law 1173 = .ok (.aload_n 1, 1) := by decide +kernel
theorem dL_law_1174 : decode cL_law 1174 = .ok (.aload_n 0, 1) := by decide +kernel
theorem dL_law_1175 : decode cL_law 1175 = .ok (.iload 4, 2) := by decide +kernel
theorem dL_law_1177 : decode cL_law 1177 = .ok (.iconst 1, 1) := by decide +kernel
theorem dL_law_1178 : decode cL_law 1178 = .ok (.iadd, 1) := by decide +kernel
theorem dL_law_1179 : decode cL_law 1179 = .ok (.iaload, 1) := by decide +kernel
theorem dL_law_1180 : decode cL_law 1180 = .ok (.aload_n 0, 1) := by decide +kernel
theorem dL_law_1181 : decode cL_law 1181 = .ok (.iload 4, 2) := by decide +kernel
theorem dL_law_1183 : decode cL_law 1183 = .ok (.iconst 2, 1) := by decide +kernel
theorem dL_law_1184 : decode cL_law 1184 = .ok (.iadd, 1) := by decide +kernel
theorem dL_law_1185 : decode cL_law 1185 = .ok (.iaload, 1) := by decide +kernel
theorem dL_law_1186 : decode cL_law 1186 = .ok (.ifCond .eq 7, 3) := by decide +kernel
theorem dL_law_1189 : decode cL_law 1189 = .ok (.iconst 1, 1) := by decide +kernel
theorem dL_law_1190 : decode cL_law 1190 = .ok (.goto 4, 3) := by decide +kernel
theorem dL_law_1193 : decode cL_law 1193 = .ok (.iconst 0, 1) := by decide +kernel
theorem dL_law_1194 : decode cL_law 1194 = .ok (.aload_n 0, 1) := by decide +kernel
theorem dL_law_1195 : decode cL_law 1195 = .ok (.iload 4, 2) := by decide +kernel
theorem dL_law_1197 : decode cL_law 1197 = .ok (.iconst 3, 1) := by decide +kernel
theorem dL_law_1198 : decode cL_law 1198 = .ok (.iadd, 1) := by decide +kernel
theorem dL_law_1199 : decode cL_law 1199 = .ok (.iaload, 1) := by decide +kernel
theorem dL_law_1200 : decode cL_law 1200 = .ok (.aload_n 3, 1) := by decide +kernel
theorem dL_law_1201 : decode cL_law 1201 = .ok (.invokestatic 225, 3) := by decide +kernel
theorem dL_law_1204 : decode cL_law 1204 = .ok (.istore 5, 2) := by decide +kernel
theorem dL_law_1206 : decode cL_law 1206 = .ok (.aload_n 2, 1) := by decide +kernel
theorem dL_law_1207 : decode cL_law 1207 = .ok (.aload_n 0, 1) := by decide +kernel
theorem dL_law_1208 : decode cL_law 1208 = .ok (.iload 4, 2) := by decide +kernel
theorem dL_law_1210 : decode cL_law 1210 = .ok (.iconst 1, 1) := by decide +kernel
theorem dL_law_1211 : decode cL_law 1211 = .ok (.iadd, 1) := by decide +kernel
theorem dL_law_1212 : decode cL_law 1212 = .ok (.iaload, 1) := by decide +kernel
theorem dL_law_1213 : decode cL_law 1213 = .ok (.aload_n 0, 1) := by decide +kernel
theorem dL_law_1214 : decode cL_law 1214 = .ok (.iload 4, 2) := by decide +kernel
theorem dL_law_1216 : decode cL_law 1216 = .ok (.iconst 2, 1) := by decide +kernel
theorem dL_law_1217 : decode cL_law 1217 = .ok (.iadd, 1) := by decide +kernel
theorem dL_law_1218 : decode cL_law 1218 = .ok (.iaload, 1) := by decide +kernel
theorem dL_law_1219 : decode cL_law 1219 = .ok (.ifCond .eq 7, 3) := by decide +kernel
theorem dL_law_1222 : decode cL_law 1222 = .ok (.iconst 1, 1) := by decide +kernel
theorem dL_law_1223 : decode cL_law 1223 = .ok (.goto 4, 3) := by decide +kernel
theorem dL_law_1226 : decode cL_law 1226 = .ok (.iconst 0, 1) := by decide +kernel
theorem dL_law_1227 : decode cL_law 1227 = .ok (.aload_n 0, 1) := by decide +kernel
theorem dL_law_1228 : decode cL_law 1228 = .ok (.iload 4, 2) := by decide +kernel
theorem dL_law_1230 : decode cL_law 1230 = .ok (.iconst 3, 1) := by decide +kernel
theorem dL_law_1231 : decode cL_law 1231 = .ok (.iadd, 1) := by decide +kernel
theorem dL_law_1232 : decode cL_law 1232 = .ok (.iaload, 1) := by decide +kernel
theorem dL_law_1233 : decode cL_law 1233 = .ok (.invokevirtual 228, 3) := by decide +kernel
theorem dL_law_1236 : decode cL_law 1236 = .ok (.istore 6, 2) := by decide +kernel
theorem dL_law_1238 : decode cL_law 1238 = .ok (.goto 425, 3) := by decide +kernel
theorem dL_law_1241 : decode cL_law 1241 = .ok (.aload_n 1, 1) := by decide +kernel
theorem dL_law_1242 : decode cL_law 1242 = .ok (.aload_n 0, 1) := by decide +kernel
theorem dL_law_1243 : decode cL_law 1243 = .ok (.iload 4, 2) := by decide +kernel
theorem dL_law_1245 : decode cL_law 1245 = .ok (.iconst 1, 1) := by decide +kernel
theorem dL_law_1246 : decode cL_law 1246 = .ok (.iadd, 1) := by decide +kernel
theorem dL_law_1247 : decode cL_law 1247 = .ok (.iaload, 1) := by decide +kernel
theorem dL_law_1248 : decode cL_law 1248 = .ok (.aload_n 0, 1) := by decide +kernel
theorem dL_law_1249 : decode cL_law 1249 = .ok (.iload 4, 2) := by decide +kernel
theorem dL_law_1251 : decode cL_law 1251 = .ok (.iconst 2, 1) := by decide +kernel
theorem dL_law_1252 : decode cL_law 1252 = .ok (.iadd, 1) := by decide +kernel
theorem dL_law_1253 : decode cL_law 1253 = .ok (.iaload, 1) := by decide +kernel
theorem dL_law_1254 : decode cL_law 1254 = .ok (.aload_n 0, 1) := by decide +kernel
theorem dL_law_1255 : decode cL_law 1255 = .ok (.iload 4, 2) := by decide +kernel
theorem dL_law_1257 : decode cL_law 1257 = .ok (.iconst 3, 1) := by decide +kernel
theorem dL_law_1258 : decode cL_law 1258 = .ok (.iadd, 1) := by decide +kernel
theorem dL_law_1259 : decode cL_law 1259 = .ok (.iaload, 1) := by decide +kernel
theorem dL_law_1260 : decode cL_law 1260 = .ok (.aload_n 3, 1) := by decide +kernel
theorem dL_law_1261 : decode cL_law 1261 = .ok (.invokestatic 229, 3) := by decide +kernel
theorem dL_law_1264 : decode cL_law 1264 = .ok (.istore 5, 2) := by decide +kernel
theorem dL_law_1266 : decode cL_law 1266 = .ok (.aload_n 2, 1) := by decide +kernel
theorem dL_law_1267 : decode cL_law 1267 = .ok (.aload_n 0, 1) := by decide +kernel
theorem dL_law_1268 : decode cL_law 1268 = .ok (.iload 4, 2) := by decide +kernel
theorem dL_law_1270 : decode cL_law 1270 = .ok (.iconst 1, 1) := by decide +kernel
theorem dL_law_1271 : decode cL_law 1271 = .ok (.iadd, 1) := by decide +kernel
theorem dL_law_1272 : decode cL_law 1272 = .ok (.iaload, 1) := by decide +kernel
theorem dL_law_1273 : decode cL_law 1273 = .ok (.aload_n 0, 1) := by decide +kernel
theorem dL_law_1274 : decode cL_law 1274 = .ok (.iload 4, 2) := by decide +kernel
theorem dL_law_1276 : decode cL_law 1276 = .ok (.iconst 2, 1) := by decide +kernel
theorem dL_law_1277 : decode cL_law 1277 = .ok (.iadd, 1) := by decide +kernel
theorem dL_law_1278 : decode cL_law 1278 = .ok (.iaload, 1) := by decide +kernel
theorem dL_law_1279 : decode cL_law 1279 = .ok (.aload_n 0, 1) := by decide +kernel
theorem dL_law_1280 : decode cL_law 1280 = .ok (.iload 4, 2) := by decide +kernel
theorem dL_law_1282 : decode cL_law 1282 = .ok (.iconst 3, 1) := by decide +kernel
theorem dL_law_1283 : decode cL_law 1283 = .ok (.iadd, 1) := by decide +kernel
theorem dL_law_1284 : decode cL_law 1284 = .ok (.iaload, 1) := by decide +kernel
theorem dL_law_1285 : decode cL_law 1285 = .ok (.invokevirtual 232, 3) := by decide +kernel
theorem dL_law_1288 : decode cL_law 1288 = .ok (.istore 6, 2) := by decide +kernel
theorem dL_law_1290 : decode cL_law 1290 = .ok (.goto 373, 3) := by decide +kernel
theorem dL_law_1293 : decode cL_law 1293 = .ok (.aload_n 1, 1) := by decide +kernel
theorem dL_law_1294 : decode cL_law 1294 = .ok (.aload_n 0, 1) := by decide +kernel
theorem dL_law_1295 : decode cL_law 1295 = .ok (.iload 4, 2) := by decide +kernel
theorem dL_law_1297 : decode cL_law 1297 = .ok (.iconst 1, 1) := by decide +kernel
theorem dL_law_1298 : decode cL_law 1298 = .ok (.iadd, 1) := by decide +kernel
theorem dL_law_1299 : decode cL_law 1299 = .ok (.iaload, 1) := by decide +kernel
theorem dL_law_1300 : decode cL_law 1300 = .ok (.aload_n 0, 1) := by decide +kernel
theorem dL_law_1301 : decode cL_law 1301 = .ok (.iload 4, 2) := by decide +kernel
theorem dL_law_1303 : decode cL_law 1303 = .ok (.iconst 2, 1) := by decide +kernel
theorem dL_law_1304 : decode cL_law 1304 = .ok (.iadd, 1) := by decide +kernel
theorem dL_law_1305 : decode cL_law 1305 = .ok (.iaload, 1) := by decide +kernel
theorem dL_law_1306 : decode cL_law 1306 = .ok (.aload_n 3, 1) := by decide +kernel
theorem dL_law_1307 : decode cL_law 1307 = .ok (.invokestatic 233, 3) := by decide +kernel
theorem dL_law_1310 : decode cL_law 1310 = .ok (.istore 5, 2) := by decide +kernel
theorem dL_law_1312 : decode cL_law 1312 = .ok (.aload_n 2, 1) := by decide +kernel
theorem dL_law_1313 : decode cL_law 1313 = .ok (.aload_n 0, 1) := by decide +kernel
theorem dL_law_1314 : decode cL_law 1314 = .ok (.iload 4, 2) := by decide +kernel
theorem dL_law_1316 : decode cL_law 1316 = .ok (.iconst 1, 1) := by decide +kernel
theorem dL_law_1317 : decode cL_law 1317 = .ok (.iadd, 1) := by decide +kernel
theorem dL_law_1318 : decode cL_law 1318 = .ok (.iaload, 1) := by decide +kernel
theorem dL_law_1319 : decode cL_law 1319 = .ok (.aload_n 0, 1) := by decide +kernel
theorem dL_law_1320 : decode cL_law 1320 = .ok (.iload 4, 2) := by decide +kernel
theorem dL_law_1322 : decode cL_law 1322 = .ok (.iconst 2, 1) := by decide +kernel
theorem dL_law_1323 : decode cL_law 1323 = .ok (.iadd, 1) := by decide +kernel
theorem dL_law_1324 : decode cL_law 1324 = .ok (.iaload, 1) := by decide +kernel
theorem dL_law_1325 : decode cL_law 1325 = .ok (.invokevirtual 235, 3) := by decide +kernel
theorem dL_law_1328 : decode cL_law 1328 = .ok (.istore 6, 2) := by decide +kernel
theorem dL_law_1330 : decode cL_law 1330 = .ok (.goto 333, 3) := by decide +kernel
theorem dL_law_1333 : decode cL_law 1333 = .ok (.aload_n 1, 1) := by decide +kernel
theorem dL_law_1334 : decode cL_law 1334 = .ok (.invokevirtual 236, 3) := by decide +kernel
theorem dL_law_1337 : decode cL_law 1337 = .ok (.pop, 1) := by decide +kernel
theorem dL_law_1338 : decode cL_law 1338 = .ok (.aload_n 2, 1) := by decide +kernel
theorem dL_law_1339 : decode cL_law 1339 = .ok (.invokevirtual 240, 3) := by decide +kernel
theorem dL_law_1342 : decode cL_law 1342 = .ok (.pop, 1) := by decide +kernel
theorem dL_law_1343 : decode cL_law 1343 = .ok (.goto 320, 3) := by decide +kernel
theorem dL_law_1346 : decode cL_law 1346 = .ok (.aload_n 1, 1) := by decide +kernel
theorem dL_law_1347 : decode cL_law 1347 = .ok (.invokevirtual 241, 3) := by decide +kernel
theorem dL_law_1350 : decode cL_law 1350 = .ok (.pop, 1) := by decide +kernel
theorem dL_law_1351 : decode cL_law 1351 = .ok (.aload_n 2, 1) := by decide +kernel
theorem dL_law_1352 : decode cL_law 1352 = .ok (.invokevirtual 244, 3) := by decide +kernel
theorem dL_law_1355 : decode cL_law 1355 = .ok (.pop, 1) := by decide +kernel
theorem dL_law_1356 : decode cL_law 1356 = .ok (.goto 307, 3) := by decide +kernel
theorem dL_law_1359 : decode cL_law 1359 = .ok (.aload_n 1, 1) := by decide +kernel
theorem dL_law_1360 : decode cL_law 1360 = .ok (.aload_n 0, 1) := by decide +kernel
theorem dL_law_1361 : decode cL_law 1361 = .ok (.iload 4, 2) := by decide +kernel
theorem dL_law_1363 : decode cL_law 1363 = .ok (.iconst 1, 1) := by decide +kernel
theorem dL_law_1364 : decode cL_law 1364 = .ok (.iadd, 1) := by decide +kernel
theorem dL_law_1365 : decode cL_law 1365 = .ok (.iaload, 1) := by decide +kernel
theorem dL_law_1366 : decode cL_law 1366 = .ok (.aload_n 3, 1) := by decide +kernel
theorem dL_law_1367 : decode cL_law 1367 = .ok (.invokestatic 245, 3) := by decide +kernel
theorem dL_law_1370 : decode cL_law 1370 = .ok (.istore 5, 2) := by decide +kernel
theorem dL_law_1372 : decode cL_law 1372 = .ok (.aload_n 2, 1) := by decide +kernel
theorem dL_law_1373 : decode cL_law 1373 = .ok (.aload_n 0, 1) := by decide +kernel
theorem dL_law_1374 : decode cL_law 1374 = .ok (.iload 4, 2) := by decide +kernel
theorem dL_law_1376 : decode cL_law 1376 = .ok (.iconst 1, 1) := by decide +kernel
theorem dL_law_1377 : decode cL_law 1377 = .ok (.iadd, 1) := by decide +kernel
theorem dL_law_1378 : decode cL_law 1378 = .ok (.iaload, 1) := by decide +kernel
theorem dL_law_1379 : decode cL_law 1379 = .ok (.invokevirtual 247, 3) := by decide +kernel
theorem dL_law_1382 : decode cL_law 1382 = .ok (.istore 6, 2) := by decide +kernel
theorem dL_law_1384 : decode cL_law 1384 = .ok (.goto 279, 3) := by decide +kernel
theorem dL_law_1387 : decode cL_law 1387 = .ok (.aload_n 1, 1) := by decide +kernel
theorem dL_law_1388 : decode cL_law 1388 = .ok (.aload_n 0, 1) := by decide +kernel
theorem dL_law_1389 : decode cL_law 1389 = .ok (.iload 4, 2) := by decide +kernel
theorem dL_law_1391 : decode cL_law 1391 = .ok (.iconst 1, 1) := by decide +kernel
theorem dL_law_1392 : decode cL_law 1392 = .ok (.iadd, 1) := by decide +kernel
theorem dL_law_1393 : decode cL_law 1393 = .ok (.iaload, 1) := by decide +kernel
theorem dL_law_1394 : decode cL_law 1394 = .ok (.aload_n 0, 1) := by decide +kernel
theorem dL_law_1395 : decode cL_law 1395 = .ok (.iload 4, 2) := by decide +kernel
theorem dL_law_1397 : decode cL_law 1397 = .ok (.iconst 2, 1) := by decide +kernel
theorem dL_law_1398 : decode cL_law 1398 = .ok (.iadd, 1) := by decide +kernel
theorem dL_law_1399 : decode cL_law 1399 = .ok (.iaload, 1) := by decide +kernel
theorem dL_law_1400 : decode cL_law 1400 = .ok (.aload_n 3, 1) := by decide +kernel
theorem dL_law_1401 : decode cL_law 1401 = .ok (.invokestatic 248, 3) := by decide +kernel
theorem dL_law_1404 : decode cL_law 1404 = .ok (.istore 5, 2) := by decide +kernel
theorem dL_law_1406 : decode cL_law 1406 = .ok (.aload_n 2, 1) := by decide +kernel
theorem dL_law_1407 : decode cL_law 1407 = .ok (.aload_n 0, 1) := by decide +kernel
theorem dL_law_1408 : decode cL_law 1408 = .ok (.iload 4, 2) := by decide +kernel
theorem dL_law_1410 : decode cL_law 1410 = .ok (.iconst 1, 1) := by decide +kernel
theorem dL_law_1411 : decode cL_law 1411 = .ok (.iadd, 1) := by decide +kernel
theorem dL_law_1412 : decode cL_law 1412 = .ok (.iaload, 1) := by decide +kernel
theorem dL_law_1413 : decode cL_law 1413 = .ok (.aload_n 0, 1) := by decide +kernel
theorem dL_law_1414 : decode cL_law 1414 = .ok (.iload 4, 2) := by decide +kernel
theorem dL_law_1416 : decode cL_law 1416 = .ok (.iconst 2, 1) := by decide +kernel
theorem dL_law_1417 : decode cL_law 1417 = .ok (.iadd, 1) := by decide +kernel
theorem dL_law_1418 : decode cL_law 1418 = .ok (.iaload, 1) := by decide +kernel
theorem dL_law_1419 : decode cL_law 1419 = .ok (.invokevirtual 250, 3) := by decide +kernel
theorem dL_law_1422 : decode cL_law 1422 = .ok (.istore 6, 2) := by decide +kernel
theorem dL_law_1424 : decode cL_law 1424 = .ok (.goto 239, 3) := by decide +kernel
theorem dL_law_1427 : decode cL_law 1427 = .ok (.aload_n 1, 1) := by decide +kernel
theorem dL_law_1428 : decode cL_law 1428 = .ok (.aload_n 0, 1) := by decide +kernel
theorem dL_law_1429 : decode cL_law 1429 = .ok (.iload 4, 2) := by decide +kernel
theorem dL_law_1431 : decode cL_law 1431 = .ok (.iconst 1, 1) := by decide +kernel
theorem dL_law_1432 : decode cL_law 1432 = .ok (.iadd, 1) := by decide +kernel
theorem dL_law_1433 : decode cL_law 1433 = .ok (.iaload, 1) := by decide +kernel
theorem dL_law_1434 : decode cL_law 1434 = .ok (.aload_n 0, 1) := by decide +kernel
theorem dL_law_1435 : decode cL_law 1435 = .ok (.iload 4, 2) := by decide +kernel
theorem dL_law_1437 : decode cL_law 1437 = .ok (.iconst 2, 1) := by decide +kernel
theorem dL_law_1438 : decode cL_law 1438 = .ok (.iadd, 1) := by decide +kernel
theorem dL_law_1439 : decode cL_law 1439 = .ok (.iaload, 1) := by decide +kernel
theorem dL_law_1440 : decode cL_law 1440 = .ok (.aload_n 0, 1) := by decide +kernel
theorem dL_law_1441 : decode cL_law 1441 = .ok (.iload 4, 2) := by decide +kernel
theorem dL_law_1443 : decode cL_law 1443 = .ok (.iconst 3, 1) := by decide +kernel
theorem dL_law_1444 : decode cL_law 1444 = .ok (.iadd, 1) := by decide +kernel
theorem dL_law_1445 : decode cL_law 1445 = .ok (.iaload, 1) := by decide +kernel
theorem dL_law_1446 : decode cL_law 1446 = .ok (.invokestatic 251, 3) := by decide +kernel
theorem dL_law_1449 : decode cL_law 1449 = .ok (.istore 5, 2) := by decide +kernel
theorem dL_law_1451 : decode cL_law 1451 = .ok (.aload_n 2, 1) := by decide +kernel
theorem dL_law_1452 : decode cL_law 1452 = .ok (.aload_n 0, 1) := by decide +kernel
theorem dL_law_1453 : decode cL_law 1453 = .ok (.iload 4, 2) := by decide +kernel
theorem dL_law_1455 : decode cL_law 1455 = .ok (.iconst 1, 1) := by decide +kernel
theorem dL_law_1456 : decode cL_law 1456 = .ok (.iadd, 1) := by decide +kernel
theorem dL_law_1457 : decode cL_law 1457 = .ok (.iaload, 1) := by decide +kernel
theorem dL_law_1458 : decode cL_law 1458 = .ok (.aload_n 0, 1) := by decide +kernel
theorem dL_law_1459 : decode cL_law 1459 = .ok (.iload 4, 2) := by decide +kernel
theorem dL_law_1461 : decode cL_law 1461 = .ok (.iconst 2, 1) := by decide +kernel
theorem dL_law_1462 : decode cL_law 1462 = .ok (.iadd, 1) := by decide +kernel
theorem dL_law_1463 : decode cL_law 1463 = .ok (.iaload, 1) := by decide +kernel
theorem dL_law_1464 : decode cL_law 1464 = .ok (.aload_n 0, 1) := by decide +kernel
theorem dL_law_1465 : decode cL_law 1465 = .ok (.iload 4, 2) := by decide +kernel
theorem dL_law_1467 : decode cL_law 1467 = .ok (.iconst 3, 1) := by decide +kernel
theorem dL_law_1468 : decode cL_law 1468 = .ok (.iadd, 1) := by decide +kernel
theorem dL_law_1469 : decode cL_law 1469 = .ok (.iaload, 1) := by decide +kernel
theorem dL_law_1470 : decode cL_law 1470 = .ok (.invokevirtual 254, 3) := by decide +kernel
theorem dL_law_1473 : decode cL_law 1473 = .ok (.goto 190, 3) := by decide +kernel
theorem dL_law_1476 : decode cL_law 1476 = .ok (.aload_n 1, 1) := by decide +kernel
theorem dL_law_1477 : decode cL_law 1477 = .ok (.aload_n 0, 1) := by decide +kernel
theorem dL_law_1478 : decode cL_law 1478 = .ok (.iload 4, 2) := by decide +kernel
theorem dL_law_1480 : decode cL_law 1480 = .ok (.iconst 1, 1) := by decide +kernel
theorem dL_law_1481 : decode cL_law 1481 = .ok (.iadd, 1) := by decide +kernel
theorem dL_law_1482 : decode cL_law 1482 = .ok (.iaload, 1) := by decide +kernel
theorem dL_law_1483 : decode cL_law 1483 = .ok (.aload_n 0, 1) := by decide +kernel
theorem dL_law_1484 : decode cL_law 1484 = .ok (.iload 4, 2) := by decide +kernel
theorem dL_law_1486 : decode cL_law 1486 = .ok (.iconst 2, 1) := by decide +kernel
theorem dL_law_1487 : decode cL_law 1487 = .ok (.iadd, 1) := by decide +kernel
theorem dL_law_1488 : decode cL_law 1488 = .ok (.iaload, 1) := by decide +kernel
theorem dL_law_1489 : decode cL_law 1489 = .ok (.aload_n 0, 1) := by decide +kernel
theorem dL_law_1490 : decode cL_law 1490 = .ok (.iload 4, 2) := by decide +kernel
theorem dL_law_1492 : decode cL_law 1492 = .ok (.iconst 3, 1) := by decide +kernel
theorem dL_law_1493 : decode cL_law 1493 = .ok (.iadd, 1) := by decide +kernel
theorem dL_law_1494 : decode cL_law 1494 = .ok (.iaload, 1) := by decide +kernel
theorem dL_law_1495 : decode cL_law 1495 = .ok (.i2l, 1) := by decide +kernel
theorem dL_law_1496 : decode cL_law 1496 = .ok (.bipush 32, 2) := by decide +kernel
theorem dL_law_1498 : decode cL_law 1498 = .ok (.lshl, 1) := by decide +kernel
theorem dL_law_1499 : decode cL_law 1499 = .ok (.aload_n 0, 1) := by decide +kernel
theorem dL_law_1500 : decode cL_law 1500 = .ok (.iload 4, 2) := by decide +kernel
theorem dL_law_1502 : decode cL_law 1502 = .ok (.iconst 4, 1) := by decide +kernel
theorem dL_law_1503 : decode cL_law 1503 = .ok (.iadd, 1) := by decide +kernel
theorem dL_law_1504 : decode cL_law 1504 = .ok (.iaload, 1) := by decide +kernel
theorem dL_law_1505 : decode cL_law 1505 = .ok (.i2l, 1) := by decide +kernel
theorem dL_law_1506 : decode cL_law 1506 = .ok (.ldc2_w 255, 3) := by decide +kernel
theorem dL_law_1509 : decode cL_law 1509 = .ok (.land, 1) := by decide +kernel
theorem dL_law_1510 : decode cL_law 1510 = .ok (.lor, 1) := by decide +kernel
theorem dL_law_1511 : decode cL_law 1511 = .ok (.aload_n 3, 1) := by decide +kernel
theorem dL_law_1512 : decode cL_law 1512 = .ok (.invokestatic 257, 3) := by decide +kernel
theorem dL_law_1515 : decode cL_law 1515 = .ok (.istore 5, 2) := by decide +kernel
theorem dL_law_1517 : decode cL_law 1517 = .ok (.aload_n 2, 1) := by decide +kernel
theorem dL_law_1518 : decode cL_law 1518 = .ok (.aload_n 0, 1) := by decide +kernel
theorem dL_law_1519 : decode cL_law 1519 = .ok (.iload 4, 2) := by decide +kernel
theorem dL_law_1521 : decode cL_law 1521 = .ok (.iconst 1, 1) := by decide +kernel
theorem dL_law_1522 : decode cL_law 1522 = .ok (.iadd, 1) := by decide +kernel
theorem dL_law_1523 : decode cL_law 1523 = .ok (.iaload, 1) := by decide +kernel
theorem dL_law_1524 : decode cL_law 1524 = .ok (.aload_n 0, 1) := by decide +kernel
theorem dL_law_1525 : decode cL_law 1525 = .ok (.iload 4, 2) := by decide +kernel
theorem dL_law_1527 : decode cL_law 1527 = .ok (.iconst 2, 1) := by decide +kernel
theorem dL_law_1528 : decode cL_law 1528 = .ok (.iadd, 1) := by decide +kernel
theorem dL_law_1529 : decode cL_law 1529 = .ok (.iaload, 1) := by decide +kernel
theorem dL_law_1530 : decode cL_law 1530 = .ok (.aload_n 0, 1) := by decide +kernel
theorem dL_law_1531 : decode cL_law 1531 = .ok (.iload 4, 2) := by decide +kernel
theorem dL_law_1533 : decode cL_law 1533 = .ok (.iconst 3, 1) := by decide +kernel
theorem dL_law_1534 : decode cL_law 1534 = .ok (.iadd, 1) := by decide +kernel
theorem dL_law_1535 : decode cL_law 1535 = .ok (.iaload, 1) := by decide +kernel
theorem dL_law_1536 : decode cL_law 1536 = .ok (.i2l, 1) := by decide +kernel
theorem dL_law_1537 : decode cL_law 1537 = .ok (.bipush 32, 2) := by decide +kernel
theorem dL_law_1539 : decode cL_law 1539 = .ok (.lshl, 1) := by decide +kernel
theorem dL_law_1540 : decode cL_law 1540 = .ok (.aload_n 0, 1) := by decide +kernel
theorem dL_law_1541 : decode cL_law 1541 = .ok (.iload 4, 2) := by decide +kernel
theorem dL_law_1543 : decode cL_law 1543 = .ok (.iconst 4, 1) := by decide +kernel
theorem dL_law_1544 : decode cL_law 1544 = .ok (.iadd, 1) := by decide +kernel
theorem dL_law_1545 : decode cL_law 1545 = .ok (.iaload, 1) := by decide +kernel
theorem dL_law_1546 : decode cL_law 1546 = .ok (.i2l, 1) := by decide +kernel
theorem dL_law_1547 : decode cL_law 1547 = .ok (.ldc2_w 255, 3) := by decide +kernel
theorem dL_law_1550 : decode cL_law 1550 = .ok (.land, 1) := by decide +kernel
theorem dL_law_1551 : decode cL_law 1551 = .ok (.lor, 1) := by decide +kernel
theorem dL_law_1552 : decode cL_law 1552 = .ok (.invokevirtual 260, 3) := by decide +kernel
theorem dL_law_1555 : decode cL_law 1555 = .ok (.lstore 6, 2) := by decide +kernel
theorem dL_law_1557 : decode cL_law 1557 = .ok (.goto 106, 3) := by decide +kernel
theorem dL_law_1560 : decode cL_law 1560 = .ok (.aload_n 1, 1) := by decide +kernel
theorem dL_law_1561 : decode cL_law 1561 = .ok (.aload_n 0, 1) := by decide +kernel
theorem dL_law_1562 : decode cL_law 1562 = .ok (.iload 4, 2) := by decide +kernel
theorem dL_law_1564 : decode cL_law 1564 = .ok (.iconst 1, 1) := by decide +kernel
theorem dL_law_1565 : decode cL_law 1565 = .ok (.iadd, 1) := by decide +kernel
theorem dL_law_1566 : decode cL_law 1566 = .ok (.iaload, 1) := by decide +kernel
theorem dL_law_1567 : decode cL_law 1567 = .ok (.aload_n 3, 1) := by decide +kernel
theorem dL_law_1568 : decode cL_law 1568 = .ok (.invokestatic 261, 3) := by decide +kernel
theorem dL_law_1571 : decode cL_law 1571 = .ok (.istore 5, 2) := by decide +kernel
theorem dL_law_1573 : decode cL_law 1573 = .ok (.aload_n 2, 1) := by decide +kernel
theorem dL_law_1574 : decode cL_law 1574 = .ok (.aload_n 0, 1) := by decide +kernel
theorem dL_law_1575 : decode cL_law 1575 = .ok (.iload 4, 2) := by decide +kernel
theorem dL_law_1577 : decode cL_law 1577 = .ok (.iconst 1, 1) := by decide +kernel
theorem dL_law_1578 : decode cL_law 1578 = .ok (.iadd, 1) := by decide +kernel
theorem dL_law_1579 : decode cL_law 1579 = .ok (.iaload, 1) := by decide +kernel
theorem dL_law_1580 : decode cL_law 1580 = .ok (.invokevirtual 263, 3) := by decide +kernel
theorem dL_law_1583 : decode cL_law 1583 = .ok (.istore 6, 2) := by decide +kernel
theorem dL_law_1585 : decode cL_law 1585 = .ok (.goto 78, 3) := by decide +kernel
theorem dL_law_1588 : decode cL_law 1588 = .ok (.aload_n 1, 1) := by decide +kernel
theorem dL_law_1589 : decode cL_law 1589 = .ok (.aload_n 0, 1) := by decide +kernel
theorem dL_law_1590 : decode cL_law 1590 = .ok (.iload 4, 2) := by decide +kernel
theorem dL_law_1592 : decode cL_law 1592 = .ok (.iconst 1, 1) := by decide +kernel
theorem dL_law_1593 : decode cL_law 1593 = .ok (.iadd, 1) := by decide +kernel
theorem dL_law_1594 : decode cL_law 1594 = .ok (.iaload, 1) := by decide +kernel
theorem dL_law_1595 : decode cL_law 1595 = .ok (.invokestatic 264, 3) := by decide +kernel
theorem dL_law_1598 : decode cL_law 1598 = .ok (.istore 5, 2) := by decide +kernel
theorem dL_law_1600 : decode cL_law 1600 = .ok (.aload_n 2, 1) := by decide +kernel
theorem dL_law_1601 : decode cL_law 1601 = .ok (.aload_n 0, 1) := by decide +kernel
theorem dL_law_1602 : decode cL_law 1602 = .ok (.iload 4, 2) := by decide +kernel
theorem dL_law_1604 : decode cL_law 1604 = .ok (.iconst 1, 1) := by decide +kernel
theorem dL_law_1605 : decode cL_law 1605 = .ok (.iadd, 1) := by decide +kernel
theorem dL_law_1606 : decode cL_law 1606 = .ok (.iaload, 1) := by decide +kernel
theorem dL_law_1607 : decode cL_law 1607 = .ok (.invokevirtual 267, 3) := by decide +kernel
theorem dL_law_1610 : decode cL_law 1610 = .ok (.goto 53, 3) := by decide +kernel
theorem dL_law_1613 : decode cL_law 1613 = .ok (.aload_n 1, 1) := by decide +kernel
theorem dL_law_1614 : decode cL_law 1614 = .ok (.aload_n 0, 1) := by decide +kernel
theorem dL_law_1615 : decode cL_law 1615 = .ok (.iload 4, 2) := by decide +kernel
theorem dL_law_1617 : decode cL_law 1617 = .ok (.iconst 1, 1) := by decide +kernel
theorem dL_law_1618 : decode cL_law 1618 = .ok (.iadd, 1) := by decide +kernel
theorem dL_law_1619 : decode cL_law 1619 = .ok (.iaload, 1) := by decide +kernel
theorem dL_law_1620 : decode cL_law 1620 = .ok (.invokestatic 268, 3) := by decide +kernel
theorem dL_law_1623 : decode cL_law 1623 = .ok (.istore 5, 2) := by decide +kernel
theorem dL_law_1625 : decode cL_law 1625 = .ok (.aload_n 2, 1) := by decide +kernel
theorem dL_law_1626 : decode cL_law 1626 = .ok (.aload_n 0, 1) := by decide +kernel
theorem dL_law_1627 : decode cL_law 1627 = .ok (.iload 4, 2) := by decide +kernel
theorem dL_law_1629 : decode cL_law 1629 = .ok (.iconst 1, 1) := by decide +kernel
theorem dL_law_1630 : decode cL_law 1630 = .ok (.iadd, 1) := by decide +kernel
theorem dL_law_1631 : decode cL_law 1631 = .ok (.iaload, 1) := by decide +kernel
theorem dL_law_1632 : decode cL_law 1632 = .ok (.invokevirtual 270, 3) := by decide +kernel
theorem dL_law_1635 : decode cL_law 1635 = .ok (.goto 28, 3) := by decide +kernel
theorem dL_law_1638 : decode cL_law 1638 = .ok (.aload_n 1, 1) := by decide +kernel
theorem dL_law_1639 : decode cL_law 1639 = .ok (.aload_n 0, 1) := by decide +kernel
theorem dL_law_1640 : decode cL_law 1640 = .ok (.iload 4, 2) := by decide +kernel
theorem dL_law_1642 : decode cL_law 1642 = .ok (.iconst 1, 1) := by decide +kernel
theorem dL_law_1643 : decode cL_law 1643 = .ok (.iadd, 1) := by decide +kernel
theorem dL_law_1644 : decode cL_law 1644 = .ok (.iaload, 1) := by decide +kernel
theorem dL_law_1645 : decode cL_law 1645 = .ok (.invokevirtual 271, 3) := by decide +kernel
theorem dL_law_1648 : decode cL_law 1648 = .ok (.pop, 1) := by decide +kernel
theorem dL_law_1649 : decode cL_law 1649 = .ok (.aload_n 2, 1) := by decide +kernel
theorem dL_law_1650 : decode cL_law 1650 = .ok (.aload_n 0, 1) := by decide +kernel
theorem dL_law_1651 : decode cL_law 1651 = .ok (.iload 4, 2) := by decide +kernel
theorem dL_law_1653 : decode cL_law 1653 = .ok (.iconst 1, 1) := by decide +kernel
theorem dL_law_1654 : decode cL_law 1654 = .ok (.iadd, 1) := by decide +kernel
theorem dL_law_1655 : decode cL_law 1655 = .ok (.iaload, 1) := by decide +kernel
theorem dL_law_1656 : decode cL_law 1656 = .ok (.invokevirtual 274, 3) := by decide +kernel
theorem dL_law_1659 : decode cL_law 1659 = .ok (.pop, 1) := by decide +kernel
theorem dL_law_1660 : decode cL_law 1660 = .ok (.goto 3, 3) := by decide +kernel
set_option maxRecDepth 4000 in
theorem law_c28 {p : Program} {l : Launch} {e : Env} {s : State} {m : MethodId} {below : List Frame} {meth : Method} {c : Code} {b L : Nat} {xs : Nat → Int32} {D : va_G} {cy : Nat → ClassId} {ad : Nat → Nat} {A : Nat → Prop} (hlT : l.stackTraces = false) (F : FxM D cy ad p m c cL_law 8 s #[Value.ref b] RL A) (hX : va_X b L xs s s.heap) (hbl : b < s.heap.size) (hbA : ¬ A b) (hL : L ≤ 3072) (y : Int) (hy0 : 0 ≤ y) (hy1 : y + 6 ≤ (L : Int)) (nk sk : Nat) (hnk : nk ≤ 9000 ∧ sk ≤ 90000) (M : Mem) (hJ : Iw M) (hR : RlD M ∧ RlG M) (ih : ∀ M' : Mem, Iw M' → (RlD M' ∧ RlG M') → Z D cy ad p l e room_1 s m #[Value.ref b] below meth c A 8 (nk + 6) (sk + 36) (lw_Z below #[Value.ref b] s) 23 [(4, ii (y + 6)), (0, .ref b), (1, .ref (ad 0)), (2, .ref (ad 131)), (3, .ref (ad 151))] [] M') : Z D cy ad p l e room_1 s m #[Value.ref b] below meth c A 8 nk sk (lw_Z below #[Value.ref b] s) 1117 [(4, ii y), (0, .ref b), (1, .ref (ad 0)), (2, .ref (ad 131)), (3, .ref (ad 151))] [] M := by
  obtain ⟨hI, hW⟩ := hJ
  have hRT := hR.1.1
  have hRS := hR.1.2
  have hRG := hR.2
  refine z_aload_n F dL_law_1117 rfl (q := 2) rfl ?_
  refine z_aload_n F dL_law_1118 rfl (q := 1) rfl ?_
  refine z_iload F dL_law_1119 (q := 0) rfl ?_
  refine z_iconst F dL_law_1121 ?_
  refine z_iadd F dL_law_1122 ?_
  refine z_sld F hX hbl hbA hL (by omega) (by omega) dL_law_1123 (fun v1 ev1 rv1 => ?_)
  refine z_aload_n F dL_law_1124 rfl (q := 1) rfl ?_
  refine z_iload F dL_law_1125 (q := 0) rfl ?_
  refine z_iconst F dL_law_1127 ?_
  refine z_iadd F dL_law_1128 ?_
  refine z_sld F hX hbl hbA hL (by omega) (by omega) dL_law_1129 (fun v2 ev2 rv2 => ?_)
  refine z_if_eq (tgt := 1137) F dL_law_1130 (by decide +kernel) (by omega) (fun c3 => ?_) (fun c3 => ?_)
  · refine z_iconst F dL_law_1137 ?_
    refine z_aload_n F dL_law_1138 rfl (q := 4) rfl ?_
    have hIp := hI
    refine zh_i (rest := []) F (k_L_goats l hlT M ⟨hI, hW⟩ v1 (by omega) (by omega) 0 (by omega) (by omega)) cs_L_221 ⟨Nat.le_of_ble_eq_true rfl, Nat.le_of_ble_eq_true rfl⟩ ⟨show _ ≤ 601024 by omega, show _ ≤ 7293034 by omega⟩ rfl rfl rfl (Nat.le_of_ble_eq_true rfl) dL_law_1139 (fun v4 M5 rv4 hI p6 => ?_)
    obtain ⟨hI, hW⟩ := hI
    obtain ⟨fp6, xp6⟩ := p6
    have tM5_0_1 : M5 0 1 = M 0 1 := fp6.at (by decide)
    have tM5_131_6 : M5 131 6 = M 131 6 := fp6.at (by decide)
    have hRG : RlG M5 := rg_fr hIp fp6 (by unfold No5; decide) (by unfold NoI No5; decide) (by unfold NoG; decide) hRG
    have hRT : RlT M5 := rl_fr fp6 (by decide) hRT
    have hRS : RlS M5 := rs_fr hIp fp6 (by decide) (by decide) (by decide) (by unfold No5; decide) (by unfold NoI No5; decide) hRS
    refine z_istore F dL_law_1142 (by decide) (ls' := [(5, ii v4), (4, ii y), (0, .ref b), (1, .ref (ad 0)), (2, .ref (ad 131)), (3, .ref (ad 151))]) rfl ?_
    refine z_aload_n F dL_law_1144 rfl (q := 4) rfl ?_
    refine z_aload_n F dL_law_1145 rfl (q := 2) rfl ?_
    refine z_iload F dL_law_1146 (q := 1) rfl ?_
    refine z_iconst F dL_law_1148 ?_
    refine z_iadd F dL_law_1149 ?_
    refine z_sld F hX hbl hbA hL (by omega) (by omega) dL_law_1150 (fun v7 ev7 rv7 => ?_)
    have zv7 : v1 = v7 := ev1.trans ev7.symm
    subst zv7
    refine z_aload_n F dL_law_1151 rfl (q := 2) rfl ?_
    refine z_iload F dL_law_1152 (q := 1) rfl ?_
    refine z_iconst F dL_law_1154 ?_
    refine z_iadd F dL_law_1155 ?_
    refine z_sld F hX hbl hbA hL (by omega) (by omega) dL_law_1156 (fun v8 ev8 rv8 => ?_)
    have zv8 : v2 = v8 := ev2.trans ev8.symm
    subst zv8
    refine z_if_eq (tgt := 1164) F dL_law_1157 (by decide +kernel) (by omega) (fun c9 => ?_) (fun c9 => by exfalso; omega)
    refine z_iconst F dL_law_1164 ?_
    have hIp := hI
    refine zl_i (rest := []) F (k_X12_goats l M5 ⟨hI, hW⟩ v1 (by omega) (by omega) 0 (by omega) (by omega)) cs_L_224 (T := TX12) (N := 44) (ci := 12) rfl gs_131 ⟨Nat.le_of_ble_eq_true rfl, Nat.le_of_ble_eq_true rfl⟩ ⟨show _ ≤ 601024 by omega, show _ ≤ 7293034 by omega⟩ rfl rfl rfl (Nat.le_of_ble_eq_true rfl) dL_law_1165 (fun v10 M11 rv10 hI p12 => ?_)
    obtain ⟨hI, hW⟩ := hI
    obtain ⟨⟨av10, bv10⟩, fp12⟩ := p12
    have tM11_0_1 : M11 0 1 = M5 0 1 := fp12.at (by decide)
    have tM11_131_6 : M11 131 6 = M5 131 6 := fp12.t6 (by decide)
    have hRG : RlG M11 := rg_fr hIp fp12 (by unfold No5; decide) (by unfold NoI No5; decide) (by unfold NoG; decide) hRG
    have hRT : RlT M11 := rl_fr fp12 (by decide) hRT
    have hRS : RlS M11 := rs_fr hIp fp12 (by decide) (by decide) (by decide) (by unfold No5; decide) (by unfold NoI No5; decide) hRS
    refine z_istore F dL_law_1168 (by decide) (ls' := [(6, ii v10), (5, ii v4), (4, ii y), (0, .ref b), (1, .ref (ad 0)), (2, .ref (ad 131)), (3, .ref (ad 151))]) rfl ?_
    refine z_goto (tgt := 1663) F dL_law_1170 (by decide +kernel) ?_
    refine z_iincN F dL_law_1663 (q := 2) rfl (by decide) (fun w e => ?_)
    subst e
    refine z_eq (ls' := [(4, ii (y + 6)), (6, ii v10), (5, ii v4), (0, .ref b), (1, .ref (ad 0)), (2, .ref (ad 131)), (3, .ref (ad 151))]) rfl rfl rfl ?_
    refine z_goto (tgt := 23) F dL_law_1666 (by decide +kernel) ?_
    refine z_loc [0, 3, 4, 5, 6] (ls' := [(4, ii (y + 6)), (0, .ref b), (1, .ref (ad 0)), (2, .ref (ad 131)), (3, .ref (ad 151))]) rfl ?_
    refine z_wide (n1 := nk + 6) (s1 := sk + 36) (by omega) (by omega) ?_
    exact ih _ ⟨hI, hW⟩ ⟨⟨hRT, hRS⟩, hRG⟩
  · refine z_iconst F dL_law_1133 ?_
    refine z_goto (tgt := 1138) F dL_law_1134 (by decide +kernel) ?_
    refine z_aload_n F dL_law_1138 rfl (q := 4) rfl ?_
    have hIp := hI
    refine zh_i (rest := []) F (k_L_goats l hlT M ⟨hI, hW⟩ v1 (by omega) (by omega) 1 (by omega) (by omega)) cs_L_221 ⟨Nat.le_of_ble_eq_true rfl, Nat.le_of_ble_eq_true rfl⟩ ⟨show _ ≤ 601024 by omega, show _ ≤ 7293034 by omega⟩ rfl rfl rfl (Nat.le_of_ble_eq_true rfl) dL_law_1139 (fun v13 M14 rv13 hI p15 => ?_)
    obtain ⟨hI, hW⟩ := hI
    obtain ⟨fp15, xp15⟩ := p15
    have tM14_0_1 : M14 0 1 = M 0 1 := fp15.at (by decide)
    have tM14_131_6 : M14 131 6 = M 131 6 := fp15.at (by decide)
    have hRG : RlG M14 := rg_fr hIp fp15 (by unfold No5; decide) (by unfold NoI No5; decide) (by unfold NoG; decide) hRG
    have hRT : RlT M14 := rl_fr fp15 (by decide) hRT
    have hRS : RlS M14 := rs_fr hIp fp15 (by decide) (by decide) (by decide) (by unfold No5; decide) (by unfold NoI No5; decide) hRS
    refine z_istore F dL_law_1142 (by decide) (ls' := [(5, ii v13), (4, ii y), (0, .ref b), (1, .ref (ad 0)), (2, .ref (ad 131)), (3, .ref (ad 151))]) rfl ?_
    refine z_aload_n F dL_law_1144 rfl (q := 4) rfl ?_
    refine z_aload_n F dL_law_1145 rfl (q := 2) rfl ?_
    refine z_iload F dL_law_1146 (q := 1) rfl ?_
    refine z_iconst F dL_law_1148 ?_
    refine z_iadd F dL_law_1149 ?_
    refine z_sld F hX hbl hbA hL (by omega) (by omega) dL_law_1150 (fun v16 ev16 rv16 => ?_)
    have zv16 : v1 = v16 := ev1.trans ev16.symm
    subst zv16
    refine z_aload_n F dL_law_1151 rfl (q := 2) rfl ?_
    refine z_iload F dL_law_1152 (q := 1) rfl ?_
    refine z_iconst F dL_law_1154 ?_
    refine z_iadd F dL_law_1155 ?_
    refine z_sld F hX hbl hbA hL (by omega) (by omega) dL_law_1156 (fun v17 ev17 rv17 => ?_)
    have zv17 : v2 = v17 := ev2.trans ev17.symm
    subst zv17
    refine z_if_eq (tgt := 1164) F dL_law_1157 (by decide +kernel) (by omega) (fun c18 => ?_) (fun c18 => ?_)
    · refine z_iconst F dL_law_1164 ?_
      have hIp := hI
      refine zl_i (rest := []) F (k_X12_goats l M14 ⟨hI, hW⟩ v1 (by omega) (by omega) 0 (by omega) (by omega)) cs_L_224 (T := TX12) (N := 44) (ci := 12) rfl gs_131 ⟨Nat.le_of_ble_eq_true rfl, Nat.le_of_ble_eq_true rfl⟩ ⟨show _ ≤ 601024 by omega, show _ ≤ 7293034 by omega⟩ rfl rfl rfl (Nat.le_of_ble_eq_true rfl) dL_law_1165 (fun v19 M20 rv19 hI p21 => ?_)
      obtain ⟨hI, hW⟩ := hI
      obtain ⟨⟨av19, bv19⟩, fp21⟩ := p21
      have tM20_0_1 : M20 0 1 = M14 0 1 := fp21.at (by decide)
      have tM20_131_6 : M20 131 6 = M14 131 6 := fp21.t6 (by decide)
      have hRG : RlG M20 := rg_fr hIp fp21 (by unfold No5; decide) (by unfold NoI No5; decide) (by unfold NoG; decide) hRG
      have hRT : RlT M20 := rl_fr fp21 (by decide) hRT
      have hRS : RlS M20 := rs_fr hIp fp21 (by decide) (by decide) (by decide) (by unfold No5; decide) (by unfold NoI No5; decide) hRS
      refine z_istore F dL_law_1168 (by decide) (ls' := [(6, ii v19), (5, ii v13), (4, ii y), (0, .ref b), (1, .ref (ad 0)), (2, .ref (ad 131)), (3, .ref (ad 151))]) rfl ?_
      refine z_goto (tgt := 1663) F dL_law_1170 (by decide +kernel) ?_
      refine z_iincN F dL_law_1663 (q := 2) rfl (by decide) (fun w e => ?_)
      subst e
      refine z_eq (ls' := [(4, ii (y + 6)), (6, ii v19), (5, ii v13), (0, .ref b), (1, .ref (ad 0)), (2, .ref (ad 131)), (3, .ref (ad 151))]) rfl rfl rfl ?_
      refine z_goto (tgt := 23) F dL_law_1666 (by decide +kernel) ?_
      refine z_loc [0, 3, 4, 5, 6] (ls' := [(4, ii (y + 6)), (0, .ref b), (1, .ref (ad 0)), (2, .ref (ad 131)), (3, .ref (ad 151))]) rfl ?_
      refine z_wide (n1 := nk + 6) (s1 := sk + 36) (by omega) (by omega) ?_
      exact ih _ ⟨hI, hW⟩ ⟨⟨hRT, hRS⟩, hRG⟩
    · refine z_iconst F dL_law_1160 ?_
      refine z_goto (tgt := 1165) F dL_law_1161 (by decide +kernel) ?_
      have hIp := hI
      refine zl_i (rest := []) F (k_X12_goats l M14 ⟨hI, hW⟩ v1 (by omega) (by omega) 1 (by omega) (by omega)) cs_L_224 (T := TX12) (N := 44) (ci := 12) rfl gs_131 ⟨Nat.le_of_ble_eq_true rfl, Nat.le_of_ble_eq_true rfl⟩ ⟨show _ ≤ 601024 by omega, show _ ≤ 7293034 by omega⟩ rfl rfl rfl (Nat.le_of_ble_eq_true rfl) dL_law_1165 (fun v22 M23 rv22 hI p24 => ?_)
      obtain ⟨hI, hW⟩ := hI
      obtain ⟨⟨av22, bv22⟩, fp24⟩ := p24
      have tM23_0_1 : M23 0 1 = M14 0 1 := fp24.at (by decide)
      have tM23_131_6 : M23 131 6 = M14 131 6 := fp24.t6 (by decide)
      have hRG : RlG M23 := rg_fr hIp fp24 (by unfold No5; decide) (by unfold NoI No5; decide) (by unfold NoG; decide) hRG
      have hRT : RlT M23 := rl_fr fp24 (by decide) hRT
      have hRS : RlS M23 := rs_fr hIp fp24 (by decide) (by decide) (by decide) (by unfold No5; decide) (by unfold NoI No5; decide) hRS
      refine z_istore F dL_law_1168 (by decide) (ls' := [(6, ii v22), (5, ii v13), (4, ii y), (0, .ref b), (1, .ref (ad 0)), (2, .ref (ad 131)), (3, .ref (ad 151))]) rfl ?_
      refine z_goto (tgt := 1663) F dL_law_1170 (by decide +kernel) ?_
      refine z_iincN F dL_law_1663 (q := 2) rfl (by decide) (fun w e => ?_)
      subst e
      refine z_eq (ls' := [(4, ii (y + 6)), (6, ii v22), (5, ii v13), (0, .ref b), (1, .ref (ad 0)), (2, .ref (ad 131)), (3, .ref (ad 151))]) rfl rfl rfl ?_
      refine z_goto (tgt := 23) F dL_law_1666 (by decide +kernel) ?_
      refine z_loc [0, 3, 4, 5, 6] (ls' := [(4, ii (y + 6)), (0, .ref b), (1, .ref (ad 0)), (2, .ref (ad 131)), (3, .ref (ad 151))]) rfl ?_
      refine z_wide (n1 := nk + 6) (s1 := sk + 36) (by omega) (by omega) ?_
      exact ih _ ⟨hI, hW⟩ ⟨⟨hRT, hRS⟩, hRG⟩
set_option maxRecDepth 4000 in
theorem law_c29 {p : Program} {l : Launch} {e : Env} {s : State} {m : MethodId} {below : List Frame} {meth : Method} {c : Code} {b L : Nat} {xs : Nat → Int32} {D : va_G} {cy : Nat → ClassId} {ad : Nat → Nat} {A : Nat → Prop} (hlT : l.stackTraces = false) (F : FxM D cy ad p m c cL_law 8 s #[Value.ref b] RL A) (hX : va_X b L xs s s.heap) (hbl : b < s.heap.size) (hbA : ¬ A b) (hL : L ≤ 3072) (y : Int) (hy0 : 0 ≤ y) (hy1 : y + 6 ≤ (L : Int)) (nk sk : Nat) (hnk : nk ≤ 9000 ∧ sk ≤ 90000) (M : Mem) (hJ : Iw M) (hR : RlD M ∧ RlG M) (ih : ∀ M' : Mem, Iw M' → (RlD M' ∧ RlG M') → Z D cy ad p l e room_1 s m #[Value.ref b] below meth c A 8 (nk + 6) (sk + 36) (lw_Z below #[Value.ref b] s) 23 [(4, ii (y + 6)), (0, .ref b), (1, .ref (ad 0)), (2, .ref (ad 131)), (3, .ref (ad 151))] [] M') : Z D cy ad p l e room_1 s m #[Value.ref b] below meth c A 8 nk sk (lw_Z below #[Value.ref b] s) 1173 [(4, ii y), (0, .ref b), (1, .ref (ad 0)), (2, .ref (ad 131)), (3, .ref (ad 151))] [] M := by
  obtain ⟨hI, hW⟩ := hJ
  have hRT := hR.1.1
  have hRS := hR.1.2
  have hRG := hR.2
  refine z_aload_n F dL_law_1173 rfl (q := 2) rfl ?_
  refine z_aload_n F dL_law_1174 rfl (q := 1) rfl ?_
  refine z_iload F dL_law_1175 (q := 0) rfl ?_
  refine z_iconst F dL_law_1177 ?_
  refine z_iadd F dL_law_1178 ?_
  refine z_sld F hX hbl hbA hL (by omega) (by omega) dL_law_1179 (fun v1 ev1 rv1 => ?_)
  refine z_aload_n F dL_law_1180 rfl (q := 1) rfl ?_
  refine z_iload F dL_law_1181 (q := 0) rfl ?_
  refine z_iconst F dL_law_1183 ?_
  refine z_iadd F dL_law_1184 ?_
  refine z_sld F hX hbl hbA hL (by omega) (by omega) dL_law_1185 (fun v2 ev2 rv2 => ?_)
  refine z_if_eq (tgt := 1193) F dL_law_1186 (by decide +kernel) (by omega) (fun c3 => ?_) (fun c3 => ?_)
  · refine z_iconst F dL_law_1193 ?_
    refine z_aload_n F dL_law_1194 rfl (q := 1) rfl ?_
    refine z_iload F dL_law_1195 (q := 0) rfl ?_
    refine z_iconst F dL_law_1197 ?_
    refine z_iadd F dL_law_1198 ?_
    refine z_sld F hX hbl hbA hL (by omega) (by omega) dL_law_1199 (fun v4 ev4 rv4 => ?_)
    refine z_aload_n F dL_law_1200 rfl (q := 4) rfl ?_
    have hIp := hI
    refine zh_i (rest := []) F (k_L_bestRow l hlT M ⟨hI, hW⟩ v1 (by omega) (by omega) 0 (by omega) (by omega) v4 (by omega) (by omega)) cs_L_225 ⟨Nat.le_of_ble_eq_true rfl, Nat.le_of_ble_eq_true rfl⟩ ⟨show _ ≤ 601024 by omega, show _ ≤ 7293034 by omega⟩ rfl rfl rfl (Nat.le_of_ble_eq_true rfl) dL_law_1201 (fun v5 M6 rv5 hI p7 => ?_)
    obtain ⟨hI, hW⟩ := hI
    obtain ⟨fp7, xp7⟩ := p7
    have tM6_0_1 : M6 0 1 = M 0 1 := fp7.at (by decide)
    have tM6_131_6 : M6 131 6 = M 131 6 := fp7.at (by decide)
    have hRG : RlG M6 := rg_fr hIp fp7 (by unfold No5; decide) (by unfold NoI No5; decide) (by unfold NoG; decide) hRG
    have hRT : RlT M6 := rl_fr fp7 (by decide) hRT
    have hRS : RlS M6 := rs_fr hIp fp7 (by decide) (by decide) (by decide) (by unfold No5; decide) (by unfold NoI No5; decide) hRS
    refine z_istore F dL_law_1204 (by decide) (ls' := [(5, ii v5), (4, ii y), (0, .ref b), (1, .ref (ad 0)), (2, .ref (ad 131)), (3, .ref (ad 151))]) rfl ?_
    refine z_aload_n F dL_law_1206 rfl (q := 4) rfl ?_
    refine z_aload_n F dL_law_1207 rfl (q := 2) rfl ?_
    refine z_iload F dL_law_1208 (q := 1) rfl ?_
    refine z_iconst F dL_law_1210 ?_
    refine z_iadd F dL_law_1211 ?_
    refine z_sld F hX hbl hbA hL (by omega) (by omega) dL_law_1212 (fun v8 ev8 rv8 => ?_)
    have zv8 : v1 = v8 := ev1.trans ev8.symm
    subst zv8
    refine z_aload_n F dL_law_1213 rfl (q := 2) rfl ?_
    refine z_iload F dL_law_1214 (q := 1) rfl ?_
    refine z_iconst F dL_law_1216 ?_
    refine z_iadd F dL_law_1217 ?_
    refine z_sld F hX hbl hbA hL (by omega) (by omega) dL_law_1218 (fun v9 ev9 rv9 => ?_)
    have zv9 : v2 = v9 := ev2.trans ev9.symm
    subst zv9
    refine z_if_eq (tgt := 1226) F dL_law_1219 (by decide +kernel) (by omega) (fun c10 => ?_) (fun c10 => by exfalso; omega)
    refine z_iconst F dL_law_1226 ?_
    refine z_aload_n F dL_law_1227 rfl (q := 2) rfl ?_
    refine z_iload F dL_law_1228 (q := 1) rfl ?_
    refine z_iconst F dL_law_1230 ?_
    refine z_iadd F dL_law_1231 ?_
    refine z_sld F hX hbl hbA hL (by omega) (by omega) dL_law_1232 (fun v11 ev11 rv11 => ?_)
    have zv11 : v4 = v11 := ev4.trans ev11.symm
    subst zv11
    have hIp := hI
    refine zl_i (rest := []) F (k_X12_bestRow l M6 ⟨hI, hW⟩ v1 (by omega) (by omega) 0 (by omega) (by omega) v4 (by omega) (by omega)) cs_L_228 (T := TX12) (N := 44) (ci := 12) rfl gs_131 ⟨Nat.le_of_ble_eq_true rfl, Nat.le_of_ble_eq_true rfl⟩ ⟨show _ ≤ 601024 by omega, show _ ≤ 7293034 by omega⟩ rfl rfl rfl (Nat.le_of_ble_eq_true rfl) dL_law_1233 (fun v12 M13 rv12 hI p14 => ?_)
    obtain ⟨hI, hW⟩ := hI
    obtain ⟨⟨av12, bv12⟩, fp14⟩ := p14
    have tM13_0_1 : M13 0 1 = M6 0 1 := fp14.at (by decide)
    have tM13_131_6 : M13 131 6 = M6 131 6 := fp14.t6 (by decide)
    have hRG : RlG M13 := rg_fr hIp fp14 (by unfold No5; decide) (by unfold NoI No5; decide) (by unfold NoG; decide) hRG
    have hRT : RlT M13 := rl_fr fp14 (by decide) hRT
    have hRS : RlS M13 := rs_fr hIp fp14 (by decide) (by decide) (by decide) (by unfold No5; decide) (by unfold NoI No5; decide) hRS
    refine z_istore F dL_law_1236 (by decide) (ls' := [(6, ii v12), (5, ii v5), (4, ii y), (0, .ref b), (1, .ref (ad 0)), (2, .ref (ad 131)), (3, .ref (ad 151))]) rfl ?_
    refine z_goto (tgt := 1663) F dL_law_1238 (by decide +kernel) ?_
    refine z_iincN F dL_law_1663 (q := 2) rfl (by decide) (fun w e => ?_)
    subst e
    refine z_eq (ls' := [(4, ii (y + 6)), (6, ii v12), (5, ii v5), (0, .ref b), (1, .ref (ad 0)), (2, .ref (ad 131)), (3, .ref (ad 151))]) rfl rfl rfl ?_
    refine z_goto (tgt := 23) F dL_law_1666 (by decide +kernel) ?_
    refine z_loc [0, 3, 4, 5, 6] (ls' := [(4, ii (y + 6)), (0, .ref b), (1, .ref (ad 0)), (2, .ref (ad 131)), (3, .ref (ad 151))]) rfl ?_
    refine z_wide (n1 := nk + 6) (s1 := sk + 36) (by omega) (by omega) ?_
    exact ih _ ⟨hI, hW⟩ ⟨⟨hRT, hRS⟩, hRG⟩
  · refine z_iconst F dL_law_1189 ?_
    refine z_goto (tgt := 1194) F dL_law_1190 (by decide +kernel) ?_
    refine z_aload_n F dL_law_1194 rfl (q := 1) rfl ?_
    refine z_iload F dL_law_1195 (q := 0) rfl ?_
    refine z_iconst F dL_law_1197 ?_
    refine z_iadd F dL_law_1198 ?_
    refine z_sld F hX hbl hbA hL (by omega) (by omega) dL_law_1199 (fun v15 ev15 rv15 => ?_)
    refine z_aload_n F dL_law_1200 rfl (q := 4) rfl ?_
    have hIp := hI
    refine zh_i (rest := []) F (k_L_bestRow l hlT M ⟨hI, hW⟩ v1 (by omega) (by omega) 1 (by omega) (by omega) v15 (by omega) (by omega)) cs_L_225 ⟨Nat.le_of_ble_eq_true rfl, Nat.le_of_ble_eq_true rfl⟩ ⟨show _ ≤ 601024 by omega, show _ ≤ 7293034 by omega⟩ rfl rfl rfl (Nat.le_of_ble_eq_true rfl) dL_law_1201 (fun v16 M17 rv16 hI p18 => ?_)
    obtain ⟨hI, hW⟩ := hI
    obtain ⟨fp18, xp18⟩ := p18
    have tM17_0_1 : M17 0 1 = M 0 1 := fp18.at (by decide)
    have tM17_131_6 : M17 131 6 = M 131 6 := fp18.at (by decide)
    have hRG : RlG M17 := rg_fr hIp fp18 (by unfold No5; decide) (by unfold NoI No5; decide) (by unfold NoG; decide) hRG
    have hRT : RlT M17 := rl_fr fp18 (by decide) hRT
    have hRS : RlS M17 := rs_fr hIp fp18 (by decide) (by decide) (by decide) (by unfold No5; decide) (by unfold NoI No5; decide) hRS
    refine z_istore F dL_law_1204 (by decide) (ls' := [(5, ii v16), (4, ii y), (0, .ref b), (1, .ref (ad 0)), (2, .ref (ad 131)), (3, .ref (ad 151))]) rfl ?_
    refine z_aload_n F dL_law_1206 rfl (q := 4) rfl ?_
    refine z_aload_n F dL_law_1207 rfl (q := 2) rfl ?_
    refine z_iload F dL_law_1208 (q := 1) rfl ?_
    refine z_iconst F dL_law_1210 ?_
    refine z_iadd F dL_law_1211 ?_
    refine z_sld F hX hbl hbA hL (by omega) (by omega) dL_law_1212 (fun v19 ev19 rv19 => ?_)
    have zv19 : v1 = v19 := ev1.trans ev19.symm
    subst zv19
    refine z_aload_n F dL_law_1213 rfl (q := 2) rfl ?_
    refine z_iload F dL_law_1214 (q := 1) rfl ?_
    refine z_iconst F dL_law_1216 ?_
    refine z_iadd F dL_law_1217 ?_
    refine z_sld F hX hbl hbA hL (by omega) (by omega) dL_law_1218 (fun v20 ev20 rv20 => ?_)
    have zv20 : v2 = v20 := ev2.trans ev20.symm
    subst zv20
    refine z_if_eq (tgt := 1226) F dL_law_1219 (by decide +kernel) (by omega) (fun c21 => ?_) (fun c21 => ?_)
    · refine z_iconst F dL_law_1226 ?_
      refine z_aload_n F dL_law_1227 rfl (q := 2) rfl ?_
      refine z_iload F dL_law_1228 (q := 1) rfl ?_
      refine z_iconst F dL_law_1230 ?_
      refine z_iadd F dL_law_1231 ?_
      refine z_sld F hX hbl hbA hL (by omega) (by omega) dL_law_1232 (fun v22 ev22 rv22 => ?_)
      have zv22 : v15 = v22 := ev15.trans ev22.symm
      subst zv22
      have hIp := hI
      refine zl_i (rest := []) F (k_X12_bestRow l M17 ⟨hI, hW⟩ v1 (by omega) (by omega) 0 (by omega) (by omega) v15 (by omega) (by omega)) cs_L_228 (T := TX12) (N := 44) (ci := 12) rfl gs_131 ⟨Nat.le_of_ble_eq_true rfl, Nat.le_of_ble_eq_true rfl⟩ ⟨show _ ≤ 601024 by omega, show _ ≤ 7293034 by omega⟩ rfl rfl rfl (Nat.le_of_ble_eq_true rfl) dL_law_1233 (fun v23 M24 rv23 hI p25 => ?_)
      obtain ⟨hI, hW⟩ := hI
      obtain ⟨⟨av23, bv23⟩, fp25⟩ := p25
      have tM24_0_1 : M24 0 1 = M17 0 1 := fp25.at (by decide)
      have tM24_131_6 : M24 131 6 = M17 131 6 := fp25.t6 (by decide)
      have hRG : RlG M24 := rg_fr hIp fp25 (by unfold No5; decide) (by unfold NoI No5; decide) (by unfold NoG; decide) hRG
      have hRT : RlT M24 := rl_fr fp25 (by decide) hRT
      have hRS : RlS M24 := rs_fr hIp fp25 (by decide) (by decide) (by decide) (by unfold No5; decide) (by unfold NoI No5; decide) hRS
      refine z_istore F dL_law_1236 (by decide) (ls' := [(6, ii v23), (5, ii v16), (4, ii y), (0, .ref b), (1, .ref (ad 0)), (2, .ref (ad 131)), (3, .ref (ad 151))]) rfl ?_
      refine z_goto (tgt := 1663) F dL_law_1238 (by decide +kernel) ?_
      refine z_iincN F dL_law_1663 (q := 2) rfl (by decide) (fun w e => ?_)
      subst e
      refine z_eq (ls' := [(4, ii (y + 6)), (6, ii v23), (5, ii v16), (0, .ref b), (1, .ref (ad 0)), (2, .ref (ad 131)), (3, .ref (ad 151))]) rfl rfl rfl ?_
      refine z_goto (tgt := 23) F dL_law_1666 (by decide +kernel) ?_
      refine z_loc [0, 3, 4, 5, 6] (ls' := [(4, ii (y + 6)), (0, .ref b), (1, .ref (ad 0)), (2, .ref (ad 131)), (3, .ref (ad 151))]) rfl ?_
      refine z_wide (n1 := nk + 6) (s1 := sk + 36) (by omega) (by omega) ?_
      exact ih _ ⟨hI, hW⟩ ⟨⟨hRT, hRS⟩, hRG⟩
    · refine z_iconst F dL_law_1222 ?_
      refine z_goto (tgt := 1227) F dL_law_1223 (by decide +kernel) ?_
      refine z_aload_n F dL_law_1227 rfl (q := 2) rfl ?_
      refine z_iload F dL_law_1228 (q := 1) rfl ?_
      refine z_iconst F dL_law_1230 ?_
      refine z_iadd F dL_law_1231 ?_
      refine z_sld F hX hbl hbA hL (by omega) (by omega) dL_law_1232 (fun v26 ev26 rv26 => ?_)
      have zv26 : v15 = v26 := ev15.trans ev26.symm
      subst zv26
      have hIp := hI
      refine zl_i (rest := []) F (k_X12_bestRow l M17 ⟨hI, hW⟩ v1 (by omega) (by omega) 1 (by omega) (by omega) v15 (by omega) (by omega)) cs_L_228 (T := TX12) (N := 44) (ci := 12) rfl gs_131 ⟨Nat.le_of_ble_eq_true rfl, Nat.le_of_ble_eq_true rfl⟩ ⟨show _ ≤ 601024 by omega, show _ ≤ 7293034 by omega⟩ rfl rfl rfl (Nat.le_of_ble_eq_true rfl) dL_law_1233 (fun v27 M28 rv27 hI p29 => ?_)
      obtain ⟨hI, hW⟩ := hI
      obtain ⟨⟨av27, bv27⟩, fp29⟩ := p29
      have tM28_0_1 : M28 0 1 = M17 0 1 := fp29.at (by decide)
      have tM28_131_6 : M28 131 6 = M17 131 6 := fp29.t6 (by decide)
      have hRG : RlG M28 := rg_fr hIp fp29 (by unfold No5; decide) (by unfold NoI No5; decide) (by unfold NoG; decide) hRG
      have hRT : RlT M28 := rl_fr fp29 (by decide) hRT
      have hRS : RlS M28 := rs_fr hIp fp29 (by decide) (by decide) (by decide) (by unfold No5; decide) (by unfold NoI No5; decide) hRS
      refine z_istore F dL_law_1236 (by decide) (ls' := [(6, ii v27), (5, ii v16), (4, ii y), (0, .ref b), (1, .ref (ad 0)), (2, .ref (ad 131)), (3, .ref (ad 151))]) rfl ?_
      refine z_goto (tgt := 1663) F dL_law_1238 (by decide +kernel) ?_
      refine z_iincN F dL_law_1663 (q := 2) rfl (by decide) (fun w e => ?_)
      subst e
      refine z_eq (ls' := [(4, ii (y + 6)), (6, ii v27), (5, ii v16), (0, .ref b), (1, .ref (ad 0)), (2, .ref (ad 131)), (3, .ref (ad 151))]) rfl rfl rfl ?_
      refine z_goto (tgt := 23) F dL_law_1666 (by decide +kernel) ?_
      refine z_loc [0, 3, 4, 5, 6] (ls' := [(4, ii (y + 6)), (0, .ref b), (1, .ref (ad 0)), (2, .ref (ad 131)), (3, .ref (ad 151))]) rfl ?_
      refine z_wide (n1 := nk + 6) (s1 := sk + 36) (by omega) (by omega) ?_
      exact ih _ ⟨hI, hW⟩ ⟨⟨hRT, hRS⟩, hRG⟩
set_option maxRecDepth 4000 in
theorem law_c30 {p : Program} {l : Launch} {e : Env} {s : State} {m : MethodId} {below : List Frame} {meth : Method} {c : Code} {b L : Nat} {xs : Nat → Int32} {D : va_G} {cy : Nat → ClassId} {ad : Nat → Nat} {A : Nat → Prop} (hlT : l.stackTraces = false) (F : FxM D cy ad p m c cL_law 8 s #[Value.ref b] RL A) (hX : va_X b L xs s s.heap) (hbl : b < s.heap.size) (hbA : ¬ A b) (hL : L ≤ 3072) (y : Int) (hy0 : 0 ≤ y) (hy1 : y + 6 ≤ (L : Int)) (nk sk : Nat) (hnk : nk ≤ 9000 ∧ sk ≤ 90000) (M : Mem) (hJ : Iw M) (hR : RlD M ∧ RlG M) (ih : ∀ M' : Mem, Iw M' → (RlD M' ∧ RlG M') → Z D cy ad p l e room_1 s m #[Value.ref b] below meth c A 8 (nk + 6) (sk + 36) (lw_Z below #[Value.ref b] s) 23 [(4, ii (y + 6)), (0, .ref b), (1, .ref (ad 0)), (2, .ref (ad 131)), (3, .ref (ad 151))] [] M') : Z D cy ad p l e room_1 s m #[Value.ref b] below meth c A 8 nk sk (lw_Z below #[Value.ref b] s) 1241 [(4, ii y), (0, .ref b), (1, .ref (ad 0)), (2, .ref (ad 131)), (3, .ref (ad 151))] [] M := by
  obtain ⟨hI, hW⟩ := hJ
  have hRT := hR.1.1
  have hRS := hR.1.2
  have hRG := hR.2
  refine z_aload_n F dL_law_1241 rfl (q := 2) rfl ?_
  refine z_aload_n F dL_law_1242 rfl (q := 1) rfl ?_
  refine z_iload F dL_law_1243 (q := 0) rfl ?_
  refine z_iconst F dL_law_1245 ?_
  refine z_iadd F dL_law_1246 ?_
  refine z_sld F hX hbl hbA hL (by omega) (by omega) dL_law_1247 (fun v1 ev1 rv1 => ?_)
  refine z_aload_n F dL_law_1248 rfl (q := 1) rfl ?_
  refine z_iload F dL_law_1249 (q := 0) rfl ?_
  refine z_iconst F dL_law_1251 ?_
  refine z_iadd F dL_law_1252 ?_
  refine z_sld F hX hbl hbA hL (by omega) (by omega) dL_law_1253 (fun v2 ev2 rv2 => ?_)
  refine z_aload_n F dL_law_1254 rfl (q := 1) rfl ?_
  refine z_iload F dL_law_1255 (q := 0) rfl ?_
  refine z_iconst F dL_law_1257 ?_
  refine z_iadd F dL_law_1258 ?_
  refine z_sld F hX hbl hbA hL (by omega) (by omega) dL_law_1259 (fun v3 ev3 rv3 => ?_)
  refine z_aload_n F dL_law_1260 rfl (q := 4) rfl ?_
  have hIp := hI
  refine zh_i (rest := []) F (k_L_seats l hlT M ⟨hI, hW⟩ v1 (by omega) (by omega) v2 (by omega) (by omega) v3 (by omega) (by omega)) cs_L_229 ⟨Nat.le_of_ble_eq_true rfl, Nat.le_of_ble_eq_true rfl⟩ ⟨show _ ≤ 601024 by omega, show _ ≤ 7293034 by omega⟩ rfl rfl rfl (Nat.le_of_ble_eq_true rfl) dL_law_1261 (fun v4 M5 rv4 hI p6 => ?_)
  obtain ⟨hI, hW⟩ := hI
  obtain ⟨fp6, xp6⟩ := p6
  have tM5_0_1 : M5 0 1 = M 0 1 := fp6.at (by decide)
  have tM5_131_6 : M5 131 6 = M 131 6 := fp6.at (by decide)
  have hRG : RlG M5 := rg_fr hIp fp6 (by unfold No5; decide) (by unfold NoI No5; decide) (by unfold NoG; decide) hRG
  have hRT : RlT M5 := rl_fr fp6 (by decide) hRT
  have hRS : RlS M5 := rs_fr hIp fp6 (by decide) (by decide) (by decide) (by unfold No5; decide) (by unfold NoI No5; decide) hRS
  refine z_istore F dL_law_1264 (by decide) (ls' := [(5, ii v4), (4, ii y), (0, .ref b), (1, .ref (ad 0)), (2, .ref (ad 131)), (3, .ref (ad 151))]) rfl ?_
  refine z_aload_n F dL_law_1266 rfl (q := 4) rfl ?_
  refine z_aload_n F dL_law_1267 rfl (q := 2) rfl ?_
  refine z_iload F dL_law_1268 (q := 1) rfl ?_
  refine z_iconst F dL_law_1270 ?_
  refine z_iadd F dL_law_1271 ?_
  refine z_sld F hX hbl hbA hL (by omega) (by omega) dL_law_1272 (fun v7 ev7 rv7 => ?_)
  have zv7 : v1 = v7 := ev1.trans ev7.symm
  subst zv7
  refine z_aload_n F dL_law_1273 rfl (q := 2) rfl ?_
  refine z_iload F dL_law_1274 (q := 1) rfl ?_
  refine z_iconst F dL_law_1276 ?_
  refine z_iadd F dL_law_1277 ?_
  refine z_sld F hX hbl hbA hL (by omega) (by omega) dL_law_1278 (fun v8 ev8 rv8 => ?_)
  have zv8 : v2 = v8 := ev2.trans ev8.symm
  subst zv8
  refine z_aload_n F dL_law_1279 rfl (q := 2) rfl ?_
  refine z_iload F dL_law_1280 (q := 1) rfl ?_
  refine z_iconst F dL_law_1282 ?_
  refine z_iadd F dL_law_1283 ?_
  refine z_sld F hX hbl hbA hL (by omega) (by omega) dL_law_1284 (fun v9 ev9 rv9 => ?_)
  have zv9 : v3 = v9 := ev3.trans ev9.symm
  subst zv9
  have hIp := hI
  refine zl_i (rest := []) F (k_X12_seats l M5 ⟨hI, hW⟩ v1 (by omega) (by omega) v2 (by omega) (by omega) v3 (by omega) (by omega)) cs_L_232 (T := TX12) (N := 44) (ci := 12) rfl gs_131 ⟨Nat.le_of_ble_eq_true rfl, Nat.le_of_ble_eq_true rfl⟩ ⟨show _ ≤ 601024 by omega, show _ ≤ 7293034 by omega⟩ rfl rfl rfl (Nat.le_of_ble_eq_true rfl) dL_law_1285 (fun v10 M11 rv10 hI p12 => ?_)
  obtain ⟨hI, hW⟩ := hI
  obtain ⟨⟨av10, bv10⟩, fp12⟩ := p12
  have tM11_0_1 : M11 0 1 = M5 0 1 := fp12.at (by decide)
  have tM11_131_6 : M11 131 6 = M5 131 6 := fp12.t6 (by decide)
  have hRG : RlG M11 := rg_fr hIp fp12 (by unfold No5; decide) (by unfold NoI No5; decide) (by unfold NoG; decide) hRG
  have hRT : RlT M11 := rl_fr fp12 (by decide) hRT
  have hRS : RlS M11 := rs_fr hIp fp12 (by decide) (by decide) (by decide) (by unfold No5; decide) (by unfold NoI No5; decide) hRS
  refine z_istore F dL_law_1288 (by decide) (ls' := [(6, ii v10), (5, ii v4), (4, ii y), (0, .ref b), (1, .ref (ad 0)), (2, .ref (ad 131)), (3, .ref (ad 151))]) rfl ?_
  refine z_goto (tgt := 1663) F dL_law_1290 (by decide +kernel) ?_
  refine z_iincN F dL_law_1663 (q := 2) rfl (by decide) (fun w e => ?_)
  subst e
  refine z_eq (ls' := [(4, ii (y + 6)), (6, ii v10), (5, ii v4), (0, .ref b), (1, .ref (ad 0)), (2, .ref (ad 131)), (3, .ref (ad 151))]) rfl rfl rfl ?_
  refine z_goto (tgt := 23) F dL_law_1666 (by decide +kernel) ?_
  refine z_loc [0, 3, 4, 5, 6] (ls' := [(4, ii (y + 6)), (0, .ref b), (1, .ref (ad 0)), (2, .ref (ad 131)), (3, .ref (ad 151))]) rfl ?_
  refine z_wide (n1 := nk + 6) (s1 := sk + 36) (by omega) (by omega) ?_
  exact ih _ ⟨hI, hW⟩ ⟨⟨hRT, hRS⟩, hRG⟩
set_option maxRecDepth 4000 in
theorem law_c31 {p : Program} {l : Launch} {e : Env} {s : State} {m : MethodId} {below : List Frame} {meth : Method} {c : Code} {b L : Nat} {xs : Nat → Int32} {D : va_G} {cy : Nat → ClassId} {ad : Nat → Nat} {A : Nat → Prop} (hlT : l.stackTraces = false) (F : FxM D cy ad p m c cL_law 8 s #[Value.ref b] RL A) (hX : va_X b L xs s s.heap) (hbl : b < s.heap.size) (hbA : ¬ A b) (hL : L ≤ 3072) (y : Int) (hy0 : 0 ≤ y) (hy1 : y + 6 ≤ (L : Int)) (nk sk : Nat) (hnk : nk ≤ 9000 ∧ sk ≤ 90000) (M : Mem) (hJ : Iw M) (hR : RlD M ∧ RlG M) (ih : ∀ M' : Mem, Iw M' → (RlD M' ∧ RlG M') → Z D cy ad p l e room_1 s m #[Value.ref b] below meth c A 8 (nk + 6) (sk + 36) (lw_Z below #[Value.ref b] s) 23 [(4, ii (y + 6)), (0, .ref b), (1, .ref (ad 0)), (2, .ref (ad 131)), (3, .ref (ad 151))] [] M') : Z D cy ad p l e room_1 s m #[Value.ref b] below meth c A 8 nk sk (lw_Z below #[Value.ref b] s) 1293 [(4, ii y), (0, .ref b), (1, .ref (ad 0)), (2, .ref (ad 131)), (3, .ref (ad 151))] [] M := by
  obtain ⟨hI, hW⟩ := hJ
  have hRT := hR.1.1
  have hRS := hR.1.2
  have hRG := hR.2
  refine z_aload_n F dL_law_1293 rfl (q := 2) rfl ?_
  refine z_aload_n F dL_law_1294 rfl (q := 1) rfl ?_
  refine z_iload F dL_law_1295 (q := 0) rfl ?_
  refine z_iconst F dL_law_1297 ?_
  refine z_iadd F dL_law_1298 ?_
  refine z_sld F hX hbl hbA hL (by omega) (by omega) dL_law_1299 (fun v1 ev1 rv1 => ?_)
  refine z_aload_n F dL_law_1300 rfl (q := 1) rfl ?_
  refine z_iload F dL_law_1301 (q := 0) rfl ?_
  refine z_iconst F dL_law_1303 ?_
  refine z_iadd F dL_law_1304 ?_
  refine z_sld F hX hbl hbA hL (by omega) (by omega) dL_law_1305 (fun v2 ev2 rv2 => ?_)
  refine z_aload_n F dL_law_1306 rfl (q := 4) rfl ?_
  have hIp := hI
  refine zh_i (rest := []) F (k_L_pleasure l hlT M ⟨hI, hW⟩ v1 (by omega) (by omega) v2 (by omega) (by omega)) cs_L_233 ⟨Nat.le_of_ble_eq_true rfl, Nat.le_of_ble_eq_true rfl⟩ ⟨show _ ≤ 601024 by omega, show _ ≤ 7293034 by omega⟩ rfl rfl rfl (Nat.le_of_ble_eq_true rfl) dL_law_1307 (fun v3 M4 rv3 hI p5 => ?_)
  obtain ⟨hI, hW⟩ := hI
  obtain ⟨fp5, xp5⟩ := p5
  have tM4_0_1 : M4 0 1 = M 0 1 := fp5.at (by decide)
  have tM4_131_6 : M4 131 6 = M 131 6 := fp5.at (by decide)
  have hRG : RlG M4 := rg_fr hIp fp5 (by unfold No5; decide) (by unfold NoI No5; decide) (by unfold NoG; decide) hRG
  have hRT : RlT M4 := rl_fr fp5 (by decide) hRT
  have hRS : RlS M4 := rs_fr hIp fp5 (by decide) (by decide) (by decide) (by unfold No5; decide) (by unfold NoI No5; decide) hRS
  refine z_istore F dL_law_1310 (by decide) (ls' := [(5, ii v3), (4, ii y), (0, .ref b), (1, .ref (ad 0)), (2, .ref (ad 131)), (3, .ref (ad 151))]) rfl ?_
  refine z_aload_n F dL_law_1312 rfl (q := 4) rfl ?_
  refine z_aload_n F dL_law_1313 rfl (q := 2) rfl ?_
  refine z_iload F dL_law_1314 (q := 1) rfl ?_
  refine z_iconst F dL_law_1316 ?_
  refine z_iadd F dL_law_1317 ?_
  refine z_sld F hX hbl hbA hL (by omega) (by omega) dL_law_1318 (fun v6 ev6 rv6 => ?_)
  have zv6 : v1 = v6 := ev1.trans ev6.symm
  subst zv6
  refine z_aload_n F dL_law_1319 rfl (q := 2) rfl ?_
  refine z_iload F dL_law_1320 (q := 1) rfl ?_
  refine z_iconst F dL_law_1322 ?_
  refine z_iadd F dL_law_1323 ?_
  refine z_sld F hX hbl hbA hL (by omega) (by omega) dL_law_1324 (fun v7 ev7 rv7 => ?_)
  have zv7 : v2 = v7 := ev2.trans ev7.symm
  subst zv7
  have hIp := hI
  refine zl_i (rest := []) F (k_X12_pleasure l M4 ⟨hI, hW⟩ v1 (by omega) (by omega) v2 (by omega) (by omega)) cs_L_235 (T := TX12) (N := 44) (ci := 12) rfl gs_131 ⟨Nat.le_of_ble_eq_true rfl, Nat.le_of_ble_eq_true rfl⟩ ⟨show _ ≤ 601024 by omega, show _ ≤ 7293034 by omega⟩ rfl rfl rfl (Nat.le_of_ble_eq_true rfl) dL_law_1325 (fun v8 M9 rv8 hI p10 => ?_)
  obtain ⟨hI, hW⟩ := hI
  obtain ⟨⟨av8, bv8⟩, fp10⟩ := p10
  have tM9_0_1 : M9 0 1 = M4 0 1 := fp10.at (by decide)
  have tM9_131_6 : M9 131 6 = M4 131 6 := fp10.t6 (by decide)
  have hRG : RlG M9 := rg_fr hIp fp10 (by unfold No5; decide) (by unfold NoI No5; decide) (by unfold NoG; decide) hRG
  have hRT : RlT M9 := rl_fr fp10 (by decide) hRT
  have hRS : RlS M9 := rs_fr hIp fp10 (by decide) (by decide) (by decide) (by unfold No5; decide) (by unfold NoI No5; decide) hRS
  refine z_istore F dL_law_1328 (by decide) (ls' := [(6, ii v8), (5, ii v3), (4, ii y), (0, .ref b), (1, .ref (ad 0)), (2, .ref (ad 131)), (3, .ref (ad 151))]) rfl ?_
  refine z_goto (tgt := 1663) F dL_law_1330 (by decide +kernel) ?_
  refine z_iincN F dL_law_1663 (q := 2) rfl (by decide) (fun w e => ?_)
  subst e
  refine z_eq (ls' := [(4, ii (y + 6)), (6, ii v8), (5, ii v3), (0, .ref b), (1, .ref (ad 0)), (2, .ref (ad 131)), (3, .ref (ad 151))]) rfl rfl rfl ?_
  refine z_goto (tgt := 23) F dL_law_1666 (by decide +kernel) ?_
  refine z_loc [0, 3, 4, 5, 6] (ls' := [(4, ii (y + 6)), (0, .ref b), (1, .ref (ad 0)), (2, .ref (ad 131)), (3, .ref (ad 151))]) rfl ?_
  refine z_wide (n1 := nk + 6) (s1 := sk + 36) (by omega) (by omega) ?_
  exact ih _ ⟨hI, hW⟩ ⟨⟨hRT, hRS⟩, hRG⟩
set_option maxRecDepth 4000 in
theorem law_c32 {p : Program} {l : Launch} {e : Env} {s : State} {m : MethodId} {below : List Frame} {meth : Method} {c : Code} {b L : Nat} {xs : Nat → Int32} {D : va_G} {cy : Nat → ClassId} {ad : Nat → Nat} {A : Nat → Prop} (hlT : l.stackTraces = false) (F : FxM D cy ad p m c cL_law 8 s #[Value.ref b] RL A) (hX : va_X b L xs s s.heap) (hbl : b < s.heap.size) (hbA : ¬ A b) (hL : L ≤ 3072) (y : Int) (hy0 : 0 ≤ y) (hy1 : y + 6 ≤ (L : Int)) (nk sk : Nat) (hnk : nk ≤ 9000 ∧ sk ≤ 90000) (M : Mem) (hJ : Iw M) (hR : RlD M ∧ RlG M) (ih : ∀ M' : Mem, Iw M' → (RlD M' ∧ RlG M') → Z D cy ad p l e room_1 s m #[Value.ref b] below meth c A 8 (nk + 6) (sk + 36) (lw_Z below #[Value.ref b] s) 23 [(4, ii (y + 6)), (0, .ref b), (1, .ref (ad 0)), (2, .ref (ad 131)), (3, .ref (ad 151))] [] M') : Z D cy ad p l e room_1 s m #[Value.ref b] below meth c A 8 nk sk (lw_Z below #[Value.ref b] s) 1333 [(4, ii y), (0, .ref b), (1, .ref (ad 0)), (2, .ref (ad 131)), (3, .ref (ad 151))] [] M := by
  obtain ⟨hI, hW⟩ := hJ
  have hRT := hR.1.1
  have hRS := hR.1.2
  have hRG := hR.2
  refine z_aload_n F dL_law_1333 rfl (q := 2) rfl ?_
  have hIp := hI
  refine zl_i (rest := []) F (k_X11_atRest l M ⟨hI, hW⟩) cs_L_236 (T := TX11) (N := 14) (ci := 11) rfl gs_0 ⟨Nat.le_of_ble_eq_true rfl, Nat.le_of_ble_eq_true rfl⟩ ⟨show _ ≤ 601024 by omega, show _ ≤ 7293034 by omega⟩ rfl rfl rfl (Nat.le_of_ble_eq_true rfl) dL_law_1334 (fun v1 M2 rv1 hI p3 => ?_)
  obtain ⟨hI, hW⟩ := hI
  obtain ⟨⟨av1, bv1⟩, rfl⟩ := p3
  refine z_pop F dL_law_1337 rfl ?_
  refine z_aload_n F dL_law_1338 rfl (q := 3) rfl ?_
  have hIp := hI
  refine zl_i (rest := []) F (k_X12_atRest l M ⟨hI, hW⟩) cs_L_240 (T := TX12) (N := 44) (ci := 12) rfl gs_131 ⟨Nat.le_of_ble_eq_true rfl, Nat.le_of_ble_eq_true rfl⟩ ⟨show _ ≤ 601024 by omega, show _ ≤ 7293034 by omega⟩ rfl rfl rfl (Nat.le_of_ble_eq_true rfl) dL_law_1339 (fun v4 M5 rv4 hI p6 => ?_)
  obtain ⟨hI, hW⟩ := hI
  obtain ⟨⟨av4, bv4⟩, fp6⟩ := p6
  have tM5_0_1 : M5 0 1 = M 0 1 := fp6.at (by decide)
  have tM5_131_6 : M5 131 6 = M 131 6 := fp6.t6 (by decide)
  have hRG : RlG M5 := rg_fr hIp fp6 (by unfold No5; decide) (by unfold NoI No5; decide) (by unfold NoG; decide) hRG
  have hRT : RlT M5 := rl_fr fp6 (by decide) hRT
  have hRS : RlS M5 := rs_fr hIp fp6 (by decide) (by decide) (by decide) (by unfold No5; decide) (by unfold NoI No5; decide) hRS
  refine z_pop F dL_law_1342 rfl ?_
  refine z_goto (tgt := 1663) F dL_law_1343 (by decide +kernel) ?_
  refine z_iincN F dL_law_1663 (q := 0) rfl (by decide) (fun w e => ?_)
  subst e
  refine z_eq (ls' := [(4, ii (y + 6)), (0, .ref b), (1, .ref (ad 0)), (2, .ref (ad 131)), (3, .ref (ad 151))]) rfl rfl rfl ?_
  refine z_goto (tgt := 23) F dL_law_1666 (by decide +kernel) ?_
  refine z_loc [0, 1, 2, 3, 4] (ls' := [(4, ii (y + 6)), (0, .ref b), (1, .ref (ad 0)), (2, .ref (ad 131)), (3, .ref (ad 151))]) rfl ?_
  refine z_wide (n1 := nk + 6) (s1 := sk + 36) (by omega) (by omega) ?_
  exact ih _ ⟨hI, hW⟩ ⟨⟨hRT, hRS⟩, hRG⟩
set_option maxRecDepth 4000 in
theorem law_c33 {p : Program} {l : Launch} {e : Env} {s : State} {m : MethodId} {below : List Frame} {meth : Method} {c : Code} {b L : Nat} {xs : Nat → Int32} {D : va_G} {cy : Nat → ClassId} {ad : Nat → Nat} {A : Nat → Prop} (hlT : l.stackTraces = false) (F : FxM D cy ad p m c cL_law 8 s #[Value.ref b] RL A) (hX : va_X b L xs s s.heap) (hbl : b < s.heap.size) (hbA : ¬ A b) (hL : L ≤ 3072) (y : Int) (hy0 : 0 ≤ y) (hy1 : y + 6 ≤ (L : Int)) (nk sk : Nat) (hnk : nk ≤ 9000 ∧ sk ≤ 90000) (M : Mem) (hJ : Iw M) (hR : RlD M ∧ RlG M) (ih : ∀ M' : Mem, Iw M' → (RlD M' ∧ RlG M') → Z D cy ad p l e room_1 s m #[Value.ref b] below meth c A 8 (nk + 6) (sk + 36) (lw_Z below #[Value.ref b] s) 23 [(4, ii (y + 6)), (0, .ref b), (1, .ref (ad 0)), (2, .ref (ad 131)), (3, .ref (ad 151))] [] M') : Z D cy ad p l e room_1 s m #[Value.ref b] below meth c A 8 nk sk (lw_Z below #[Value.ref b] s) 1346 [(4, ii y), (0, .ref b), (1, .ref (ad 0)), (2, .ref (ad 131)), (3, .ref (ad 151))] [] M := by
  obtain ⟨hI, hW⟩ := hJ
  have hRT := hR.1.1
  have hRS := hR.1.2
  have hRG := hR.2
  refine z_aload_n F dL_law_1346 rfl (q := 2) rfl ?_
  have hIp := hI
  refine zl_i (rest := []) F (k_X11_drift l M ⟨hI, hW⟩) cs_L_241 (T := TX11) (N := 14) (ci := 11) rfl gs_0 ⟨Nat.le_of_ble_eq_true rfl, Nat.le_of_ble_eq_true rfl⟩ ⟨show _ ≤ 601024 by omega, show _ ≤ 7293034 by omega⟩ rfl rfl rfl (Nat.le_of_ble_eq_true rfl) dL_law_1347 (fun v1 M2 rv1 hI p3 => ?_)
  obtain ⟨hI, hW⟩ := hI
  obtain ⟨⟨av1, bv1⟩, fp3⟩ := p3
  have tM2_0_1 : M2 0 1 = M 0 1 := fp3.at (by decide)
  have tM2_131_6 : M2 131 6 = M 131 6 := fp3.at (by decide)
  have hRG : RlG M2 := rg_fr hIp fp3 (by unfold No5; decide) (by unfold NoI No5; decide) (by unfold NoG; decide) hRG
  have hRT : RlT M2 := rl_fr fp3 (by decide) hRT
  have hRS : RlS M2 := rs_fr hIp fp3 (by decide) (by decide) (by decide) (by unfold No5; decide) (by unfold NoI No5; decide) hRS
  refine z_pop F dL_law_1350 rfl ?_
  refine z_aload_n F dL_law_1351 rfl (q := 3) rfl ?_
  have hIp := hI
  refine zl_i (rest := []) F (k_X12_drift l M2 ⟨hI, hW⟩) cs_L_244 (T := TX12) (N := 44) (ci := 12) rfl gs_131 ⟨Nat.le_of_ble_eq_true rfl, Nat.le_of_ble_eq_true rfl⟩ ⟨show _ ≤ 601024 by omega, show _ ≤ 7293034 by omega⟩ rfl rfl rfl (Nat.le_of_ble_eq_true rfl) dL_law_1352 (fun v4 M5 rv4 hI p6 => ?_)
  obtain ⟨hI, hW⟩ := hI
  obtain ⟨⟨av4, bv4⟩, fp6⟩ := p6
  have tM5_0_1 : M5 0 1 = M2 0 1 := fp6.at (by decide)
  have tM5_131_6 : M5 131 6 = M2 131 6 := fp6.t6 (by decide)
  have hRG : RlG M5 := rg_fr hIp fp6 (by unfold No5; decide) (by unfold NoI No5; decide) (by unfold NoG; decide) hRG
  have hRT : RlT M5 := rl_fr fp6 (by decide) hRT
  have hRS : RlS M5 := rs_fr hIp fp6 (by decide) (by decide) (by decide) (by unfold No5; decide) (by unfold NoI No5; decide) hRS
  refine z_pop F dL_law_1355 rfl ?_
  refine z_goto (tgt := 1663) F dL_law_1356 (by decide +kernel) ?_
  refine z_iincN F dL_law_1663 (q := 0) rfl (by decide) (fun w e => ?_)
  subst e
  refine z_eq (ls' := [(4, ii (y + 6)), (0, .ref b), (1, .ref (ad 0)), (2, .ref (ad 131)), (3, .ref (ad 151))]) rfl rfl rfl ?_
  refine z_goto (tgt := 23) F dL_law_1666 (by decide +kernel) ?_
  refine z_loc [0, 1, 2, 3, 4] (ls' := [(4, ii (y + 6)), (0, .ref b), (1, .ref (ad 0)), (2, .ref (ad 131)), (3, .ref (ad 151))]) rfl ?_
  refine z_wide (n1 := nk + 6) (s1 := sk + 36) (by omega) (by omega) ?_
  exact ih _ ⟨hI, hW⟩ ⟨⟨hRT, hRS⟩, hRG⟩
set_option maxRecDepth 4000 in
theorem law_c34 {p : Program} {l : Launch} {e : Env} {s : State} {m : MethodId} {below : List Frame} {meth : Method} {c : Code} {b L : Nat} {xs : Nat → Int32} {D : va_G} {cy : Nat → ClassId} {ad : Nat → Nat} {A : Nat → Prop} (hlT : l.stackTraces = false) (F : FxM D cy ad p m c cL_law 8 s #[Value.ref b] RL A) (hX : va_X b L xs s s.heap) (hbl : b < s.heap.size) (hbA : ¬ A b) (hL : L ≤ 3072) (y : Int) (hy0 : 0 ≤ y) (hy1 : y + 6 ≤ (L : Int)) (nk sk : Nat) (hnk : nk ≤ 9000 ∧ sk ≤ 90000) (M : Mem) (hJ : Iw M) (hR : RlD M ∧ RlG M) (ih : ∀ M' : Mem, Iw M' → (RlD M' ∧ RlG M') → Z D cy ad p l e room_1 s m #[Value.ref b] below meth c A 8 (nk + 6) (sk + 36) (lw_Z below #[Value.ref b] s) 23 [(4, ii (y + 6)), (0, .ref b), (1, .ref (ad 0)), (2, .ref (ad 131)), (3, .ref (ad 151))] [] M') : Z D cy ad p l e room_1 s m #[Value.ref b] below meth c A 8 nk sk (lw_Z below #[Value.ref b] s) 1359 [(4, ii y), (0, .ref b), (1, .ref (ad 0)), (2, .ref (ad 131)), (3, .ref (ad 151))] [] M := by
  obtain ⟨hI, hW⟩ := hJ
  have hRT := hR.1.1
  have hRS := hR.1.2
  have hRG := hR.2
  refine z_aload_n F dL_law_1359 rfl (q := 2) rfl ?_
  refine z_aload_n F dL_law_1360 rfl (q := 1) rfl ?_
  refine z_iload F dL_law_1361 (q := 0) rfl ?_
  refine z_iconst F dL_law_1363 ?_
  refine z_iadd F dL_law_1364 ?_
  refine z_sld F hX hbl hbA hL (by omega) (by omega) dL_law_1365 (fun v1 ev1 rv1 => ?_)
  refine z_aload_n F dL_law_1366 rfl (q := 4) rfl ?_
  have hIp := hI
  refine zh_i (rest := []) F (k_L_seen l hlT M ⟨hI, hW⟩ v1 (by omega) (by omega)) cs_L_245 ⟨Nat.le_of_ble_eq_true rfl, Nat.le_of_ble_eq_true rfl⟩ ⟨show _ ≤ 601024 by omega, show _ ≤ 7293034 by omega⟩ rfl rfl rfl (Nat.le_of_ble_eq_true rfl) dL_law_1367 (fun v2 M3 rv2 hI p4 => ?_)
  obtain ⟨hI, hW⟩ := hI
  obtain ⟨fp4, xp4⟩ := p4
  have tM3_0_1 : M3 0 1 = M 0 1 := fp4.at (by decide)
  have tM3_131_6 : M3 131 6 = M 131 6 := fp4.at (by decide)
  have hRG : RlG M3 := rg_fr hIp fp4 (by unfold No5; decide) (by unfold NoI No5; decide) (by unfold NoG; decide) hRG
  have hRT : RlT M3 := rl_fr fp4 (by decide) hRT
  have hRS : RlS M3 := rs_fr hIp fp4 (by decide) (by decide) (by decide) (by unfold No5; decide) (by unfold NoI No5; decide) hRS
  refine z_istore F dL_law_1370 (by decide) (ls' := [(5, ii v2), (4, ii y), (0, .ref b), (1, .ref (ad 0)), (2, .ref (ad 131)), (3, .ref (ad 151))]) rfl ?_
  refine z_aload_n F dL_law_1372 rfl (q := 4) rfl ?_
  refine z_aload_n F dL_law_1373 rfl (q := 2) rfl ?_
  refine z_iload F dL_law_1374 (q := 1) rfl ?_
  refine z_iconst F dL_law_1376 ?_
  refine z_iadd F dL_law_1377 ?_
  refine z_sld F hX hbl hbA hL (by omega) (by omega) dL_law_1378 (fun v5 ev5 rv5 => ?_)
  have zv5 : v1 = v5 := ev1.trans ev5.symm
  subst zv5
  have hIp := hI
  refine zl_i (rest := []) F (k_X12_seen l M3 ⟨hI, hW⟩ v1 (by omega) (by omega)) cs_L_247 (T := TX12) (N := 44) (ci := 12) rfl gs_131 ⟨Nat.le_of_ble_eq_true rfl, Nat.le_of_ble_eq_true rfl⟩ ⟨show _ ≤ 601024 by omega, show _ ≤ 7293034 by omega⟩ rfl rfl rfl (Nat.le_of_ble_eq_true rfl) dL_law_1379 (fun v6 M7 rv6 hI p8 => ?_)
  obtain ⟨hI, hW⟩ := hI
  obtain ⟨⟨av6, bv6⟩, fp8⟩ := p8
  have tM7_0_1 : M7 0 1 = M3 0 1 := fp8.at (by decide)
  have tM7_131_6 : M7 131 6 = M3 131 6 := fp8.t6 (by decide)
  have hRG : RlG M7 := rg_fr hIp fp8 (by unfold No5; decide) (by unfold NoI No5; decide) (by unfold NoG; decide) hRG
  have hRT : RlT M7 := rl_fr fp8 (by decide) hRT
  have hRS : RlS M7 := rs_fr hIp fp8 (by decide) (by decide) (by decide) (by unfold No5; decide) (by unfold NoI No5; decide) hRS
  refine z_istore F dL_law_1382 (by decide) (ls' := [(6, ii v6), (5, ii v2), (4, ii y), (0, .ref b), (1, .ref (ad 0)), (2, .ref (ad 131)), (3, .ref (ad 151))]) rfl ?_
  refine z_goto (tgt := 1663) F dL_law_1384 (by decide +kernel) ?_
  refine z_iincN F dL_law_1663 (q := 2) rfl (by decide) (fun w e => ?_)
  subst e
  refine z_eq (ls' := [(4, ii (y + 6)), (6, ii v6), (5, ii v2), (0, .ref b), (1, .ref (ad 0)), (2, .ref (ad 131)), (3, .ref (ad 151))]) rfl rfl rfl ?_
  refine z_goto (tgt := 23) F dL_law_1666 (by decide +kernel) ?_
  refine z_loc [0, 3, 4, 5, 6] (ls' := [(4, ii (y + 6)), (0, .ref b), (1, .ref (ad 0)), (2, .ref (ad 131)), (3, .ref (ad 151))]) rfl ?_
  refine z_wide (n1 := nk + 6) (s1 := sk + 36) (by omega) (by omega) ?_
  exact ih _ ⟨hI, hW⟩ ⟨⟨hRT, hRS⟩, hRG⟩
set_option maxRecDepth 4000 in
theorem law_c35 {p : Program} {l : Launch} {e : Env} {s : State} {m : MethodId} {below : List Frame} {meth : Method} {c : Code} {b L : Nat} {xs : Nat → Int32} {D : va_G} {cy : Nat → ClassId} {ad : Nat → Nat} {A : Nat → Prop} (hlT : l.stackTraces = false) (F : FxM D cy ad p m c cL_law 8 s #[Value.ref b] RL A) (hX : va_X b L xs s s.heap) (hbl : b < s.heap.size) (hbA : ¬ A b) (hL : L ≤ 3072) (y : Int) (hy0 : 0 ≤ y) (hy1 : y + 6 ≤ (L : Int)) (nk sk : Nat) (hnk : nk ≤ 9000 ∧ sk ≤ 90000) (M : Mem) (hJ : Iw M) (hR : RlD M ∧ RlG M) (ih : ∀ M' : Mem, Iw M' → (RlD M' ∧ RlG M') → Z D cy ad p l e room_1 s m #[Value.ref b] below meth c A 8 (nk + 6) (sk + 36) (lw_Z below #[Value.ref b] s) 23 [(4, ii (y + 6)), (0, .ref b), (1, .ref (ad 0)), (2, .ref (ad 131)), (3, .ref (ad 151))] [] M') : Z D cy ad p l e room_1 s m #[Value.ref b] below meth c A 8 nk sk (lw_Z below #[Value.ref b] s) 1387 [(4, ii y), (0, .ref b), (1, .ref (ad 0)), (2, .ref (ad 131)), (3, .ref (ad 151))] [] M := by
  obtain ⟨hI, hW⟩ := hJ
  have hRT := hR.1.1
  have hRS := hR.1.2
  have hRG := hR.2
  refine z_aload_n F dL_law_1387 rfl (q := 2) rfl ?_
  refine z_aload_n F dL_law_1388 rfl (q := 1) rfl ?_
  refine z_iload F dL_law_1389 (q := 0) rfl ?_
  refine z_iconst F dL_law_1391 ?_
  refine z_iadd F dL_law_1392 ?_
  refine z_sld F hX hbl hbA hL (by omega) (by omega) dL_law_1393 (fun v1 ev1 rv1 => ?_)
  refine z_aload_n F dL_law_1394 rfl (q := 1) rfl ?_
  refine z_iload F dL_law_1395 (q := 0) rfl ?_
  refine z_iconst F dL_law_1397 ?_
  refine z_iadd F dL_law_1398 ?_
  refine z_sld F hX hbl hbA hL (by omega) (by omega) dL_law_1399 (fun v2 ev2 rv2 => ?_)
  refine z_aload_n F dL_law_1400 rfl (q := 4) rfl ?_
  have hIp := hI
  refine zh_i (rest := []) F (k_L_sure l hlT M ⟨hI, hW⟩ v1 (by omega) (by omega) v2 (by omega) (by omega)) cs_L_248 ⟨Nat.le_of_ble_eq_true rfl, Nat.le_of_ble_eq_true rfl⟩ ⟨show _ ≤ 601024 by omega, show _ ≤ 7293034 by omega⟩ rfl rfl rfl (Nat.le_of_ble_eq_true rfl) dL_law_1401 (fun v3 M4 rv3 hI p5 => ?_)
  obtain ⟨hI, hW⟩ := hI
  obtain ⟨fp5, xp5⟩ := p5
  have tM4_0_1 : M4 0 1 = M 0 1 := fp5.at (by decide)
  have tM4_131_6 : M4 131 6 = M 131 6 := fp5.at (by decide)
  have hRG : RlG M4 := rg_fr hIp fp5 (by unfold No5; decide) (by unfold NoI No5; decide) (by unfold NoG; decide) hRG
  have hRT : RlT M4 := rl_fr fp5 (by decide) hRT
  have hRS : RlS M4 := rs_fr hIp fp5 (by decide) (by decide) (by decide) (by unfold No5; decide) (by unfold NoI No5; decide) hRS
  refine z_istore F dL_law_1404 (by decide) (ls' := [(5, ii v3), (4, ii y), (0, .ref b), (1, .ref (ad 0)), (2, .ref (ad 131)), (3, .ref (ad 151))]) rfl ?_
  refine z_aload_n F dL_law_1406 rfl (q := 4) rfl ?_
  refine z_aload_n F dL_law_1407 rfl (q := 2) rfl ?_
  refine z_iload F dL_law_1408 (q := 1) rfl ?_
  refine z_iconst F dL_law_1410 ?_
  refine z_iadd F dL_law_1411 ?_
  refine z_sld F hX hbl hbA hL (by omega) (by omega) dL_law_1412 (fun v6 ev6 rv6 => ?_)
  have zv6 : v1 = v6 := ev1.trans ev6.symm
  subst zv6
  refine z_aload_n F dL_law_1413 rfl (q := 2) rfl ?_
  refine z_iload F dL_law_1414 (q := 1) rfl ?_
  refine z_iconst F dL_law_1416 ?_
  refine z_iadd F dL_law_1417 ?_
  refine z_sld F hX hbl hbA hL (by omega) (by omega) dL_law_1418 (fun v7 ev7 rv7 => ?_)
  have zv7 : v2 = v7 := ev2.trans ev7.symm
  subst zv7
  have hIp := hI
  refine zl_i (rest := []) F (k_X12_sure l M4 ⟨hI, hW⟩ v1 (by omega) (by omega) v2 (by omega) (by omega)) cs_L_250 (T := TX12) (N := 44) (ci := 12) rfl gs_131 ⟨Nat.le_of_ble_eq_true rfl, Nat.le_of_ble_eq_true rfl⟩ ⟨show _ ≤ 601024 by omega, show _ ≤ 7293034 by omega⟩ rfl rfl rfl (Nat.le_of_ble_eq_true rfl) dL_law_1419 (fun v8 M9 rv8 hI p10 => ?_)
  obtain ⟨hI, hW⟩ := hI
  obtain ⟨⟨av8, bv8⟩, fp10⟩ := p10
  have tM9_0_1 : M9 0 1 = M4 0 1 := fp10.at (by decide)
  have tM9_131_6 : M9 131 6 = M4 131 6 := fp10.t6 (by decide)
  have hRG : RlG M9 := rg_fr hIp fp10 (by unfold No5; decide) (by unfold NoI No5; decide) (by unfold NoG; decide) hRG
  have hRT : RlT M9 := rl_fr fp10 (by decide) hRT
  have hRS : RlS M9 := rs_fr hIp fp10 (by decide) (by decide) (by decide) (by unfold No5; decide) (by unfold NoI No5; decide) hRS
  refine z_istore F dL_law_1422 (by decide) (ls' := [(6, ii v8), (5, ii v3), (4, ii y), (0, .ref b), (1, .ref (ad 0)), (2, .ref (ad 131)), (3, .ref (ad 151))]) rfl ?_
  refine z_goto (tgt := 1663) F dL_law_1424 (by decide +kernel) ?_
  refine z_iincN F dL_law_1663 (q := 2) rfl (by decide) (fun w e => ?_)
  subst e
  refine z_eq (ls' := [(4, ii (y + 6)), (6, ii v8), (5, ii v3), (0, .ref b), (1, .ref (ad 0)), (2, .ref (ad 131)), (3, .ref (ad 151))]) rfl rfl rfl ?_
  refine z_goto (tgt := 23) F dL_law_1666 (by decide +kernel) ?_
  refine z_loc [0, 3, 4, 5, 6] (ls' := [(4, ii (y + 6)), (0, .ref b), (1, .ref (ad 0)), (2, .ref (ad 131)), (3, .ref (ad 151))]) rfl ?_
  refine z_wide (n1 := nk + 6) (s1 := sk + 36) (by omega) (by omega) ?_
  exact ih _ ⟨hI, hW⟩ ⟨⟨hRT, hRS⟩, hRG⟩
set_option maxRecDepth 4000 in
theorem law_c36 {p : Program} {l : Launch} {e : Env} {s : State} {m : MethodId} {below : List Frame} {meth : Method} {c : Code} {b L : Nat} {xs : Nat → Int32} {D : va_G} {cy : Nat → ClassId} {ad : Nat → Nat} {A : Nat → Prop} (hlT : l.stackTraces = false) (F : FxM D cy ad p m c cL_law 8 s #[Value.ref b] RL A) (hX : va_X b L xs s s.heap) (hbl : b < s.heap.size) (hbA : ¬ A b) (hL : L ≤ 3072) (y : Int) (hy0 : 0 ≤ y) (hy1 : y + 6 ≤ (L : Int)) (nk sk : Nat) (hnk : nk ≤ 9000 ∧ sk ≤ 90000) (M : Mem) (hJ : Iw M) (hR : RlD M ∧ RlG M) (ih : ∀ M' : Mem, Iw M' → (RlD M' ∧ RlG M') → Z D cy ad p l e room_1 s m #[Value.ref b] below meth c A 8 (nk + 6) (sk + 36) (lw_Z below #[Value.ref b] s) 23 [(4, ii (y + 6)), (0, .ref b), (1, .ref (ad 0)), (2, .ref (ad 131)), (3, .ref (ad 151))] [] M') : Z D cy ad p l e room_1 s m #[Value.ref b] below meth c A 8 nk sk (lw_Z below #[Value.ref b] s) 1427 [(4, ii y), (0, .ref b), (1, .ref (ad 0)), (2, .ref (ad 131)), (3, .ref (ad 151))] [] M := by
  obtain ⟨hI, hW⟩ := hJ
  have hRT := hR.1.1
  have hRS := hR.1.2
  have hRG := hR.2
  refine z_aload_n F dL_law_1427 rfl (q := 2) rfl ?_
  refine z_aload_n F dL_law_1428 rfl (q := 1) rfl ?_
  refine z_iload F dL_law_1429 (q := 0) rfl ?_
  refine z_iconst F dL_law_1431 ?_
  refine z_iadd F dL_law_1432 ?_
  refine z_sld F hX hbl hbA hL (by omega) (by omega) dL_law_1433 (fun v1 ev1 rv1 => ?_)
  refine z_aload_n F dL_law_1434 rfl (q := 1) rfl ?_
  refine z_iload F dL_law_1435 (q := 0) rfl ?_
  refine z_iconst F dL_law_1437 ?_
  refine z_iadd F dL_law_1438 ?_
  refine z_sld F hX hbl hbA hL (by omega) (by omega) dL_law_1439 (fun v2 ev2 rv2 => ?_)
  refine z_aload_n F dL_law_1440 rfl (q := 1) rfl ?_
  refine z_iload F dL_law_1441 (q := 0) rfl ?_
  refine z_iconst F dL_law_1443 ?_
  refine z_iadd F dL_law_1444 ?_
  refine z_sld F hX hbl hbA hL (by omega) (by omega) dL_law_1445 (fun v3 ev3 rv3 => ?_)
  have hIp := hI
  refine zh_i (rest := []) F (k_L_tray l hlT M ⟨hI, hW⟩ v1 (by omega) (by omega) v2 (by omega) (by omega) v3 (by omega) (by omega)) cs_L_251 ⟨Nat.le_of_ble_eq_true rfl, Nat.le_of_ble_eq_true rfl⟩ ⟨show _ ≤ 601024 by omega, show _ ≤ 7293034 by omega⟩ rfl rfl rfl (Nat.le_of_ble_eq_true rfl) dL_law_1446 (fun v4 M5 rv4 hI p6 => ?_)
  obtain ⟨hI, hW⟩ := hI
  obtain ⟨fp6, xp6⟩ := p6
  have tM5_0_1 : M5 0 1 = M 0 1 := fp6.at (by decide)
  have tM5_131_6 : M5 131 6 = M 131 6 := fp6.at (by decide)
  have hRG : RlG M5 := rg_fr hIp fp6 (by unfold No5; decide) (by unfold NoI No5; decide) (by unfold NoG; decide) hRG
  have hRT : RlT M5 := rl_fr fp6 (by decide) hRT
  have hRS : RlS M5 := rs_fr hIp fp6 (by decide) (by decide) (by decide) (by unfold No5; decide) (by unfold NoI No5; decide) hRS
  refine z_istore F dL_law_1449 (by decide) (ls' := [(5, ii v4), (4, ii y), (0, .ref b), (1, .ref (ad 0)), (2, .ref (ad 131)), (3, .ref (ad 151))]) rfl ?_
  refine z_aload_n F dL_law_1451 rfl (q := 4) rfl ?_
  refine z_aload_n F dL_law_1452 rfl (q := 2) rfl ?_
  refine z_iload F dL_law_1453 (q := 1) rfl ?_
  refine z_iconst F dL_law_1455 ?_
  refine z_iadd F dL_law_1456 ?_
  refine z_sld F hX hbl hbA hL (by omega) (by omega) dL_law_1457 (fun v7 ev7 rv7 => ?_)
  have zv7 : v1 = v7 := ev1.trans ev7.symm
  subst zv7
  refine z_aload_n F dL_law_1458 rfl (q := 2) rfl ?_
  refine z_iload F dL_law_1459 (q := 1) rfl ?_
  refine z_iconst F dL_law_1461 ?_
  refine z_iadd F dL_law_1462 ?_
  refine z_sld F hX hbl hbA hL (by omega) (by omega) dL_law_1463 (fun v8 ev8 rv8 => ?_)
  have zv8 : v2 = v8 := ev2.trans ev8.symm
  subst zv8
  refine z_aload_n F dL_law_1464 rfl (q := 2) rfl ?_
  refine z_iload F dL_law_1465 (q := 1) rfl ?_
  refine z_iconst F dL_law_1467 ?_
  refine z_iadd F dL_law_1468 ?_
  refine z_sld F hX hbl hbA hL (by omega) (by omega) dL_law_1469 (fun v9 ev9 rv9 => ?_)
  have zv9 : v3 = v9 := ev3.trans ev9.symm
  subst zv9
  have hIp := hI
  refine zl_v (rest := []) F (k_X12_tray l M5 ⟨hI, hW⟩ v1 (by omega) (by omega) v2 (by omega) (by omega) v3 (by omega) (by omega)) cs_L_254 (T := TX12) (N := 44) (ci := 12) rfl gs_131 ⟨Nat.le_of_ble_eq_true rfl, Nat.le_of_ble_eq_true rfl⟩ ⟨show _ ≤ 601024 by omega, show _ ≤ 7293034 by omega⟩ rfl rfl rfl (Nat.le_of_ble_eq_true rfl) dL_law_1470 (fun M10 hI p11 => ?_)
  obtain ⟨hI, hW⟩ := hI
  obtain ⟨fp11, xp11⟩ := p11
  have tM10_0_1 : M10 0 1 = M5 0 1 := fp11.at (by decide)
  have tM10_131_6 : M10 131 6 = M5 131 6 := fp11.t6 (by decide)
  have hRG : RlG M10 := rg_fr hIp fp11 (by unfold No5; decide) (by unfold NoI No5; decide) (by unfold NoG; decide) hRG
  have hRT : RlT M10 := rl_fr fp11 (by decide) hRT
  have hRS : RlS M10 := rs_fr hIp fp11 (by decide) (by decide) (by decide) (by unfold No5; decide) (by unfold NoI No5; decide) hRS
  refine z_goto (tgt := 1663) F dL_law_1473 (by decide +kernel) ?_
  refine z_iincN F dL_law_1663 (q := 1) rfl (by decide) (fun w e => ?_)
  subst e
  refine z_eq (ls' := [(4, ii (y + 6)), (5, ii v4), (0, .ref b), (1, .ref (ad 0)), (2, .ref (ad 131)), (3, .ref (ad 151))]) rfl rfl rfl ?_
  refine z_goto (tgt := 23) F dL_law_1666 (by decide +kernel) ?_
  refine z_loc [0, 2, 3, 4, 5] (ls' := [(4, ii (y + 6)), (0, .ref b), (1, .ref (ad 0)), (2, .ref (ad 131)), (3, .ref (ad 151))]) rfl ?_
  refine z_wide (n1 := nk + 6) (s1 := sk + 36) (by omega) (by omega) ?_
  exact ih _ ⟨hI, hW⟩ ⟨⟨hRT, hRS⟩, hRG⟩
set_option maxRecDepth 4000 in
theorem law_c37 {p : Program} {l : Launch} {e : Env} {s : State} {m : MethodId} {below : List Frame} {meth : Method} {c : Code} {b L : Nat} {xs : Nat → Int32} {D : va_G} {cy : Nat → ClassId} {ad : Nat → Nat} {A : Nat → Prop} (hlT : l.stackTraces = false) (F : FxM D cy ad p m c cL_law 8 s #[Value.ref b] RL A) (hX : va_X b L xs s s.heap) (hbl : b < s.heap.size) (hbA : ¬ A b) (hL : L ≤ 3072) (y : Int) (hy0 : 0 ≤ y) (hy1 : y + 6 ≤ (L : Int)) (nk sk : Nat) (hnk : nk ≤ 9000 ∧ sk ≤ 90000) (M : Mem) (hJ : Iw M) (hR : RlD M ∧ RlG M) (ih : ∀ M' : Mem, Iw M' → (RlD M' ∧ RlG M') → Z D cy ad p l e room_1 s m #[Value.ref b] below meth c A 8 (nk + 6) (sk + 36) (lw_Z below #[Value.ref b] s) 23 [(4, ii (y + 6)), (0, .ref b), (1, .ref (ad 0)), (2, .ref (ad 131)), (3, .ref (ad 151))] [] M') : Z D cy ad p l e room_1 s m #[Value.ref b] below meth c A 8 nk sk (lw_Z below #[Value.ref b] s) 1476 [(4, ii y), (0, .ref b), (1, .ref (ad 0)), (2, .ref (ad 131)), (3, .ref (ad 151))] [] M := by
  obtain ⟨hI, hW⟩ := hJ
  have hRT := hR.1.1
  have hRS := hR.1.2
  have hRG := hR.2
  refine z_aload_n F dL_law_1476 rfl (q := 2) rfl ?_
  refine z_aload_n F dL_law_1477 rfl (q := 1) rfl ?_
  refine z_iload F dL_law_1478 (q := 0) rfl ?_
  refine z_iconst F dL_law_1480 ?_
  refine z_iadd F dL_law_1481 ?_
  refine z_sld F hX hbl hbA hL (by omega) (by omega) dL_law_1482 (fun v1 ev1 rv1 => ?_)
  refine z_aload_n F dL_law_1483 rfl (q := 1) rfl ?_
  refine z_iload F dL_law_1484 (q := 0) rfl ?_
  refine z_iconst F dL_law_1486 ?_
  refine z_iadd F dL_law_1487 ?_
  refine z_sld F hX hbl hbA hL (by omega) (by omega) dL_law_1488 (fun v2 ev2 rv2 => ?_)
  refine z_aload_n F dL_law_1489 rfl (q := 1) rfl ?_
  refine z_iload F dL_law_1490 (q := 0) rfl ?_
  refine z_iconst F dL_law_1492 ?_
  refine z_iadd F dL_law_1493 ?_
  refine z_sld F hX hbl hbA hL (by omega) (by omega) dL_law_1494 (fun v3 ev3 rv3 => ?_)
  refine z_i2l F dL_law_1495 (by omega) ?_
  refine z_bipush F dL_law_1496 (by decide +kernel) ?_
  refine z_lshl0 F dL_law_1498 (fun v4 _ rv4 => ?_)
  refine z_aload_n F dL_law_1499 rfl (q := 1) rfl ?_
  refine z_iload F dL_law_1500 (q := 0) rfl ?_
  refine z_iconst F dL_law_1502 ?_
  refine z_iadd F dL_law_1503 ?_
  refine z_sld F hX hbl hbA hL (by omega) (by omega) dL_law_1504 (fun v5 ev5 rv5 => ?_)
  refine z_i2l F dL_law_1505 (by omega) ?_
  refine z_ldc2 (x := 4294967295) F dL_law_1506 (gin lm_1882 rfl) (by decide +kernel) ?_
  refine z_land0 F dL_law_1509 (fun v6 _ rv6 => ?_)
  refine z_lor0 F dL_law_1510 (fun v7 _ rv7 => ?_)
  refine z_aload_n F dL_law_1511 rfl (q := 4) rfl ?_
  have hIp := hI
  refine zh_i (rest := []) F (k_L_write l hlT M ⟨hI, hW⟩ v1 (by omega) (by omega) v2 (by omega) (by omega) v7 (by omega) (by omega)) cs_L_257 ⟨Nat.le_of_ble_eq_true rfl, Nat.le_of_ble_eq_true rfl⟩ ⟨show _ ≤ 601024 by omega, show _ ≤ 7293034 by omega⟩ rfl rfl rfl (Nat.le_of_ble_eq_true rfl) dL_law_1512 (fun v8 M9 rv8 hI p10 => ?_)
  obtain ⟨hI, hW⟩ := hI
  obtain ⟨fp10, xp10⟩ := p10
  have tM9_0_1 : M9 0 1 = M 0 1 := fp10.at (by decide)
  have tM9_131_6 : M9 131 6 = M 131 6 := fp10.at (by decide)
  have hRG : RlG M9 := rg_fr hIp fp10 (by unfold No5; decide) (by unfold NoI No5; decide) (by unfold NoG; decide) hRG
  have hRT : RlT M9 := rl_fr fp10 (by decide) hRT
  have hRS : RlS M9 := rs_fr hIp fp10 (by decide) (by decide) (by decide) (by unfold No5; decide) (by unfold NoI No5; decide) hRS
  refine z_istore F dL_law_1515 (by decide) (ls' := [(5, ii v8), (4, ii y), (0, .ref b), (1, .ref (ad 0)), (2, .ref (ad 131)), (3, .ref (ad 151))]) rfl ?_
  refine z_aload_n F dL_law_1517 rfl (q := 4) rfl ?_
  refine z_aload_n F dL_law_1518 rfl (q := 2) rfl ?_
  refine z_iload F dL_law_1519 (q := 1) rfl ?_
  refine z_iconst F dL_law_1521 ?_
  refine z_iadd F dL_law_1522 ?_
  refine z_sld F hX hbl hbA hL (by omega) (by omega) dL_law_1523 (fun v11 ev11 rv11 => ?_)
  have zv11 : v1 = v11 := ev1.trans ev11.symm
  subst zv11
  refine z_aload_n F dL_law_1524 rfl (q := 2) rfl ?_
  refine z_iload F dL_law_1525 (q := 1) rfl ?_
  refine z_iconst F dL_law_1527 ?_
  refine z_iadd F dL_law_1528 ?_
  refine z_sld F hX hbl hbA hL (by omega) (by omega) dL_law_1529 (fun v12 ev12 rv12 => ?_)
  have zv12 : v2 = v12 := ev2.trans ev12.symm
  subst zv12
  refine z_aload_n F dL_law_1530 rfl (q := 2) rfl ?_
  refine z_iload F dL_law_1531 (q := 1) rfl ?_
  refine z_iconst F dL_law_1533 ?_
  refine z_iadd F dL_law_1534 ?_
  refine z_sld F hX hbl hbA hL (by omega) (by omega) dL_law_1535 (fun v13 ev13 rv13 => ?_)
  have zv13 : v3 = v13 := ev3.trans ev13.symm
  subst zv13
  refine z_i2l F dL_law_1536 (by omega) ?_
  refine z_bipush F dL_law_1537 (by decide +kernel) ?_
  refine z_lshl0 F dL_law_1539 (fun v14 _ rv14 => ?_)
  refine z_aload_n F dL_law_1540 rfl (q := 2) rfl ?_
  refine z_iload F dL_law_1541 (q := 1) rfl ?_
  refine z_iconst F dL_law_1543 ?_
  refine z_iadd F dL_law_1544 ?_
  refine z_sld F hX hbl hbA hL (by omega) (by omega) dL_law_1545 (fun v15 ev15 rv15 => ?_)
  have zv15 : v5 = v15 := ev5.trans ev15.symm
  subst zv15
  refine z_i2l F dL_law_1546 (by omega) ?_
  refine z_ldc2 (x := 4294967295) F dL_law_1547 (gin lm_1882 rfl) (by decide +kernel) ?_
  refine z_land0 F dL_law_1550 (fun v16 _ rv16 => ?_)
  refine z_lor0 F dL_law_1551 (fun v17 _ rv17 => ?_)
  have hIp := hI
  refine zl_l (rest := []) F (k_X12_write l M9 ⟨hI, hW⟩ v1 (by omega) (by omega) v2 (by omega) (by omega) v17 (by omega) (by omega)) cs_L_260 (T := TX12) (N := 44) (ci := 12) rfl gs_131 ⟨Nat.le_of_ble_eq_true rfl, Nat.le_of_ble_eq_true rfl⟩ ⟨show _ ≤ 601024 by omega, show _ ≤ 7293034 by omega⟩ rfl rfl rfl (Nat.le_of_ble_eq_true rfl) dL_law_1552 (fun v18 M19 rv18 hI p20 => ?_)
  obtain ⟨hI, hW⟩ := hI
  obtain ⟨⟨av18, bv18⟩, fp20⟩ := p20
  have tM19_0_1 : M19 0 1 = M9 0 1 := fp20.at (by decide)
  have tM19_131_6 : M19 131 6 = M9 131 6 := fp20.t6 (by decide)
  have hRG : RlG M19 := rg_fr hIp fp20 (by unfold No5; decide) (by unfold NoI No5; decide) (by unfold NoG; decide) hRG
  have hRT : RlT M19 := rl_fr fp20 (by decide) hRT
  have hRS : RlS M19 := rs_fr hIp fp20 (by decide) (by decide) (by decide) (by unfold No5; decide) (by unfold NoI No5; decide) hRS
  refine z_lstore F dL_law_1555 (by decide) (ls' := [(6, ll v18), (5, ii v8), (4, ii y), (0, .ref b), (1, .ref (ad 0)), (2, .ref (ad 131)), (3, .ref (ad 151))]) rfl ?_
  refine z_goto (tgt := 1663) F dL_law_1557 (by decide +kernel) ?_
  refine z_iincN F dL_law_1663 (q := 2) rfl (by decide) (fun w e => ?_)
  subst e
  refine z_eq (ls' := [(4, ii (y + 6)), (6, ll v18), (5, ii v8), (0, .ref b), (1, .ref (ad 0)), (2, .ref (ad 131)), (3, .ref (ad 151))]) rfl rfl rfl ?_
  refine z_goto (tgt := 23) F dL_law_1666 (by decide +kernel) ?_
  refine z_loc [0, 3, 4, 5, 6] (ls' := [(4, ii (y + 6)), (0, .ref b), (1, .ref (ad 0)), (2, .ref (ad 131)), (3, .ref (ad 151))]) rfl ?_
  refine z_wide (n1 := nk + 6) (s1 := sk + 36) (by omega) (by omega) ?_
  exact ih _ ⟨hI, hW⟩ ⟨⟨hRT, hRS⟩, hRG⟩
set_option maxRecDepth 4000 in
theorem law_c38 {p : Program} {l : Launch} {e : Env} {s : State} {m : MethodId} {below : List Frame} {meth : Method} {c : Code} {b L : Nat} {xs : Nat → Int32} {D : va_G} {cy : Nat → ClassId} {ad : Nat → Nat} {A : Nat → Prop} (hlT : l.stackTraces = false) (F : FxM D cy ad p m c cL_law 8 s #[Value.ref b] RL A) (hX : va_X b L xs s s.heap) (hbl : b < s.heap.size) (hbA : ¬ A b) (hL : L ≤ 3072) (y : Int) (hy0 : 0 ≤ y) (hy1 : y + 6 ≤ (L : Int)) (nk sk : Nat) (hnk : nk ≤ 9000 ∧ sk ≤ 90000) (M : Mem) (hJ : Iw M) (hR : RlD M ∧ RlG M) (ih : ∀ M' : Mem, Iw M' → (RlD M' ∧ RlG M') → Z D cy ad p l e room_1 s m #[Value.ref b] below meth c A 8 (nk + 6) (sk + 36) (lw_Z below #[Value.ref b] s) 23 [(4, ii (y + 6)), (0, .ref b), (1, .ref (ad 0)), (2, .ref (ad 131)), (3, .ref (ad 151))] [] M') : Z D cy ad p l e room_1 s m #[Value.ref b] below meth c A 8 nk sk (lw_Z below #[Value.ref b] s) 1560 [(4, ii y), (0, .ref b), (1, .ref (ad 0)), (2, .ref (ad 131)), (3, .ref (ad 151))] [] M := by
  obtain ⟨hI, hW⟩ := hJ
  have hRT := hR.1.1
  have hRS := hR.1.2
  have hRG := hR.2
  refine z_aload_n F dL_law_1560 rfl (q := 2) rfl ?_
  refine z_aload_n F dL_law_1561 rfl (q := 1) rfl ?_
  refine z_iload F dL_law_1562 (q := 0) rfl ?_
  refine z_iconst F dL_law_1564 ?_
  refine z_iadd F dL_law_1565 ?_
  refine z_sld F hX hbl hbA hL (by omega) (by omega) dL_law_1566 (fun v1 ev1 rv1 => ?_)
  refine z_aload_n F dL_law_1567 rfl (q := 4) rfl ?_
  have hIp := hI
  refine zh_i (rest := []) F (k_L_pour l hlT M ⟨hI, hW⟩ v1 (by omega) (by omega)) cs_L_261 ⟨Nat.le_of_ble_eq_true rfl, Nat.le_of_ble_eq_true rfl⟩ ⟨show _ ≤ 601024 by omega, show _ ≤ 7293034 by omega⟩ rfl rfl rfl (Nat.le_of_ble_eq_true rfl) dL_law_1568 (fun v2 M3 rv2 hI p4 => ?_)
  obtain ⟨hI, hW⟩ := hI
  obtain ⟨fp4, xp4⟩ := p4
  have tM3_0_1 : M3 0 1 = M 0 1 := fp4.at (by decide)
  have tM3_131_6 : M3 131 6 = M 131 6 := fp4.at (by decide)
  have hRG : RlG M3 := rg_fr hIp fp4 (by unfold No5; decide) (by unfold NoI No5; decide) (by unfold NoG; decide) hRG
  have hRT : RlT M3 := rl_fr fp4 (by decide) hRT
  have hRS : RlS M3 := rs_fr hIp fp4 (by decide) (by decide) (by decide) (by unfold No5; decide) (by unfold NoI No5; decide) hRS
  refine z_istore F dL_law_1571 (by decide) (ls' := [(5, ii v2), (4, ii y), (0, .ref b), (1, .ref (ad 0)), (2, .ref (ad 131)), (3, .ref (ad 151))]) rfl ?_
  refine z_aload_n F dL_law_1573 rfl (q := 4) rfl ?_
  refine z_aload_n F dL_law_1574 rfl (q := 2) rfl ?_
  refine z_iload F dL_law_1575 (q := 1) rfl ?_
  refine z_iconst F dL_law_1577 ?_
  refine z_iadd F dL_law_1578 ?_
  refine z_sld F hX hbl hbA hL (by omega) (by omega) dL_law_1579 (fun v5 ev5 rv5 => ?_)
  have zv5 : v1 = v5 := ev1.trans ev5.symm
  subst zv5
  have hIp := hI
  refine zl_i (rest := []) F (k_X12_pour l M3 ⟨hI, hW⟩ v1 (by omega) (by omega)) cs_L_263 (T := TX12) (N := 44) (ci := 12) rfl gs_131 ⟨Nat.le_of_ble_eq_true rfl, Nat.le_of_ble_eq_true rfl⟩ ⟨show _ ≤ 601024 by omega, show _ ≤ 7293034 by omega⟩ rfl rfl rfl (Nat.le_of_ble_eq_true rfl) dL_law_1580 (fun v6 M7 rv6 hI p8 => ?_)
  obtain ⟨hI, hW⟩ := hI
  obtain ⟨⟨av6, bv6⟩, fp8⟩ := p8
  have tM7_0_1 : M7 0 1 = M3 0 1 := fp8.at (by decide)
  have tM7_131_6 : M7 131 6 = M3 131 6 := fp8.t6 (by decide)
  have hRG : RlG M7 := rg_fr hIp fp8 (by unfold No5; decide) (by unfold NoI No5; decide) (by unfold NoG; decide) hRG
  have hRT : RlT M7 := rl_fr fp8 (by decide) hRT
  have hRS : RlS M7 := rs_fr hIp fp8 (by decide) (by decide) (by decide) (by unfold No5; decide) (by unfold NoI No5; decide) hRS
  refine z_istore F dL_law_1583 (by decide) (ls' := [(6, ii v6), (5, ii v2), (4, ii y), (0, .ref b), (1, .ref (ad 0)), (2, .ref (ad 131)), (3, .ref (ad 151))]) rfl ?_
  refine z_goto (tgt := 1663) F dL_law_1585 (by decide +kernel) ?_
  refine z_iincN F dL_law_1663 (q := 2) rfl (by decide) (fun w e => ?_)
  subst e
  refine z_eq (ls' := [(4, ii (y + 6)), (6, ii v6), (5, ii v2), (0, .ref b), (1, .ref (ad 0)), (2, .ref (ad 131)), (3, .ref (ad 151))]) rfl rfl rfl ?_
  refine z_goto (tgt := 23) F dL_law_1666 (by decide +kernel) ?_
  refine z_loc [0, 3, 4, 5, 6] (ls' := [(4, ii (y + 6)), (0, .ref b), (1, .ref (ad 0)), (2, .ref (ad 131)), (3, .ref (ad 151))]) rfl ?_
  refine z_wide (n1 := nk + 6) (s1 := sk + 36) (by omega) (by omega) ?_
  exact ih _ ⟨hI, hW⟩ ⟨⟨hRT, hRS⟩, hRG⟩
set_option maxRecDepth 4000 in
theorem law_c39 {p : Program} {l : Launch} {e : Env} {s : State} {m : MethodId} {below : List Frame} {meth : Method} {c : Code} {b L : Nat} {xs : Nat → Int32} {D : va_G} {cy : Nat → ClassId} {ad : Nat → Nat} {A : Nat → Prop} (hlT : l.stackTraces = false) (F : FxM D cy ad p m c cL_law 8 s #[Value.ref b] RL A) (hX : va_X b L xs s s.heap) (hbl : b < s.heap.size) (hbA : ¬ A b) (hL : L ≤ 3072) (y : Int) (hy0 : 0 ≤ y) (hy1 : y + 6 ≤ (L : Int)) (nk sk : Nat) (hnk : nk ≤ 9000 ∧ sk ≤ 90000) (M : Mem) (hJ : Iw M) (hR : RlD M ∧ RlG M) (ih : ∀ M' : Mem, Iw M' → (RlD M' ∧ RlG M') → Z D cy ad p l e room_1 s m #[Value.ref b] below meth c A 8 (nk + 6) (sk + 36) (lw_Z below #[Value.ref b] s) 23 [(4, ii (y + 6)), (0, .ref b), (1, .ref (ad 0)), (2, .ref (ad 131)), (3, .ref (ad 151))] [] M') : Z D cy ad p l e room_1 s m #[Value.ref b] below meth c A 8 nk sk (lw_Z below #[Value.ref b] s) 1588 [(4, ii y), (0, .ref b), (1, .ref (ad 0)), (2, .ref (ad 131)), (3, .ref (ad 151))] [] M := by
  obtain ⟨hI, hW⟩ := hJ
  have hRT := hR.1.1
  have hRS := hR.1.2
  have hRG := hR.2
  refine z_aload_n F dL_law_1588 rfl (q := 2) rfl ?_
  refine z_aload_n F dL_law_1589 rfl (q := 1) rfl ?_
  refine z_iload F dL_law_1590 (q := 0) rfl ?_
  refine z_iconst F dL_law_1592 ?_
  refine z_iadd F dL_law_1593 ?_
  refine z_sld F hX hbl hbA hL (by omega) (by omega) dL_law_1594 (fun v1 ev1 rv1 => ?_)
  have hIp := hI
  refine zh_i (rest := []) F (k_L_image l hlT M ⟨hI, hW⟩ v1 (by omega) (by omega)) cs_L_264 ⟨Nat.le_of_ble_eq_true rfl, Nat.le_of_ble_eq_true rfl⟩ ⟨show _ ≤ 601024 by omega, show _ ≤ 7293034 by omega⟩ rfl rfl rfl (Nat.le_of_ble_eq_true rfl) dL_law_1595 (fun v2 M3 rv2 hI p4 => ?_)
  obtain ⟨hI, hW⟩ := hI
  obtain ⟨fp4, xp4⟩ := p4
  have tM3_0_1 : M3 0 1 = M 0 1 := fp4.at (by decide)
  have tM3_131_6 : M3 131 6 = M 131 6 := fp4.at (by decide)
  have hRG : RlG M3 := rg_im hIp fp4 (by unfold No5; decide) (by decide) (xp4.elim (fun q => Or.inl q.2) (fun q => Or.inr q.2)) hRG
  have hIt := hIp
  have hRT : RlT M3 := rl_fr fp4 (by decide) hRT
  refine z_istore F dL_law_1598 (by decide) (ls' := [(5, ii v2), (4, ii y), (0, .ref b), (1, .ref (ad 0)), (2, .ref (ad 131)), (3, .ref (ad 151))]) rfl ?_
  refine z_aload_n F dL_law_1600 rfl (q := 4) rfl ?_
  refine z_aload_n F dL_law_1601 rfl (q := 2) rfl ?_
  refine z_iload F dL_law_1602 (q := 1) rfl ?_
  refine z_iconst F dL_law_1604 ?_
  refine z_iadd F dL_law_1605 ?_
  refine z_sld F hX hbl hbA hL (by omega) (by omega) dL_law_1606 (fun v5 ev5 rv5 => ?_)
  have zv5 : v1 = v5 := ev1.trans ev5.symm
  subst zv5
  have hIp := hI
  refine zl_v (rest := []) F (k_X12_image l M3 ⟨hI, hW⟩ v1 (by omega) (by omega)) cs_L_267 (T := TX12) (N := 44) (ci := 12) rfl gs_131 ⟨Nat.le_of_ble_eq_true rfl, Nat.le_of_ble_eq_true rfl⟩ ⟨show _ ≤ 601024 by omega, show _ ≤ 7293034 by omega⟩ rfl rfl rfl (Nat.le_of_ble_eq_true rfl) dL_law_1607 (fun M6 hI p7 => ?_)
  obtain ⟨hI, hW⟩ := hI
  obtain ⟨fp7, xp7, yp7⟩ := p7
  have tM6_0_1 : M6 0 1 = M3 0 1 := fp7.at (by decide)
  have tM6_131_6 : M6 131 6 = M3 131 6 := fp7.t6 (by decide)
  have hRG : RlG M6 := rg_fr hIp fp7 (by unfold No5; decide) (by unfold NoI No5; decide) (by unfold NoG; decide) hRG
  have hRT : RlT M6 := rl_fr fp7 (by decide) hRT
  have hRS : RlS M6 := rs_image hIt hRS fp4 ⟨(by unfold No5; decide), by decide, by decide, by decide⟩ (xp4.elim (fun q => Or.inl q.2) (fun q => Or.inr q.2)) fp7 (by unfold No5; decide) (by unfold NoI No5; decide) (by decide) xp7 yp7
  refine z_goto (tgt := 1663) F dL_law_1610 (by decide +kernel) ?_
  refine z_iincN F dL_law_1663 (q := 1) rfl (by decide) (fun w e => ?_)
  subst e
  refine z_eq (ls' := [(4, ii (y + 6)), (5, ii v2), (0, .ref b), (1, .ref (ad 0)), (2, .ref (ad 131)), (3, .ref (ad 151))]) rfl rfl rfl ?_
  refine z_goto (tgt := 23) F dL_law_1666 (by decide +kernel) ?_
  refine z_loc [0, 2, 3, 4, 5] (ls' := [(4, ii (y + 6)), (0, .ref b), (1, .ref (ad 0)), (2, .ref (ad 131)), (3, .ref (ad 151))]) rfl ?_
  refine z_wide (n1 := nk + 6) (s1 := sk + 36) (by omega) (by omega) ?_
  exact ih _ ⟨hI, hW⟩ ⟨⟨hRT, hRS⟩, hRG⟩
set_option maxRecDepth 4000 in
theorem law_c40 {p : Program} {l : Launch} {e : Env} {s : State} {m : MethodId} {below : List Frame} {meth : Method} {c : Code} {b L : Nat} {xs : Nat → Int32} {D : va_G} {cy : Nat → ClassId} {ad : Nat → Nat} {A : Nat → Prop} (hlT : l.stackTraces = false) (F : FxM D cy ad p m c cL_law 8 s #[Value.ref b] RL A) (hX : va_X b L xs s s.heap) (hbl : b < s.heap.size) (hbA : ¬ A b) (hL : L ≤ 3072) (y : Int) (hy0 : 0 ≤ y) (hy1 : y + 6 ≤ (L : Int)) (nk sk : Nat) (hnk : nk ≤ 9000 ∧ sk ≤ 90000) (M : Mem) (hJ : Iw M) (hR : RlD M ∧ RlG M) (ih : ∀ M' : Mem, Iw M' → (RlD M' ∧ RlG M') → Z D cy ad p l e room_1 s m #[Value.ref b] below meth c A 8 (nk + 6) (sk + 36) (lw_Z below #[Value.ref b] s) 23 [(4, ii (y + 6)), (0, .ref b), (1, .ref (ad 0)), (2, .ref (ad 131)), (3, .ref (ad 151))] [] M') : Z D cy ad p l e room_1 s m #[Value.ref b] below meth c A 8 nk sk (lw_Z below #[Value.ref b] s) 1613 [(4, ii y), (0, .ref b), (1, .ref (ad 0)), (2, .ref (ad 131)), (3, .ref (ad 151))] [] M := by
  obtain ⟨hI, hW⟩ := hJ
  have hRT := hR.1.1
  have hRS := hR.1.2
  have hRG := hR.2
  refine z_aload_n F dL_law_1613 rfl (q := 2) rfl ?_
  refine z_aload_n F dL_law_1614 rfl (q := 1) rfl ?_
  refine z_iload F dL_law_1615 (q := 0) rfl ?_
  refine z_iconst F dL_law_1617 ?_
  refine z_iadd F dL_law_1618 ?_
  refine z_sld F hX hbl hbA hL (by omega) (by omega) dL_law_1619 (fun v1 ev1 rv1 => ?_)
  have hIp := hI
  refine zh_i (rest := []) F (k_L_restore l hlT M ⟨hI, hW⟩ v1 (by omega) (by omega)) cs_L_268 ⟨Nat.le_of_ble_eq_true rfl, Nat.le_of_ble_eq_true rfl⟩ ⟨show _ ≤ 601024 by omega, show _ ≤ 7293034 by omega⟩ rfl rfl rfl (Nat.le_of_ble_eq_true rfl) dL_law_1620 (fun v2 M3 rv2 hI p4 => ?_)
  obtain ⟨hI, hW⟩ := hI
  obtain ⟨fp4, xp4⟩ := p4
  have tM3_0_1 : M3 0 1 = M 0 1 := fp4.at (by decide)
  have tM3_131_6 : M3 131 6 = M 131 6 := fp4.at (by decide)
  have hRG : RlG M3 := rg_re hIp fp4 (by unfold NoI No5; decide) ⟨by decide, by decide, by decide⟩ (xp4.elim (fun q => Or.inl q.2) (fun q => Or.inr q.2)) hRG
  have hIt := hIp
  have hRT : RlT M3 := rl_fr fp4 (by decide) hRT
  refine z_istore F dL_law_1623 (by decide) (ls' := [(5, ii v2), (4, ii y), (0, .ref b), (1, .ref (ad 0)), (2, .ref (ad 131)), (3, .ref (ad 151))]) rfl ?_
  refine z_aload_n F dL_law_1625 rfl (q := 4) rfl ?_
  refine z_aload_n F dL_law_1626 rfl (q := 2) rfl ?_
  refine z_iload F dL_law_1627 (q := 1) rfl ?_
  refine z_iconst F dL_law_1629 ?_
  refine z_iadd F dL_law_1630 ?_
  refine z_sld F hX hbl hbA hL (by omega) (by omega) dL_law_1631 (fun v5 ev5 rv5 => ?_)
  have zv5 : v1 = v5 := ev1.trans ev5.symm
  subst zv5
  have hIp := hI
  refine zl_v (rest := []) F (k_X12_restore l M3 ⟨hI, hW⟩ v1 (by omega) (by omega)) cs_L_270 (T := TX12) (N := 44) (ci := 12) rfl gs_131 ⟨Nat.le_of_ble_eq_true rfl, Nat.le_of_ble_eq_true rfl⟩ ⟨show _ ≤ 601024 by omega, show _ ≤ 7293034 by omega⟩ rfl rfl rfl (Nat.le_of_ble_eq_true rfl) dL_law_1632 (fun M6 hI p7 => ?_)
  obtain ⟨hI, hW⟩ := hI
  obtain ⟨fp7, xp7, yp7⟩ := p7
  have tM6_0_1 : M6 0 1 = M3 0 1 := fp7.at (by decide)
  have tM6_131_6 : M6 131 6 = M3 131 6 := fp7.t6 (by decide)
  have hRG : RlG M6 := rg_fr hIp fp7 (by unfold No5; decide) (by unfold NoI No5; decide) (by unfold NoG; decide) hRG
  have hRT : RlT M6 := rl_fr fp7 (by decide) hRT
  have hRS : RlS M6 := rs_restore hIt hRS fp4 ⟨(by unfold NoI No5; decide), by decide, by decide⟩ (xp4.elim (fun q => Or.inl q.2) (fun q => Or.inr q.2)) fp7 (by unfold No5; decide) (by unfold NoI No5; decide) ⟨by decide, by decide⟩ xp7 yp7
  refine z_goto (tgt := 1663) F dL_law_1635 (by decide +kernel) ?_
  refine z_iincN F dL_law_1663 (q := 1) rfl (by decide) (fun w e => ?_)
  subst e
  refine z_eq (ls' := [(4, ii (y + 6)), (5, ii v2), (0, .ref b), (1, .ref (ad 0)), (2, .ref (ad 131)), (3, .ref (ad 151))]) rfl rfl rfl ?_
  refine z_goto (tgt := 23) F dL_law_1666 (by decide +kernel) ?_
  refine z_loc [0, 2, 3, 4, 5] (ls' := [(4, ii (y + 6)), (0, .ref b), (1, .ref (ad 0)), (2, .ref (ad 131)), (3, .ref (ad 151))]) rfl ?_
  refine z_wide (n1 := nk + 6) (s1 := sk + 36) (by omega) (by omega) ?_
  exact ih _ ⟨hI, hW⟩ ⟨⟨hRT, hRS⟩, hRG⟩
set_option maxRecDepth 4000 in
theorem law_c41 {p : Program} {l : Launch} {e : Env} {s : State} {m : MethodId} {below : List Frame} {meth : Method} {c : Code} {b L : Nat} {xs : Nat → Int32} {D : va_G} {cy : Nat → ClassId} {ad : Nat → Nat} {A : Nat → Prop} (hlT : l.stackTraces = false) (F : FxM D cy ad p m c cL_law 8 s #[Value.ref b] RL A) (hX : va_X b L xs s s.heap) (hbl : b < s.heap.size) (hbA : ¬ A b) (hL : L ≤ 3072) (y : Int) (hy0 : 0 ≤ y) (hy1 : y + 6 ≤ (L : Int)) (nk sk : Nat) (hnk : nk ≤ 9000 ∧ sk ≤ 90000) (M : Mem) (hJ : Iw M) (hR : RlD M ∧ RlG M) (ih : ∀ M' : Mem, Iw M' → (RlD M' ∧ RlG M') → Z D cy ad p l e room_1 s m #[Value.ref b] below meth c A 8 (nk + 6) (sk + 36) (lw_Z below #[Value.ref b] s) 23 [(4, ii (y + 6)), (0, .ref b), (1, .ref (ad 0)), (2, .ref (ad 131)), (3, .ref (ad 151))] [] M') : Z D cy ad p l e room_1 s m #[Value.ref b] below meth c A 8 nk sk (lw_Z below #[Value.ref b] s) 1638 [(4, ii y), (0, .ref b), (1, .ref (ad 0)), (2, .ref (ad 131)), (3, .ref (ad 151))] [] M := by
  obtain ⟨hI, hW⟩ := hJ
  have hRT := hR.1.1
  have hRS := hR.1.2
  have hRG := hR.2
  refine z_aload_n F dL_law_1638 rfl (q := 2) rfl ?_
  refine z_aload_n F dL_law_1639 rfl (q := 1) rfl ?_
  refine z_iload F dL_law_1640 (q := 0) rfl ?_
  refine z_iconst F dL_law_1642 ?_
  refine z_iadd F dL_law_1643 ?_
  refine z_sld F hX hbl hbA hL (by omega) (by omega) dL_law_1644 (fun v1 ev1 rv1 => ?_)
  have hIp := hI
  refine zl_i (rest := []) F (k_X11_count l M ⟨hI, hW⟩ v1 (by omega) (by omega)) cs_L_271 (T := TX11) (N := 14) (ci := 11) rfl gs_0 ⟨Nat.le_of_ble_eq_true rfl, Nat.le_of_ble_eq_true rfl⟩ ⟨show _ ≤ 601024 by omega, show _ ≤ 7293034 by omega⟩ rfl rfl rfl (Nat.le_of_ble_eq_true rfl) dL_law_1645 (fun v2 M3 rv2 hI p4 => ?_)
  obtain ⟨hI, hW⟩ := hI
  obtain ⟨⟨av2, bv2⟩, rfl⟩ := p4
  refine z_pop F dL_law_1648 rfl ?_
  refine z_aload_n F dL_law_1649 rfl (q := 3) rfl ?_
  refine z_aload_n F dL_law_1650 rfl (q := 1) rfl ?_
  refine z_iload F dL_law_1651 (q := 0) rfl ?_
  refine z_iconst F dL_law_1653 ?_
  refine z_iadd F dL_law_1654 ?_
  refine z_sld F hX hbl hbA hL (by omega) (by omega) dL_law_1655 (fun v5 ev5 rv5 => ?_)
  have zv5 : v1 = v5 := ev1.trans ev5.symm
  subst zv5
  have hIp := hI
  refine zl_i (rest := []) F (k_X12_count l M ⟨hI, hW⟩ v1 (by omega) (by omega)) cs_L_274 (T := TX12) (N := 44) (ci := 12) rfl gs_131 ⟨Nat.le_of_ble_eq_true rfl, Nat.le_of_ble_eq_true rfl⟩ ⟨show _ ≤ 601024 by omega, show _ ≤ 7293034 by omega⟩ rfl rfl rfl (Nat.le_of_ble_eq_true rfl) dL_law_1656 (fun v6 M7 rv6 hI p8 => ?_)
  obtain ⟨hI, hW⟩ := hI
  obtain ⟨⟨av6, bv6⟩, fp8⟩ := p8
  have tM7_0_1 : M7 0 1 = M 0 1 := fp8.at (by decide)
  have tM7_131_6 : M7 131 6 = M 131 6 := fp8.t6 (by decide)
  have hRG : RlG M7 := rg_fr hIp fp8 (by unfold No5; decide) (by unfold NoI No5; decide) (by unfold NoG; decide) hRG
  have hRT : RlT M7 := rl_fr fp8 (by decide) hRT
  have hRS : RlS M7 := rs_fr hIp fp8 (by decide) (by decide) (by decide) (by unfold No5; decide) (by unfold NoI No5; decide) hRS
  refine z_pop F dL_law_1659 rfl ?_
  refine z_goto (tgt := 1663) F dL_law_1660 (by decide +kernel) ?_
  refine z_iincN F dL_law_1663 (q := 0) rfl (by decide) (fun w e => ?_)
  subst e
  refine z_eq (ls' := [(4, ii (y + 6)), (0, .ref b), (1, .ref (ad 0)), (2, .ref (ad 131)), (3, .ref (ad 151))]) rfl rfl rfl ?_
  refine z_goto (tgt := 23) F dL_law_1666 (by decide +kernel) ?_
  refine z_loc [0, 1, 2, 3, 4] (ls' := [(4, ii (y + 6)), (0, .ref b), (1, .ref (ad 0)), (2, .ref (ad 131)), (3, .ref (ad 151))]) rfl ?_
  refine z_wide (n1 := nk + 6) (s1 := sk + 36) (by omega) (by omega) ?_
  exact ih _ ⟨hI, hW⟩ ⟨⟨hRT, hRS⟩, hRG⟩
