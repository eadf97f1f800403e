theorem dL_law_1145 : decode cL_law 1145 = .ok (.aload_n 1, 1) := by decide +kernel
theorem dL_law_1146 : decode cL_law 1146 = .ok (.aload_n 0, 1) := by decide +kernel
theorem dL_law_1147 : decode cL_law 1147 = .ok (.iload 4, 2) := by decide +kernel
theorem dL_law_1149 : decode cL_law 1149 = .ok (.iconst 1, 1) := by decide +kernel
theorem dL_law_1150 : decode cL_law 1150 = .ok (.iadd, 1) := by decide +kernel
theorem dL_law_1151 : decode cL_law 1151 = .ok (.iaload, 1) := by decide +kernel
theorem dL_law_1152 : decode cL_law 1152 = .ok (.aload_n 0, 1) := by decide +kernel
theorem dL_law_1153 : decode cL_law 1153 = .ok (.iload 4, 2) := by decide +kernel
theorem dL_law_1155 : decode cL_law 1155 = .ok (.iconst 2, 1) := by decide +kernel
theorem dL_law_1156 : decode cL_law 1156 = .ok (.iadd, 1) := by decide +kernel
theorem dL_law_1157 : decode cL_law 1157 = .ok (.iaload, 1) := by decide +kernel
theorem dL_law_1158 : decode cL_law 1158 = .ok (.ifCond .eq 7, 3) := by decide +kernel
theorem dL_law_1161 : decode cL_law 1161 = .ok (.iconst 1, 1) := by decide +kernel
theorem dL_law_1162 : decode cL_law 1162 = .ok (.goto 4, 3) := by decide +kernel
theorem dL_law_1165 : decode cL_law 1165 = .ok (.iconst 0, 1) := by decide +kernel
theorem dL_law_1166 : decode cL_law 1166 = .ok (.aload_n 3, 1) := by decide +kernel
theorem dL_law_1167 : decode cL_law 1167 = .ok (.invokestatic 224, 3) := by decide +kernel
theorem dL_law_1170 : decode cL_law 1170 = .ok (.istore 5, 2) := by decide +kernel
theorem dL_law_1172 : decode cL_law 1172 = .ok (.aload_n 2, 1) := by decide +kernel
theorem dL_law_1173 : decode cL_law 1173 = .ok (.aload_n 0, 1) := by decide +kernel
theorem dL_law_1174 : decode cL_law 1174 = .ok (.iload 4, 2) := by decide +kernel
theorem dL_law_1176 : decode cL_law 1176 = .ok (.iconst 1, 1) := by decide +kernel
theorem dL_law_1177 : decode cL_law 1177 = .ok (.iadd, 1) := by decide +kernel
theorem dL_law_1178 : decode cL_law 1178 = .ok (.iaload, 1) := by decide +kernel
theorem dL_law_1179 : decode cL_law 1179 = .ok (.aload_n 0, 1) := by decide +kernel
theorem dL_law_1180 : decode cL_law 1180 = .ok (.iload 4, 2) := by decide +kernel
theorem dL_law_1182 : decode cL_law 1182 = .ok (.iconst 2, 1) := by decide +kernel
theorem dL_law_1183 : decode cL_law 1183 = .ok (.iadd, 1) := by decide +kernel
theorem dL_law_1184 : decode cL_law 1184 = .ok (.iaload, 1) := by decide +kernel
theorem dL_law_1185 : decode cL_law 1185 = .ok (.ifCond .eq 7, 3) := by decide +kernel
theorem dL_law_1188 : decode cL_law 1188 = .ok (.iconst 1, 1) := by decide +kernel
theorem dL_law_1189 : decode cL_law 1189 = .ok (.goto 4, 3) := by decide +kernel
theorem dL_law_1192 : decode cL_law 1192 = .ok (.iconst 0, 1) := by decide +kernel
theorem dL_law_1193 : decode cL_law 1193 = .ok (.invokevirtual 227, 3) := by decide +kernel
theorem dL_law_1196 : decode cL_law 1196 = .ok (.istore 6, 2) := by decide +kernel
theorem dL_law_1198 : decode cL_law 1198 = .ok (.goto 493, 3) := by decide +kernel
theorem dL_law_1201 : decode cL_law 1201 = .ok (.aload_n 1, 1) := by decide +kernel
theorem dL_law_1202 : decode cL_law 1202 = .ok (.aload_n 0, 1) := by decide +kernel
theorem dL_law_1203 : decode cL_law 1203 = .ok (.iload 4, 2) := by decide +kernel
theorem dL_law_1205 : decode cL_law 1205 = .ok (.iconst 1, 1) := by decide +kernel
theorem dL_law_1206 : decode cL_law 1206 = .ok (.iadd, 1) := by decide +kernel
theorem dL_law_1207 : decode cL_law 1207 = .ok (.iaload, 1) := by decide +kernel
theorem dL_law_1208 : decode cL_law 1208 = .ok (.aload_n 0, 1) := by decide +kernel
theorem dL_law_1209 : decode cL_law 1209 = .ok (.iload 4, 2) := by decide +kernel
theorem dL_law_1211 : decode cL_law 1211 = .ok (.iconst 2, 1) := by decide +kernel
theorem dL_law_1212 : decode cL_law 1212 = .ok (.iadd, 1) := by decide +kernel
theorem dL_law_1213 : decode cL_law 1213 = .ok (.iaload, 1) := by decide +kernel
theorem dL_law_1214 : decode cL_law 1214 = .ok (.ifCond .eq 7, 3) := by decide +kernel
theorem dL_law_1217 : decode cL_law 1217 = .ok (.iconst 1, 1) := by decide +kernel
theorem dL_law_1218 : decode cL_law 1218 = .ok (.goto 4, 3) := by decide +kernel
theorem dL_law_1221 : decode cL_law 1221 = .ok (.iconst 0, 1) := by decide +kernel
theorem dL_law_1222 : decode cL_law 1222 = .ok (.aload_n 0, 1) := by decide +kernel
theorem dL_law_1223 : decode cL_law 1223 = .ok (.iload 4, 2) := by decide +kernel
theorem dL_law_1225 : decode cL_law 1225 = .ok (.iconst 3, 1) := by decide +kernel
theorem dL_law_1226 : decode cL_law 1226 = .ok (.iadd, 1) := by decide +kernel
theorem dL_law_1227 : decode cL_law 1227 = .ok (.iaload, 1) := by decide +kernel
theorem dL_law_1228 : decode cL_law 1228 = .ok (.aload_n 3, 1) := by decide +kernel
theorem dL_law_1229 : decode cL_law 1229 = .ok (.invokestatic 228, 3) := by decide +kernel
theorem dL_law_1232 : decode cL_law 1232 = .ok (.istore 5, 2) := by decide +kernel
theorem dL_law_1234 : decode cL_law 1234 = .ok (.aload_n 2, 1) := by decide +kernel
theorem dL_law_1235 : decode cL_law 1235 = .ok (.aload_n 0, 1) := by decide +kernel
theorem dL_law_1236 : decode cL_law 1236 = .ok (.iload 4, 2) := by decide +kernel
theorem dL_law_1238 : decode cL_law 1238 = .ok (.iconst 1, 1) := by decide +kernel
theorem dL_law_1239 : decode cL_law 1239 = .ok (.iadd, 1) := by decide +kernel
theorem dL_law_1240 : decode cL_law 1240 = .ok (.iaload, 1) := by decide +kernel
theorem dL_law_1241 : decode cL_law 1241 = .ok (.aload_n 0, 1) := by decide +kernel
theorem dL_law_1242 : decode cL_law 1242 = .ok (.iload 4, 2) := by decide +kernel
theorem dL_law_1244 : decode cL_law 1244 = .ok (.iconst 2, 1) := by decide +kernel
theorem dL_law_1245 : decode cL_law 1245 = .ok (.iadd, 1) := by decide +kernel
theorem dL_law_1246 : decode cL_law 1246 = .ok (.iaload, 1) := by decide +kernel
theorem dL_law_1247 : decode cL_law 1247 = .ok (.ifCond .eq 7, 3) := by decide +kernel
theorem dL_law_1250 : decode cL_law 1250 = .ok (.iconst 1, 1) := by decide +kernel
theorem dL_law_1251 : decode cL_law 1251 = .ok (.goto 4, 3) := by decide +kernel
theorem dL_law_1254 : decode cL_law 1254 = .ok (.iconst 0, 1) := by decide +kernel
theorem dL_law_1255 : decode cL_law 1255 = .ok (.aload_n 0, 1) := by decide +kernel
theorem dL_law_1256 : decode cL_law 1256 = .ok (.iload 4, 2) := by decide +kernel
theorem dL_law_1258 : decode cL_law 1258 = .ok (.iconst 3, 1) := by decide +kernel
theorem dL_law_1259 : decode cL_law 1259 = .ok (.iadd, 1) := by decide +kernel
theorem dL_law_1260 : decode cL_law 1260 = .ok (.iaload, 1) := by decide +kernel
theorem dL_law_1261 : decode cL_law 1261 = .ok (.invokevirtual 231, 3) := by decide +kernel
theorem dL_law_1264 : decode cL_law 1264 = .ok (.istore 6, 2) := by decide +kernel
theorem dL_law_1266 : decode cL_law 1266 = .ok (.goto 425, 3) := by decide +kernel
theorem dL_law_1269 : decode cL_law 1269 = .ok (.aload_n 1, 1) := by decide +kernel
theorem dL_law_1270 : decode cL_law 1270 = .ok (.aload_n 0, 1) := by decide +kernel
theorem dL_law_1271 : decode cL_law 1271 = .ok (.iload 4, 2) := by decide +kernel
theorem dL_law_1273 : decode cL_law 1273 = .ok (.iconst 1, 1) := by decide +kernel
theorem dL_law_1274 : decode cL_law 1274 = .ok (.iadd, 1) := by decide +kernel
theorem dL_law_1275 : decode cL_law 1275 = .ok (.iaload, 1) := by decide +kernel
theorem dL_law_1276 : decode cL_law 1276 = .ok (.aload_n 0, 1) := by decide +kernel
theorem dL_law_1277 : decode cL_law 1277 = .ok (.iload 4, 2) := by decide +kernel
theorem dL_law_1279 : decode cL_law 1279 = .ok (.iconst 2, 1) := by decide +kernel
theorem dL_law_1280 : decode cL_law 1280 = .ok (.iadd, 1) := by decide +kernel
theorem dL_law_1281 : decode cL_law 1281 = .ok (.iaload, 1) := by decide +kernel
theorem dL_law_1282 : decode cL_law 1282 = .ok (.aload_n 0, 1) := by decide +kernel
theorem dL_law_1283 : decode cL_law 1283 = .ok (.iload 4, 2) := by decide +kernel
theorem dL_law_1285 : decode cL_law 1285 = .ok (.iconst 3, 1) := by decide +kernel
theorem dL_law_1286 : decode cL_law 1286 = .ok (.iadd, 1) := by decide +kernel
theorem dL_law_1287 : decode cL_law 1287 = .ok (.iaload, 1) := by decide +kernel
theorem dL_law_1288 : decode cL_law 1288 = .ok (.aload_n 3, 1) := by decide +kernel
theorem dL_law_1289 : decode cL_law 1289 = .ok (.invokestatic 232, 3) := by decide +kernel
theorem dL_law_1292 : decode cL_law 1292 = .ok (.istore 5, 2) := by decide +kernel
theorem dL_law_1294 : decode cL_law 1294 = .ok (.aload_n 2, 1) := by decide +kernel
theorem dL_law_1295 : decode cL_law 1295 = .ok (.aload_n 0, 1) := by decide +kernel
theorem dL_law_1296 : decode cL_law 1296 = .ok (.iload 4, 2) := by decide +kernel
theorem dL_law_1298 : decode cL_law 1298 = .ok (.iconst 1, 1) := by decide +kernel
theorem dL_law_1299 : decode cL_law 1299 = .ok (.iadd, 1) := by decide +kernel
theorem dL_law_1300 : decode cL_law 1300 = .ok (.iaload, 1) := by decide +kernel
theorem dL_law_1301 : decode cL_law 1301 = .ok (.aload_n 0, 1) := by decide +kernel
theorem dL_law_1302 : decode cL_law 1302 = .ok (.iload 4, 2) := by decide +kernel
theorem dL_law_1304 : decode cL_law 1304 = .ok (.iconst 2, 1) := by decide +kernel
theorem dL_law_1305 : decode cL_law 1305 = .ok (.iadd, 1) := by decide +kernel
theorem dL_law_1306 : decode cL_law 1306 = .ok (.iaload, 1) := by decide +kernel
theorem dL_law_1307 : decode cL_law 1307 = .ok (.aload_n 0, 1) := by decide +kernel
theorem dL_law_1308 : decode cL_law 1308 = .ok (.iload 4, 2) := by decide +kernel
theorem dL_law_1310 : decode cL_law 1310 = .ok (.iconst 3, 1) := by decide +kernel
theorem dL_law_1311 : decode cL_law 1311 = .ok (.iadd, 1) := by decide +kernel
theorem dL_law_1312 : decode cL_law 1312 = .ok (.iaload, 1) := by decide +kernel
theorem dL_law_1313 : decode cL_law 1313 = .ok (.invokevirtual 235, 3) := by decide +kernel
theorem dL_law_1316 : decode cL_law 1316 = .ok (.istore 6, 2) := by decide +kernel
theorem dL_law_1318 : decode cL_law 1318 = .ok (.goto 373, 3) := by decide +kernel
theorem dL_law_1321 : decode cL_law 1321 = .ok (.aload_n 1, 1) := by decide +kernel
theorem dL_law_1322 : decode cL_law 1322 = .ok (.aload_n 0, 1) := by decide +kernel
theorem dL_law_1323 : decode cL_law 1323 = .ok (.iload 4, 2) := by decide +kernel
theorem dL_law_1325 : decode cL_law 1325 = .ok (.iconst 1, 1) := by decide +kernel
theorem dL_law_1326 : decode cL_law 1326 = .ok (.iadd, 1) := by decide +kernel
theorem dL_law_1327 : decode cL_law 1327 = .ok (.iaload, 1) := by decide +kernel
theorem dL_law_1328 : decode cL_law 1328 = .ok (.aload_n 0, 1) := by decide +kernel
theorem dL_law_1329 : decode cL_law 1329 = .ok (.iload 4, 2) := by decide +kernel
theorem dL_law_1331 : decode cL_law 1331 = .ok (.iconst 2, 1) := by decide +kernel
theorem dL_law_1332 : decode cL_law 1332 = .ok (.iadd, 1) := by decide +kernel
theorem dL_law_1333 : decode cL_law 1333 = .ok (.iaload, 1) := by decide +kernel
theorem dL_law_1334 : decode cL_law 1334 = .ok (.aload_n 3, 1) := by decide +kernel
theorem dL_law_1335 : decode cL_law 1335 = .ok (.invokestatic 236, 3) := by decide +kernel
theorem dL_law_1338 : decode cL_law 1338 = .ok (.istore 5, 2) := by decide +kernel
theorem dL_law_1340 : decode cL_law 1340 = .ok (.aload_n 2, 1) := by decide +kernel
theorem dL_law_1341 : decode cL_law 1341 = .ok (.aload_n 0, 1) := by decide +kernel
theorem dL_law_1342 : decode cL_law 1342 = .ok (.iload 4, 2) := by decide +kernel
theorem dL_law_1344 : decode cL_law 1344 = .ok (.iconst 1, 1) := by decide +kernel
theorem dL_law_1345 : decode cL_law 1345 = .ok (.iadd, 1) := by decide +kernel
theorem dL_law_1346 : decode cL_law 1346 = .ok (.iaload, 1) := by decide +kernel
theorem dL_law_1347 : decode cL_law 1347 = .ok (.aload_n 0, 1) := by decide +kernel
theorem dL_law_1348 : decode cL_law 1348 = .ok (.iload 4, 2) := by decide +kernel
theorem dL_law_1350 : decode cL_law 1350 = .ok (.iconst 2, 1) := by decide +kernel
theorem dL_law_1351 : decode cL_law 1351 = .ok (.iadd, 1) := by decide +kernel
theorem dL_law_1352 : decode cL_law 1352 = .ok (.iaload, 1) := by decide +kernel
theorem dL_law_1353 : decode cL_law 1353 = .ok (.invokevirtual 238, 3) := by decide +kernel
theorem dL_law_1356 : decode cL_law 1356 = .ok (.istore 6, 2) := by decide +kernel
theorem dL_law_1358 : decode cL_law 1358 = .ok (.goto 333, 3) := by decide +kernel
theorem dL_law_1361 : decode cL_law 1361 = .ok (.aload_n 1, 1) := by decide +kernel
theorem dL_law_1362 : decode cL_law 1362 = .ok (.invokevirtual 239, 3) := by decide +kernel
theorem dL_law_1365 : decode cL_law 1365 = .ok (.pop, 1) := by decide +kernel
theorem dL_law_1366 : decode cL_law 1366 = .ok (.aload_n 2, 1) := by decide +kernel
theorem dL_law_1367 : decode cL_law 1367 = .ok (.invokevirtual 243, 3) := by decide +kernel
theorem dL_law_1370 : decode cL_law 1370 = .ok (.pop, 1) := by decide +kernel
theorem dL_law_1371 : decode cL_law 1371 = .ok (.goto 320, 3) := by decide +kernel
theorem dL_law_1374 : decode cL_law 1374 = .ok (.aload_n 1, 1) := by decide +kernel
theorem dL_law_1375 : decode cL_law 1375 = .ok (.invokevirtual 244, 3) := by decide +kernel
theorem dL_law_1378 : decode cL_law 1378 = .ok (.pop, 1) := by decide +kernel
theorem dL_law_1379 : decode cL_law 1379 = .ok (.aload_n 2, 1) := by decide +kernel
theorem dL_law_1380 : decode cL_law 1380 = .ok (.invokevirtual 247, 3) := by decide +kernel
theorem dL_law_1383 : decode cL_law 1383 = .ok (.pop, 1) := by decide +kernel
theorem dL_law_1384 : decode cL_law 1384 = .ok (.goto 307, 3) := by decide +kernel
theorem dL_law_1387 : decode cL_law 1387 = .ok (.aload_n 1, 1) := by decide +kernel
theorem dL_law_1388 : decode cL_law 1388 = .ok (.aload_n 0, 1) := by decide +kernel
theorem dL_law_1389 : decode cL_law 1389 = .ok (.iload 4, 2) := by decide +kernel
theorem dL_law_1391 : decode cL_law 1391 = .ok (.iconst 1, 1) := by decide +kernel
theorem dL_law_1392 : decode cL_law 1392 = .ok (.iadd, 1) := by decide +kernel
theorem dL_law_1393 : decode cL_law 1393 = .ok (.iaload, 1) := by decide +kernel
theorem dL_law_1394 : decode cL_law 1394 = .ok (.aload_n 3, 1) := by decide +kernel
theorem dL_law_1395 : decode cL_law 1395 = .ok (.invokestatic 248, 3) := by decide +kernel
theorem dL_law_1398 : decode cL_law 1398 = .ok (.istore 5, 2) := by decide +kernel
theorem dL_law_1400 : decode cL_law 1400 = .ok (.aload_n 2, 1) := by decide +kernel
theorem dL_law_1401 : decode cL_law 1401 = .ok (.aload_n 0, 1) := by decide +kernel
theorem dL_law_1402 : decode cL_law 1402 = .ok (.iload 4, 2) := by decide +kernel
theorem dL_law_1404 : decode cL_law 1404 = .ok (.iconst 1, 1) := by decide +kernel
theorem dL_law_1405 : decode cL_law 1405 = .ok (.iadd, 1) := by decide +kernel
theorem dL_law_1406 : decode cL_law 1406 = .ok (.iaload, 1) := by decide +kernel
theorem dL_law_1407 : decode cL_law 1407 = .ok (.invokevirtual 250, 3) := by decide +kernel
theorem dL_law_1410 : decode cL_law 1410 = .ok (.istore 6, 2) := by decide +kernel
theorem dL_law_1412 : decode cL_law 1412 = .ok (.goto 279, 3) := by decide +kernel
theorem dL_law_1415 : decode cL_law 1415 = .ok (.aload_n 1, 1) := by decide +kernel
theorem dL_law_1416 : decode cL_law 1416 = .ok (.aload_n 0, 1) := by decide +kernel
theorem dL_law_1417 : decode cL_law 1417 = .ok (.iload 4, 2) := by decide +kernel
theorem dL_law_1419 : decode cL_law 1419 = .ok (.iconst 1, 1) := by decide +kernel
theorem dL_law_1420 : decode cL_law 1420 = .ok (.iadd, 1) := by decide +kernel
theorem dL_law_1421 : decode cL_law 1421 = .ok (.iaload, 1) := by decide +kernel
theorem dL_law_1422 : decode cL_law 1422 = .ok (.aload_n 0, 1) := by decide +kernel
theorem dL_law_1423 : decode cL_law 1423 = .ok (.iload 4, 2) := by decide +kernel
theorem dL_law_1425 : decode cL_law 1425 = .ok (.iconst 2, 1) := by decide +kernel
theorem dL_law_1426 : decode cL_law 1426 = .ok (.iadd, 1) := by decide +kernel
theorem dL_law_1427 : decode cL_law 1427 = .ok (.iaload, 1) := by decide +kernel
theorem dL_law_1428 : decode cL_law 1428 = .ok (.aload_n 3, 1) := by decide +kernel
theorem dL_law_1429 : decode cL_law 1429 = .ok (.invokestatic 251, 3) := by decide +kernel
theorem dL_law_1432 : decode cL_law 1432 = .ok (.istore 5, 2) := by decide +kernel
theorem dL_law_1434 : decode cL_law 1434 = .ok (.aload_n 2, 1) := by decide +kernel
theorem dL_law_1435 : decode cL_law 1435 = .ok (.aload_n 0, 1) := by decide +kernel
theorem dL_law_1436 : decode cL_law 1436 = .ok (.iload 4, 2) := by decide +kernel
theorem dL_law_1438 : decode cL_law 1438 = .ok (.iconst 1, 1) := by decide +kernel
theorem dL_law_1439 : decode cL_law 1439 = .ok (.iadd, 1) := by decide +kernel
theorem dL_law_1440 : decode cL_law 1440 = .ok (.iaload, 1) := by decide +kernel
theorem dL_law_1441 : decode cL_law 1441 = .ok (.aload_n 0, 1) := by decide +kernel
theorem dL_law_1442 : decode cL_law 1442 = .ok (.iload 4, 2) := by decide +kernel
theorem dL_law_1444 : decode cL_law 1444 = .ok (.iconst 2, 1) := by decide +kernel
theorem dL_law_1445 : decode cL_law 1445 = .ok (.iadd, 1) := by decide +kernel
theorem dL_law_1446 : decode cL_law 1446 = .ok (.iaload, 1) := by decide +kernel
theorem dL_law_1447 : decode cL_law 1447 = .ok (.invokevirtual 253, 3) := by decide +kernel
theorem dL_law_1450 : decode cL_law 1450 = .ok (.istore 6, 2) := by decide +kernel
theorem dL_law_1452 : decode cL_law 1452 = .ok (.goto 239, 3) := by decide +kernel
theorem dL_law_1455 : decode cL_law 1455 = .ok (.aload_n 1, 1) := by decide +kernel
theorem dL_law_1456 : decode cL_law 1456 = .ok (.aload_n 0, 1) := by decide +kernel
theorem dL_law_1457 : decode cL_law 1457 = .ok (.iload 4, 2) := by decide +kernel
theorem dL_law_1459 : decode cL_law 1459 = .ok (.iconst 1, 1) := by decide +kernel
theorem dL_law_1460 : decode cL_law 1460 = .ok (.iadd, 1) := by decide +kernel
theorem dL_law_1461 : decode cL_law 1461 = .ok (.iaload, 1) := by decide +kernel
theorem dL_law_1462 : decode cL_law 1462 = .ok (.aload_n 0, 1) := by decide +kernel
theorem dL_law_1463 : decode cL_law 1463 = .ok (.iload 4, 2) := by decide +kernel
theorem dL_law_1465 : decode cL_law 1465 = .ok (.iconst 2, 1) := by decide +kernel
theorem dL_law_1466 : decode cL_law 1466 = .ok (.iadd, 1) := by decide +kernel
theorem dL_law_1467 : decode cL_law 1467 = .ok (.iaload, 1) := by decide +kernel
theorem dL_law_1468 : decode cL_law 1468 = .ok (.aload_n 0, 1) := by decide +kernel
theorem dL_law_1469 : decode cL_law 1469 = .ok (.iload 4, 2) := by decide +kernel
theorem dL_law_1471 : decode cL_law 1471 = .ok (.iconst 3, 1) := by decide +kernel
theorem dL_law_1472 : decode cL_law 1472 = .ok (.iadd, 1) := by decide +kernel
theorem dL_law_1473 : decode cL_law 1473 = .ok (.iaload, 1) := by decide +kernel
theorem dL_law_1474 : decode cL_law 1474 = .ok (.invokestatic 254, 3) := by decide +kernel
theorem dL_law_1477 : decode cL_law 1477 = .ok (.istore 5, 2) := by decide +kernel
theorem dL_law_1479 : decode cL_law 1479 = .ok (.aload_n 2, 1) := by decide +kernel
theorem dL_law_1480 : decode cL_law 1480 = .ok (.aload_n 0, 1) := by decide +kernel
theorem dL_law_1481 : decode cL_law 1481 = .ok (.iload 4, 2) := by decide +kernel
theorem dL_law_1483 : decode cL_law 1483 = .ok (.iconst 1, 1) := by decide +kernel
theorem dL_law_1484 : decode cL_law 1484 = .ok (.iadd, 1) := by decide +kernel
theorem dL_law_1485 : decode cL_law 1485 = .ok (.iaload, 1) := by decide +kernel
theorem dL_law_1486 : decode cL_law 1486 = .ok (.aload_n 0, 1) := by decide +kernel
theorem dL_law_1487 : decode cL_law 1487 = .ok (.iload 4, 2) := by decide +kernel
theorem dL_law_1489 : decode cL_law 1489 = .ok (.iconst 2, 1) := by decide +kernel
theorem dL_law_1490 : decode cL_law 1490 = .ok (.iadd, 1) := by decide +kernel
theorem dL_law_1491 : decode cL_law 1491 = .ok (.iaload, 1) := by decide +kernel
theorem dL_law_1492 : decode cL_law 1492 = .ok (.aload_n 0, 1) := by decide +kernel
theorem dL_law_1493 : decode cL_law 1493 = .ok (.iload 4, 2) := by decide +kernel
theorem dL_law_1495 : decode cL_law 1495 = .ok (.iconst 3, 1) := by decide +kernel
theorem dL_law_1496 : decode cL_law 1496 = .ok (.iadd, 1) := by decide +kernel
theorem dL_law_1497 : decode cL_law 1497 = .ok (.iaload, 1) := by decide +kernel
theorem dL_law_1498 : decode cL_law 1498 = .ok (.invokevirtual 257, 3) := by decide +kernel
theorem dL_law_1501 : decode cL_law 1501 = .ok (.goto 190, 3) := by decide +kernel
theorem dL_law_1504 : decode cL_law 1504 = .ok (.aload_n 1, 1) := by decide +kernel
theorem dL_law_1505 : decode cL_law 1505 = .ok (.aload_n 0, 1) := by decide +kernel
theorem dL_law_1506 : decode cL_law 1506 = .ok (.iload 4, 2) := by decide +kernel
theorem dL_law_1508 : decode cL_law 1508 = .ok (.iconst 1, 1) := by decide +kernel
theorem dL_law_1509 : decode cL_law 1509 = .ok (.iadd, 1) := by decide +kernel
theorem dL_law_1510 : decode cL_law 1510 = .ok (.iaload, 1) := by decide +kernel
theorem dL_law_1511 : decode cL_law 1511 = .ok (.aload_n 0, 1) := by decide +kernel
theorem dL_law_1512 : decode cL_law 1512 = .ok (.iload 4, 2) := by decide +kernel
theorem dL_law_1514 : decode cL_law 1514 = .ok (.iconst 2, 1) := by decide +kernel
theorem dL_law_1515 : decode cL_law 1515 = .ok (.iadd, 1) := by decide +kernel
theorem dL_law_1516 : decode cL_law 1516 = .ok (.iaload, 1) := by decide +kernel
theorem dL_law_1517 : decode cL_law 1517 = .ok (.aload_n 0, 1) := by decide +kernel
theorem dL_law_1518 : decode cL_law 1518 = .ok (.iload 4, 2) := by decide +kernel
theorem dL_law_1520 : decode cL_law 1520 = .ok (.iconst 3, 1) := by decide +kernel
theorem dL_law_1521 : decode cL_law 1521 = .ok (.iadd, 1) := by decide +kernel
theorem dL_law_1522 : decode cL_law 1522 = .ok (.iaload, 1) := by decide +kernel
theorem dL_law_1523 : decode cL_law 1523 = .ok (.i2l, 1) := by decide +kernel
theorem dL_law_1524 : decode cL_law 1524 = .ok (.bipush 32, 2) := by decide +kernel
theorem dL_law_1526 : decode cL_law 1526 = .ok (.lshl, 1) := by decide +kernel
theorem dL_law_1527 : decode cL_law 1527 = .ok (.aload_n 0, 1) := by decide +kernel
theorem dL_law_1528 : decode cL_law 1528 = .ok (.iload 4, 2) := by decide +kernel
theorem dL_law_1530 : decode cL_law 1530 = .ok (.iconst 4, 1) := by decide +kernel
theorem dL_law_1531 : decode cL_law 1531 = .ok (.iadd, 1) := by decide +kernel
theorem dL_law_1532 : decode cL_law 1532 = .ok (.iaload, 1) := by decide +kernel
theorem dL_law_1533 : decode cL_law 1533 = .ok (.i2l, 1) := by decide +kernel
theorem dL_law_1534 : decode cL_law 1534 = .ok (.ldc2_w 258, 3) := by decide +kernel
theorem dL_law_1537 : decode cL_law 1537 = .ok (.land, 1) := by decide +kernel
theorem dL_law_1538 : decode cL_law 1538 = .ok (.lor, 1) := by decide +kernel
theorem dL_law_1539 : decode cL_law 1539 = .ok (.aload_n 3, 1) := by decide +kernel
theorem dL_law_1540 : decode cL_law 1540 = .ok (.invokestatic 260, 3) := by decide +kernel
theorem dL_law_1543 : decode cL_law 1543 = .ok (.istore 5, 2) := by decide +kernel
theorem dL_law_1545 : decode cL_law 1545 = .ok (.aload_n 2, 1) := by decide +kernel
theorem dL_law_1546 : decode cL_law 1546 = .ok (.aload_n 0, 1) := by decide +kernel
theorem dL_law_1547 : decode cL_law 1547 = .ok (.iload 4, 2) := by decide +kernel
theorem dL_law_1549 : decode cL_law 1549 = .ok (.iconst 1, 1) := by decide +kernel
theorem dL_law_1550 : decode cL_law 1550 = .ok (.iadd, 1) := by decide +kernel
theorem dL_law_1551 : decode cL_law 1551 = .ok (.iaload, 1) := by decide +kernel
theorem dL_law_1552 : decode cL_law 1552 = .ok (.aload_n 0, 1) := by decide +kernel
theorem dL_law_1553 : decode cL_law 1553 = .ok (.iload 4, 2) := by decide +kernel
theorem dL_law_1555 : decode cL_law 1555 = .ok (.iconst 2, 1) := by decide +kernel
theorem dL_law_1556 : decode cL_law 1556 = .ok (.iadd, 1) := by decide +kernel
theorem dL_law_1557 : decode cL_law 1557 = .ok (.iaload, 1) := by decide +kernel
theorem dL_law_1558 : decode cL_law 1558 = .ok (.aload_n 0, 1) := by decide +kernel
theorem dL_law_1559 : decode cL_law 1559 = .ok (.iload 4, 2) := by decide +kernel
theorem dL_law_1561 : decode cL_law 1561 = .ok (.iconst 3, 1) := by decide +kernel
theorem dL_law_1562 : decode cL_law 1562 = .ok (.iadd, 1) := by decide +kernel
theorem dL_law_1563 : decode cL_law 1563 = .ok (.iaload, 1) := by decide +kernel
theorem dL_law_1564 : decode cL_law 1564 = .ok (.i2l, 1) := by decide +kernel
theorem dL_law_1565 : decode cL_law 1565 = .ok (.bipush 32, 2) := by decide +kernel
theorem dL_law_1567 : decode cL_law 1567 = .ok (.lshl, 1) := by decide +kernel
theorem dL_law_1568 : decode cL_law 1568 = .ok (.aload_n 0, 1) := by decide +kernel
theorem dL_law_1569 : decode cL_law 1569 = .ok (.iload 4, 2) := by decide +kernel
theorem dL_law_1571 : decode cL_law 1571 = .ok (.iconst 4, 1) := by decide +kernel
theorem dL_law_1572 : decode cL_law 1572 = .ok (.iadd, 1) := by decide +kernel
theorem dL_law_1573 : decode cL_law 1573 = .ok (.iaload, 1) := by decide +kernel
theorem dL_law_1574 : decode cL_law 1574 = .ok (.i2l, 1) := by decide +kernel
theorem dL_law_1575 : decode cL_law 1575 = .ok (.ldc2_w 258, 3) := by decide +kernel
theorem dL_law_1578 : decode cL_law 1578 = .ok (.land, 1) := by decide +kernel
theorem dL_law_1579 : decode cL_law 1579 = .ok (.lor, 1) := by decide +kernel
theorem dL_law_1580 : decode cL_law 1580 = .ok (.invokevirtual 263, 3) := by decide +kernel
theorem dL_law_1583 : decode cL_law 1583 = .ok (.lstore 6, 2) := by decide +kernel
theorem dL_law_1585 : decode cL_law 1585 = .ok (.goto 106, 3) := by decide +kernel
theorem dL_law_1588 : decode cL_law 1588 = .ok (.aload_n 1, 1) := by decide +kernel
theorem dL_law_1589 : decode cL_law 1589 = .ok (.aload_n 0, 1) := by decide +kernel
theorem dL_law_1590 : decode cL_law 1590 = .ok (.iload 4, 2) := by decide +kernel
theorem dL_law_1592 : decode cL_law 1592 = .ok (.iconst 1, 1) := by decide +kernel
theorem dL_law_1593 : decode cL_law 1593 = .ok (.iadd, 1) := by decide +kernel
theorem dL_law_1594 : decode cL_law 1594 = .ok (.iaload, 1) := by decide +kernel
theorem dL_law_1595 : decode cL_law 1595 = .ok (.aload_n 3, 1) := by decide +kernel
theorem dL_law_1596 : decode cL_law 1596 = .ok (.invokestatic 264, 3) := by decide +kernel
theorem dL_law_1599 : decode cL_law 1599 = .ok (.istore 5, 2) := by decide +kernel
theorem dL_law_1601 : decode cL_law 1601 = .ok (.aload_n 2, 1) := by decide +kernel
theorem dL_law_1602 : decode cL_law 1602 = .ok (.aload_n 0, 1) := by decide +kernel
theorem dL_law_1603 : decode cL_law 1603 = .ok (.iload 4, 2) := by decide +kernel
theorem dL_law_1605 : decode cL_law 1605 = .ok (.iconst 1, 1) := by decide +kernel
theorem dL_law_1606 : decode cL_law 1606 = .ok (.iadd, 1) := by decide +kernel
theorem dL_law_1607 : decode cL_law 1607 = .ok (.iaload, 1) := by decide +kernel
theorem dL_law_1608 : decode cL_law 1608 = .ok (.invokevirtual 266, 3) := by decide +kernel
theorem dL_law_1611 : decode cL_law 1611 = .ok (.istore 6, 2) := by decide +kernel
theorem dL_law_1613 : decode cL_law 1613 = .ok (.goto 78, 3) := by decide +kernel
theorem dL_law_1616 : decode cL_law 1616 = .ok (.aload_n 1, 1) := by decide +kernel
theorem dL_law_1617 : decode cL_law 1617 = .ok (.aload_n 0, 1) := by decide +kernel
theorem dL_law_1618 : decode cL_law 1618 = .ok (.iload 4, 2) := by decide +kernel
theorem dL_law_1620 : decode cL_law 1620 = .ok (.iconst 1, 1) := by decide +kernel
theorem dL_law_1621 : decode cL_law 1621 = .ok (.iadd, 1) := by decide +kernel
theorem dL_law_1622 : decode cL_law 1622 = .ok (.iaload, 1) := by decide +kernel
theorem dL_law_1623 : decode cL_law 1623 = .ok (.invokestatic 267, 3) := by decide +kernel
theorem dL_law_1626 : decode cL_law 1626 = .ok (.istore 5, 2) := by decide +kernel
theorem dL_law_1628 : decode cL_law 1628 = .ok (.aload_n 2, 1) := by decide +kernel
theorem dL_law_1629 : decode cL_law 1629 = .ok (.aload_n 0, 1) := by decide +kernel
theorem dL_law_1630 : decode cL_law 1630 = .ok (.iload 4, 2) := by decide +kernel
theorem dL_law_1632 : decode cL_law 1632 = .ok (.iconst 1, 1) := by decide +kernel
theorem dL_law_1633 : decode cL_law 1633 = .ok (.iadd, 1) := by decide +kernel
theorem dL_law_1634 : decode cL_law 1634 = .ok (.iaload, 1) := by decide +kernel
theorem dL_law_1635 : decode cL_law 1635 = .ok (.invokevirtual 270, 3) := by decide +kernel
theorem dL_law_1638 : decode cL_law 1638 = .ok (.goto 53, 3) := by decide +kernel
theorem dL_law_1641 : decode cL_law 1641 = .ok (.aload_n 1, 1) := by decide +kernel
theorem dL_law_1642 : decode cL_law 1642 = .ok (.aload_n 0, 1) := by decide +kernel
theorem dL_law_1643 : decode cL_law 1643 = .ok (.iload 4, 2) := by decide +kernel
theorem dL_law_1645 : decode cL_law 1645 = .ok (.iconst 1, 1) := by decide +kernel
theorem dL_law_1646 : decode cL_law 1646 = .ok (.iadd, 1) := by decide +kernel
theorem dL_law_1647 : decode cL_law 1647 = .ok (.iaload, 1) := by decide +kernel
theorem dL_law_1648 : decode cL_law 1648 = .ok (.invokestatic 271, 3) := by decide +kernel
theorem dL_law_1651 : decode cL_law 1651 = .ok (.istore 5, 2) := by decide +kernel
theorem dL_law_1653 : decode cL_law 1653 = .ok (.aload_n 2, 1) := by decide +kernel
theorem dL_law_1654 : decode cL_law 1654 = .ok (.aload_n 0, 1) := by decide +kernel
theorem dL_law_1655 : decode cL_law 1655 = .ok (.iload 4, 2) := by decide +kernel
theorem dL_law_1657 : decode cL_law 1657 = .ok (.iconst 1, 1) := by decide +kernel
theorem dL_law_1658 : decode cL_law 1658 = .ok (.iadd, 1) := by decide +kernel
theorem dL_law_1659 : decode cL_law 1659 = .ok (.iaload, 1) := by decide +kernel
theorem dL_law_1660 : decode cL_law 1660 = .ok (.invokevirtual 273, 3) := by decide +kernel
theorem dL_law_1663 : decode cL_law 1663 = .ok (.goto 28, 3) := by decide +kernel
theorem dL_law_1666 : decode cL_law 1666 = .ok (.aload_n 1, 1) := by decide +kernel
theorem dL_law_1667 : decode cL_law 1667 = .ok (.aload_n 0, 1) := by decide +kernel
theorem dL_law_1668 : decode cL_law 1668 = .ok (.iload 4, 2) := by decide +kernel
theorem dL_law_1670 : decode cL_law 1670 = .ok (.iconst 1, 1) := by decide +kernel
theorem dL_law_1671 : decode cL_law 1671 = .ok (.iadd, 1) := by decide +kernel
theorem dL_law_1672 : decode cL_law 1672 = .ok (.iaload, 1) := by decide +kernel
theorem dL_law_1673 : decode cL_law 1673 = .ok (.invokevirtual 274, 3) := by decide +kernel
theorem dL_law_1676 : decode cL_law 1676 = .ok (.pop, 1) := by decide +kernel
theorem dL_law_1677 : decode cL_law 1677 = .ok (.aload_n 2, 1) := by decide +kernel
theorem dL_law_1678 : decode cL_law 1678 = .ok (.aload_n 0, 1) := by decide +kernel
theorem dL_law_1679 : decode cL_law 1679 = .ok (.iload 4, 2) := by decide +kernel
theorem dL_law_1681 : decode cL_law 1681 = .ok (.iconst 1, 1) := by decide +kernel
theorem dL_law_1682 : decode cL_law 1682 = .ok (.iadd, 1) := by decide +kernel
theorem dL_law_1683 : decode cL_law 1683 = .ok (.iaload, 1) := by decide +kernel
theorem dL_law_1684 : decode cL_law 1684 = .ok (.invokevirtual 277, 3) := by decide +kernel
theorem dL_law_1687 : decode cL_law 1687 = .ok (.pop, 1) := by decide +kernel
theorem dL_law_1688 : decode cL_law 1688 = .ok (.goto 3, 3) := by decide +kernel
set_option maxRecDepth 4000 in
theorem law_c28 {p : Program} {l : Launch} {e : Env} {s : State} {m : MethodId} {below : List Frame} {meth : Method} {c : Code} {b L : Nat} {xs : Nat → Int32} {D : va_G} {cy : Nat → ClassId} {ad : Nat → Nat} {A : Nat → Prop} (hlT : l.stackTraces = false) (F : FxM D cy ad p m c cL_law 8 s #[Value.ref b] RL A) (hX : va_X b L xs s s.heap) (hbl : b < s.heap.size) (hbA : ¬ A b) (hL : L ≤ 3072) (y : Int) (hy0 : 0 ≤ y) (hy1 : y + 6 ≤ (L : Int)) (nk sk : Nat) (hnk : nk ≤ 9000 ∧ sk ≤ 90000) (M : Mem) (hJ : Iw M) (hR : RlD M ∧ RlG M) (ih : ∀ M' : Mem, Iw M' → (RlD M' ∧ RlG M') → Z D cy ad p l e room_1 s m #[Value.ref b] below meth c A 8 (nk + 6) (sk + 36) (lw_Z below #[Value.ref b] s) 23 [(4, ii (y + 6)), (0, .ref b), (1, .ref (ad 0)), (2, .ref (ad 131)), (3, .ref (ad 151))] [] M') : Z D cy ad p l e room_1 s m #[Value.ref b] below meth c A 8 nk sk (lw_Z below #[Value.ref b] s) 1145 [(4, ii y), (0, .ref b), (1, .ref (ad 0)), (2, .ref (ad 131)), (3, .ref (ad 151))] [] M := by
  obtain ⟨hI, hW⟩ := hJ
  have hRT := hR.1.1
  have hRS := hR.1.2
  have hRG := hR.2
  refine z_aload_n F dL_law_1145 rfl (q := 2) rfl ?_
  refine z_aload_n F dL_law_1146 rfl (q := 1) rfl ?_
  refine z_iload F dL_law_1147 (q := 0) rfl ?_
  refine z_iconst F dL_law_1149 ?_
  refine z_iadd F dL_law_1150 ?_
  refine z_sld F hX hbl hbA hL (by omega) (by omega) dL_law_1151 (fun v1 ev1 rv1 => ?_)
  refine z_aload_n F dL_law_1152 rfl (q := 1) rfl ?_
  refine z_iload F dL_law_1153 (q := 0) rfl ?_
  refine z_iconst F dL_law_1155 ?_
  refine z_iadd F dL_law_1156 ?_
  refine z_sld F hX hbl hbA hL (by omega) (by omega) dL_law_1157 (fun v2 ev2 rv2 => ?_)
  refine z_if_eq (tgt := 1165) F dL_law_1158 (by decide +kernel) (by omega) (fun c3 => ?_) (fun c3 => ?_)
  · refine z_iconst F dL_law_1165 ?_
    refine z_aload_n F dL_law_1166 rfl (q := 4) rfl ?_
    have hIp := hI
    refine zh_i (rest := []) F (k_L_goats l hlT M ⟨hI, hW⟩ v1 (by omega) (by omega) 0 (by omega) (by omega)) cs_L_224 ⟨Nat.le_of_ble_eq_true rfl, Nat.le_of_ble_eq_true rfl⟩ ⟨show _ ≤ 601024 by omega, show _ ≤ 7293034 by omega⟩ rfl rfl rfl (Nat.le_of_ble_eq_true rfl) dL_law_1167 (fun v4 M5 rv4 hI p6 => ?_)
    obtain ⟨hI, hW⟩ := hI
    obtain ⟨fp6, xp6⟩ := p6
    have tM5_0_1 : M5 0 1 = M 0 1 := fp6.at (by decide)
    have tM5_131_6 : M5 131 6 = M 131 6 := fp6.at (by decide)
    have hRG : RlG M5 := rg_fr hIp fp6 (by unfold No5; decide) (by unfold NoI No5; decide) (by unfold NoG; decide) hRG
    have hRT : RlT M5 := rl_fr fp6 (by decide) hRT
    have hRS : RlS M5 := rs_fr hIp fp6 (by decide) (by decide) (by decide) (by unfold No5; decide) (by unfold NoI No5; decide) hRS
    refine z_istore F dL_law_1170 (by decide) (ls' := [(5, ii v4), (4, ii y), (0, .ref b), (1, .ref (ad 0)), (2, .ref (ad 131)), (3, .ref (ad 151))]) rfl ?_
    refine z_aload_n F dL_law_1172 rfl (q := 4) rfl ?_
    refine z_aload_n F dL_law_1173 rfl (q := 2) rfl ?_
    refine z_iload F dL_law_1174 (q := 1) rfl ?_
    refine z_iconst F dL_law_1176 ?_
    refine z_iadd F dL_law_1177 ?_
    refine z_sld F hX hbl hbA hL (by omega) (by omega) dL_law_1178 (fun v7 ev7 rv7 => ?_)
    have zv7 : v1 = v7 := ev1.trans ev7.symm
    subst zv7
    refine z_aload_n F dL_law_1179 rfl (q := 2) rfl ?_
    refine z_iload F dL_law_1180 (q := 1) rfl ?_
    refine z_iconst F dL_law_1182 ?_
    refine z_iadd F dL_law_1183 ?_
    refine z_sld F hX hbl hbA hL (by omega) (by omega) dL_law_1184 (fun v8 ev8 rv8 => ?_)
    have zv8 : v2 = v8 := ev2.trans ev8.symm
    subst zv8
    refine z_if_eq (tgt := 1192) F dL_law_1185 (by decide +kernel) (by omega) (fun c9 => ?_) (fun c9 => by exfalso; omega)
    refine z_iconst F dL_law_1192 ?_
    have hIp := hI
    refine zl_i (rest := []) F (k_X12_goats l M5 ⟨hI, hW⟩ v1 (by omega) (by omega) 0 (by omega) (by omega)) cs_L_227 (T := TX12) (N := 44) (ci := 12) rfl gs_131 ⟨Nat.le_of_ble_eq_true rfl, Nat.le_of_ble_eq_true rfl⟩ ⟨show _ ≤ 601024 by omega, show _ ≤ 7293034 by omega⟩ rfl rfl rfl (Nat.le_of_ble_eq_true rfl) dL_law_1193 (fun v10 M11 rv10 hI p12 => ?_)
    obtain ⟨hI, hW⟩ := hI
    obtain ⟨⟨av10, bv10⟩, fp12⟩ := p12
    have tM11_0_1 : M11 0 1 = M5 0 1 := fp12.at (by decide)
    have tM11_131_6 : M11 131 6 = M5 131 6 := fp12.t6 (by decide)
    have hRG : RlG M11 := rg_fr hIp fp12 (by unfold No5; decide) (by unfold NoI No5; decide) (by unfold NoG; decide) hRG
    have hRT : RlT M11 := rl_fr fp12 (by decide) hRT
    have hRS : RlS M11 := rs_fr hIp fp12 (by decide) (by decide) (by decide) (by unfold No5; decide) (by unfold NoI No5; decide) hRS
    refine z_istore F dL_law_1196 (by decide) (ls' := [(6, ii v10), (5, ii v4), (4, ii y), (0, .ref b), (1, .ref (ad 0)), (2, .ref (ad 131)), (3, .ref (ad 151))]) rfl ?_
    refine z_goto (tgt := 1691) F dL_law_1198 (by decide +kernel) ?_
    refine z_iincN F dL_law_1691 (q := 2) rfl (by decide) (fun w e => ?_)
    subst e
    refine z_eq (ls' := [(4, ii (y + 6)), (6, ii v10), (5, ii v4), (0, .ref b), (1, .ref (ad 0)), (2, .ref (ad 131)), (3, .ref (ad 151))]) rfl rfl rfl ?_
    refine z_goto (tgt := 23) F dL_law_1694 (by decide +kernel) ?_
    refine z_loc [0, 3, 4, 5, 6] (ls' := [(4, ii (y + 6)), (0, .ref b), (1, .ref (ad 0)), (2, .ref (ad 131)), (3, .ref (ad 151))]) rfl ?_
    refine z_wide (n1 := nk + 6) (s1 := sk + 36) (by omega) (by omega) ?_
    exact ih _ ⟨hI, hW⟩ ⟨⟨hRT, hRS⟩, hRG⟩
  · refine z_iconst F dL_law_1161 ?_
    refine z_goto (tgt := 1166) F dL_law_1162 (by decide +kernel) ?_
    refine z_aload_n F dL_law_1166 rfl (q := 4) rfl ?_
    have hIp := hI
    refine zh_i (rest := []) F (k_L_goats l hlT M ⟨hI, hW⟩ v1 (by omega) (by omega) 1 (by omega) (by omega)) cs_L_224 ⟨Nat.le_of_ble_eq_true rfl, Nat.le_of_ble_eq_true rfl⟩ ⟨show _ ≤ 601024 by omega, show _ ≤ 7293034 by omega⟩ rfl rfl rfl (Nat.le_of_ble_eq_true rfl) dL_law_1167 (fun v13 M14 rv13 hI p15 => ?_)
    obtain ⟨hI, hW⟩ := hI
    obtain ⟨fp15, xp15⟩ := p15
    have tM14_0_1 : M14 0 1 = M 0 1 := fp15.at (by decide)
    have tM14_131_6 : M14 131 6 = M 131 6 := fp15.at (by decide)
    have hRG : RlG M14 := rg_fr hIp fp15 (by unfold No5; decide) (by unfold NoI No5; decide) (by unfold NoG; decide) hRG
    have hRT : RlT M14 := rl_fr fp15 (by decide) hRT
    have hRS : RlS M14 := rs_fr hIp fp15 (by decide) (by decide) (by decide) (by unfold No5; decide) (by unfold NoI No5; decide) hRS
    refine z_istore F dL_law_1170 (by decide) (ls' := [(5, ii v13), (4, ii y), (0, .ref b), (1, .ref (ad 0)), (2, .ref (ad 131)), (3, .ref (ad 151))]) rfl ?_
    refine z_aload_n F dL_law_1172 rfl (q := 4) rfl ?_
    refine z_aload_n F dL_law_1173 rfl (q := 2) rfl ?_
    refine z_iload F dL_law_1174 (q := 1) rfl ?_
    refine z_iconst F dL_law_1176 ?_
    refine z_iadd F dL_law_1177 ?_
    refine z_sld F hX hbl hbA hL (by omega) (by omega) dL_law_1178 (fun v16 ev16 rv16 => ?_)
    have zv16 : v1 = v16 := ev1.trans ev16.symm
    subst zv16
    refine z_aload_n F dL_law_1179 rfl (q := 2) rfl ?_
    refine z_iload F dL_law_1180 (q := 1) rfl ?_
    refine z_iconst F dL_law_1182 ?_
    refine z_iadd F dL_law_1183 ?_
    refine z_sld F hX hbl hbA hL (by omega) (by omega) dL_law_1184 (fun v17 ev17 rv17 => ?_)
    have zv17 : v2 = v17 := ev2.trans ev17.symm
    subst zv17
    refine z_if_eq (tgt := 1192) F dL_law_1185 (by decide +kernel) (by omega) (fun c18 => ?_) (fun c18 => ?_)
    · refine z_iconst F dL_law_1192 ?_
      have hIp := hI
      refine zl_i (rest := []) F (k_X12_goats l M14 ⟨hI, hW⟩ v1 (by omega) (by omega) 0 (by omega) (by omega)) cs_L_227 (T := TX12) (N := 44) (ci := 12) rfl gs_131 ⟨Nat.le_of_ble_eq_true rfl, Nat.le_of_ble_eq_true rfl⟩ ⟨show _ ≤ 601024 by omega, show _ ≤ 7293034 by omega⟩ rfl rfl rfl (Nat.le_of_ble_eq_true rfl) dL_law_1193 (fun v19 M20 rv19 hI p21 => ?_)
      obtain ⟨hI, hW⟩ := hI
      obtain ⟨⟨av19, bv19⟩, fp21⟩ := p21
      have tM20_0_1 : M20 0 1 = M14 0 1 := fp21.at (by decide)
      have tM20_131_6 : M20 131 6 = M14 131 6 := fp21.t6 (by decide)
      have hRG : RlG M20 := rg_fr hIp fp21 (by unfold No5; decide) (by unfold NoI No5; decide) (by unfold NoG; decide) hRG
      have hRT : RlT M20 := rl_fr fp21 (by decide) hRT
      have hRS : RlS M20 := rs_fr hIp fp21 (by decide) (by decide) (by decide) (by unfold No5; decide) (by unfold NoI No5; decide) hRS
      refine z_istore F dL_law_1196 (by decide) (ls' := [(6, ii v19), (5, ii v13), (4, ii y), (0, .ref b), (1, .ref (ad 0)), (2, .ref (ad 131)), (3, .ref (ad 151))]) rfl ?_
      refine z_goto (tgt := 1691) F dL_law_1198 (by decide +kernel) ?_
      refine z_iincN F dL_law_1691 (q := 2) rfl (by decide) (fun w e => ?_)
      subst e
      refine z_eq (ls' := [(4, ii (y + 6)), (6, ii v19), (5, ii v13), (0, .ref b), (1, .ref (ad 0)), (2, .ref (ad 131)), (3, .ref (ad 151))]) rfl rfl rfl ?_
      refine z_goto (tgt := 23) F dL_law_1694 (by decide +kernel) ?_
      refine z_loc [0, 3, 4, 5, 6] (ls' := [(4, ii (y + 6)), (0, .ref b), (1, .ref (ad 0)), (2, .ref (ad 131)), (3, .ref (ad 151))]) rfl ?_
      refine z_wide (n1 := nk + 6) (s1 := sk + 36) (by omega) (by omega) ?_
      exact ih _ ⟨hI, hW⟩ ⟨⟨hRT, hRS⟩, hRG⟩
    · refine z_iconst F dL_law_1188 ?_
      refine z_goto (tgt := 1193) F dL_law_1189 (by decide +kernel) ?_
      have hIp := hI
      refine zl_i (rest := []) F (k_X12_goats l M14 ⟨hI, hW⟩ v1 (by omega) (by omega) 1 (by omega) (by omega)) cs_L_227 (T := TX12) (N := 44) (ci := 12) rfl gs_131 ⟨Nat.le_of_ble_eq_true rfl, Nat.le_of_ble_eq_true rfl⟩ ⟨show _ ≤ 601024 by omega, show _ ≤ 7293034 by omega⟩ rfl rfl rfl (Nat.le_of_ble_eq_true rfl) dL_law_1193 (fun v22 M23 rv22 hI p24 => ?_)
      obtain ⟨hI, hW⟩ := hI
      obtain ⟨⟨av22, bv22⟩, fp24⟩ := p24
      have tM23_0_1 : M23 0 1 = M14 0 1 := fp24.at (by decide)
      have tM23_131_6 : M23 131 6 = M14 131 6 := fp24.t6 (by decide)
      have hRG : RlG M23 := rg_fr hIp fp24 (by unfold No5; decide) (by unfold NoI No5; decide) (by unfold NoG; decide) hRG
      have hRT : RlT M23 := rl_fr fp24 (by decide) hRT
      have hRS : RlS M23 := rs_fr hIp fp24 (by decide) (by decide) (by decide) (by unfold No5; decide) (by unfold NoI No5; decide) hRS
      refine z_istore F dL_law_1196 (by decide) (ls' := [(6, ii v22), (5, ii v13), (4, ii y), (0, .ref b), (1, .ref (ad 0)), (2, .ref (ad 131)), (3, .ref (ad 151))]) rfl ?_
      refine z_goto (tgt := 1691) F dL_law_1198 (by decide +kernel) ?_
      refine z_iincN F dL_law_1691 (q := 2) rfl (by decide) (fun w e => ?_)
      subst e
      refine z_eq (ls' := [(4, ii (y + 6)), (6, ii v22), (5, ii v13), (0, .ref b), (1, .ref (ad 0)), (2, .ref (ad 131)), (3, .ref (ad 151))]) rfl rfl rfl ?_
      refine z_goto (tgt := 23) F dL_law_1694 (by decide +kernel) ?_
      refine z_loc [0, 3, 4, 5, 6] (ls' := [(4, ii (y + 6)), (0, .ref b), (1, .ref (ad 0)), (2, .ref (ad 131)), (3, .ref (ad 151))]) rfl ?_
      refine z_wide (n1 := nk + 6) (s1 := sk + 36) (by omega) (by omega) ?_
      exact ih _ ⟨hI, hW⟩ ⟨⟨hRT, hRS⟩, hRG⟩
set_option maxRecDepth 4000 in
theorem law_c29 {p : Program} {l : Launch} {e : Env} {s : State} {m : MethodId} {below : List Frame} {meth : Method} {c : Code} {b L : Nat} {xs : Nat → Int32} {D : va_G} {cy : Nat → ClassId} {ad : Nat → Nat} {A : Nat → Prop} (hlT : l.stackTraces = false) (F : FxM D cy ad p m c cL_law 8 s #[Value.ref b] RL A) (hX : va_X b L xs s s.heap) (hbl : b < s.heap.size) (hbA : ¬ A b) (hL : L ≤ 3072) (y : Int) (hy0 : 0 ≤ y) (hy1 : y + 6 ≤ (L : Int)) (nk sk : Nat) (hnk : nk ≤ 9000 ∧ sk ≤ 90000) (M : Mem) (hJ : Iw M) (hR : RlD M ∧ RlG M) (ih : ∀ M' : Mem, Iw M' → (RlD M' ∧ RlG M') → Z D cy ad p l e room_1 s m #[Value.ref b] below meth c A 8 (nk + 6) (sk + 36) (lw_Z below #[Value.ref b] s) 23 [(4, ii (y + 6)), (0, .ref b), (1, .ref (ad 0)), (2, .ref (ad 131)), (3, .ref (ad 151))] [] M') : Z D cy ad p l e room_1 s m #[Value.ref b] below meth c A 8 nk sk (lw_Z below #[Value.ref b] s) 1201 [(4, ii y), (0, .ref b), (1, .ref (ad 0)), (2, .ref (ad 131)), (3, .ref (ad 151))] [] M := by
  obtain ⟨hI, hW⟩ := hJ
  have hRT := hR.1.1
  have hRS := hR.1.2
  have hRG := hR.2
  refine z_aload_n F dL_law_1201 rfl (q := 2) rfl ?_
  refine z_aload_n F dL_law_1202 rfl (q := 1) rfl ?_
  refine z_iload F dL_law_1203 (q := 0) rfl ?_
  refine z_iconst F dL_law_1205 ?_
  refine z_iadd F dL_law_1206 ?_
  refine z_sld F hX hbl hbA hL (by omega) (by omega) dL_law_1207 (fun v1 ev1 rv1 => ?_)
  refine z_aload_n F dL_law_1208 rfl (q := 1) rfl ?_
  refine z_iload F dL_law_1209 (q := 0) rfl ?_
  refine z_iconst F dL_law_1211 ?_
  refine z_iadd F dL_law_1212 ?_
  refine z_sld F hX hbl hbA hL (by omega) (by omega) dL_law_1213 (fun v2 ev2 rv2 => ?_)
  refine z_if_eq (tgt := 1221) F dL_law_1214 (by decide +kernel) (by omega) (fun c3 => ?_) (fun c3 => ?_)
  · refine z_iconst F dL_law_1221 ?_
    refine z_aload_n F dL_law_1222 rfl (q := 1) rfl ?_
    refine z_iload F dL_law_1223 (q := 0) rfl ?_
    refine z_iconst F dL_law_1225 ?_
    refine z_iadd F dL_law_1226 ?_
    refine z_sld F hX hbl hbA hL (by omega) (by omega) dL_law_1227 (fun v4 ev4 rv4 => ?_)
    refine z_aload_n F dL_law_1228 rfl (q := 4) rfl ?_
    have hIp := hI
    refine zh_i (rest := []) F (k_L_bestRow l hlT M ⟨hI, hW⟩ v1 (by omega) (by omega) 0 (by omega) (by omega) v4 (by omega) (by omega)) cs_L_228 ⟨Nat.le_of_ble_eq_true rfl, Nat.le_of_ble_eq_true rfl⟩ ⟨show _ ≤ 601024 by omega, show _ ≤ 7293034 by omega⟩ rfl rfl rfl (Nat.le_of_ble_eq_true rfl) dL_law_1229 (fun v5 M6 rv5 hI p7 => ?_)
    obtain ⟨hI, hW⟩ := hI
    obtain ⟨fp7, xp7⟩ := p7
    have tM6_0_1 : M6 0 1 = M 0 1 := fp7.at (by decide)
    have tM6_131_6 : M6 131 6 = M 131 6 := fp7.at (by decide)
    have hRG : RlG M6 := rg_fr hIp fp7 (by unfold No5; decide) (by unfold NoI No5; decide) (by unfold NoG; decide) hRG
    have hRT : RlT M6 := rl_fr fp7 (by decide) hRT
    have hRS : RlS M6 := rs_fr hIp fp7 (by decide) (by decide) (by decide) (by unfold No5; decide) (by unfold NoI No5; decide) hRS
    refine z_istore F dL_law_1232 (by decide) (ls' := [(5, ii v5), (4, ii y), (0, .ref b), (1, .ref (ad 0)), (2, .ref (ad 131)), (3, .ref (ad 151))]) rfl ?_
    refine z_aload_n F dL_law_1234 rfl (q := 4) rfl ?_
    refine z_aload_n F dL_law_1235 rfl (q := 2) rfl ?_
    refine z_iload F dL_law_1236 (q := 1) rfl ?_
    refine z_iconst F dL_law_1238 ?_
    refine z_iadd F dL_law_1239 ?_
    refine z_sld F hX hbl hbA hL (by omega) (by omega) dL_law_1240 (fun v8 ev8 rv8 => ?_)
    have zv8 : v1 = v8 := ev1.trans ev8.symm
    subst zv8
    refine z_aload_n F dL_law_1241 rfl (q := 2) rfl ?_
    refine z_iload F dL_law_1242 (q := 1) rfl ?_
    refine z_iconst F dL_law_1244 ?_
    refine z_iadd F dL_law_1245 ?_
    refine z_sld F hX hbl hbA hL (by omega) (by omega) dL_law_1246 (fun v9 ev9 rv9 => ?_)
    have zv9 : v2 = v9 := ev2.trans ev9.symm
    subst zv9
    refine z_if_eq (tgt := 1254) F dL_law_1247 (by decide +kernel) (by omega) (fun c10 => ?_) (fun c10 => by exfalso; omega)
    refine z_iconst F dL_law_1254 ?_
    refine z_aload_n F dL_law_1255 rfl (q := 2) rfl ?_
    refine z_iload F dL_law_1256 (q := 1) rfl ?_
    refine z_iconst F dL_law_1258 ?_
    refine z_iadd F dL_law_1259 ?_
    refine z_sld F hX hbl hbA hL (by omega) (by omega) dL_law_1260 (fun v11 ev11 rv11 => ?_)
    have zv11 : v4 = v11 := ev4.trans ev11.symm
    subst zv11
    have hIp := hI
    refine zl_i (rest := []) F (k_X12_bestRow l M6 ⟨hI, hW⟩ v1 (by omega) (by omega) 0 (by omega) (by omega) v4 (by omega) (by omega)) cs_L_231 (T := TX12) (N := 44) (ci := 12) rfl gs_131 ⟨Nat.le_of_ble_eq_true rfl, Nat.le_of_ble_eq_true rfl⟩ ⟨show _ ≤ 601024 by omega, show _ ≤ 7293034 by omega⟩ rfl rfl rfl (Nat.le_of_ble_eq_true rfl) dL_law_1261 (fun v12 M13 rv12 hI p14 => ?_)
    obtain ⟨hI, hW⟩ := hI
    obtain ⟨⟨av12, bv12⟩, fp14⟩ := p14
    have tM13_0_1 : M13 0 1 = M6 0 1 := fp14.at (by decide)
    have tM13_131_6 : M13 131 6 = M6 131 6 := fp14.t6 (by decide)
    have hRG : RlG M13 := rg_fr hIp fp14 (by unfold No5; decide) (by unfold NoI No5; decide) (by unfold NoG; decide) hRG
    have hRT : RlT M13 := rl_fr fp14 (by decide) hRT
    have hRS : RlS M13 := rs_fr hIp fp14 (by decide) (by decide) (by decide) (by unfold No5; decide) (by unfold NoI No5; decide) hRS
    refine z_istore F dL_law_1264 (by decide) (ls' := [(6, ii v12), (5, ii v5), (4, ii y), (0, .ref b), (1, .ref (ad 0)), (2, .ref (ad 131)), (3, .ref (ad 151))]) rfl ?_
    refine z_goto (tgt := 1691) F dL_law_1266 (by decide +kernel) ?_
    refine z_iincN F dL_law_1691 (q := 2) rfl (by decide) (fun w e => ?_)
    subst e
    refine z_eq (ls' := [(4, ii (y + 6)), (6, ii v12), (5, ii v5), (0, .ref b), (1, .ref (ad 0)), (2, .ref (ad 131)), (3, .ref (ad 151))]) rfl rfl rfl ?_
    refine z_goto (tgt := 23) F dL_law_1694 (by decide +kernel) ?_
    refine z_loc [0, 3, 4, 5, 6] (ls' := [(4, ii (y + 6)), (0, .ref b), (1, .ref (ad 0)), (2, .ref (ad 131)), (3, .ref (ad 151))]) rfl ?_
    refine z_wide (n1 := nk + 6) (s1 := sk + 36) (by omega) (by omega) ?_
    exact ih _ ⟨hI, hW⟩ ⟨⟨hRT, hRS⟩, hRG⟩
  · refine z_iconst F dL_law_1217 ?_
    refine z_goto (tgt := 1222) F dL_law_1218 (by decide +kernel) ?_
    refine z_aload_n F dL_law_1222 rfl (q := 1) rfl ?_
    refine z_iload F dL_law_1223 (q := 0) rfl ?_
    refine z_iconst F dL_law_1225 ?_
    refine z_iadd F dL_law_1226 ?_
    refine z_sld F hX hbl hbA hL (by omega) (by omega) dL_law_1227 (fun v15 ev15 rv15 => ?_)
    refine z_aload_n F dL_law_1228 rfl (q := 4) rfl ?_
    have hIp := hI
    refine zh_i (rest := []) F (k_L_bestRow l hlT M ⟨hI, hW⟩ v1 (by omega) (by omega) 1 (by omega) (by omega) v15 (by omega) (by omega)) cs_L_228 ⟨Nat.le_of_ble_eq_true rfl, Nat.le_of_ble_eq_true rfl⟩ ⟨show _ ≤ 601024 by omega, show _ ≤ 7293034 by omega⟩ rfl rfl rfl (Nat.le_of_ble_eq_true rfl) dL_law_1229 (fun v16 M17 rv16 hI p18 => ?_)
    obtain ⟨hI, hW⟩ := hI
    obtain ⟨fp18, xp18⟩ := p18
    have tM17_0_1 : M17 0 1 = M 0 1 := fp18.at (by decide)
    have tM17_131_6 : M17 131 6 = M 131 6 := fp18.at (by decide)
    have hRG : RlG M17 := rg_fr hIp fp18 (by unfold No5; decide) (by unfold NoI No5; decide) (by unfold NoG; decide) hRG
    have hRT : RlT M17 := rl_fr fp18 (by decide) hRT
    have hRS : RlS M17 := rs_fr hIp fp18 (by decide) (by decide) (by decide) (by unfold No5; decide) (by unfold NoI No5; decide) hRS
    refine z_istore F dL_law_1232 (by decide) (ls' := [(5, ii v16), (4, ii y), (0, .ref b), (1, .ref (ad 0)), (2, .ref (ad 131)), (3, .ref (ad 151))]) rfl ?_
    refine z_aload_n F dL_law_1234 rfl (q := 4) rfl ?_
    refine z_aload_n F dL_law_1235 rfl (q := 2) rfl ?_
    refine z_iload F dL_law_1236 (q := 1) rfl ?_
    refine z_iconst F dL_law_1238 ?_
    refine z_iadd F dL_law_1239 ?_
    refine z_sld F hX hbl hbA hL (by omega) (by omega) dL_law_1240 (fun v19 ev19 rv19 => ?_)
    have zv19 : v1 = v19 := ev1.trans ev19.symm
    subst zv19
    refine z_aload_n F dL_law_1241 rfl (q := 2) rfl ?_
    refine z_iload F dL_law_1242 (q := 1) rfl ?_
    refine z_iconst F dL_law_1244 ?_
    refine z_iadd F dL_law_1245 ?_
    refine z_sld F hX hbl hbA hL (by omega) (by omega) dL_law_1246 (fun v20 ev20 rv20 => ?_)
    have zv20 : v2 = v20 := ev2.trans ev20.symm
    subst zv20
    refine z_if_eq (tgt := 1254) F dL_law_1247 (by decide +kernel) (by omega) (fun c21 => ?_) (fun c21 => ?_)
    · refine z_iconst F dL_law_1254 ?_
      refine z_aload_n F dL_law_1255 rfl (q := 2) rfl ?_
      refine z_iload F dL_law_1256 (q := 1) rfl ?_
      refine z_iconst F dL_law_1258 ?_
      refine z_iadd F dL_law_1259 ?_
      refine z_sld F hX hbl hbA hL (by omega) (by omega) dL_law_1260 (fun v22 ev22 rv22 => ?_)
      have zv22 : v15 = v22 := ev15.trans ev22.symm
      subst zv22
      have hIp := hI
      refine zl_i (rest := []) F (k_X12_bestRow l M17 ⟨hI, hW⟩ v1 (by omega) (by omega) 0 (by omega) (by omega) v15 (by omega) (by omega)) cs_L_231 (T := TX12) (N := 44) (ci := 12) rfl gs_131 ⟨Nat.le_of_ble_eq_true rfl, Nat.le_of_ble_eq_true rfl⟩ ⟨show _ ≤ 601024 by omega, show _ ≤ 7293034 by omega⟩ rfl rfl rfl (Nat.le_of_ble_eq_true rfl) dL_law_1261 (fun v23 M24 rv23 hI p25 => ?_)
      obtain ⟨hI, hW⟩ := hI
      obtain ⟨⟨av23, bv23⟩, fp25⟩ := p25
      have tM24_0_1 : M24 0 1 = M17 0 1 := fp25.at (by decide)
      have tM24_131_6 : M24 131 6 = M17 131 6 := fp25.t6 (by decide)
      have hRG : RlG M24 := rg_fr hIp fp25 (by unfold No5; decide) (by unfold NoI No5; decide) (by unfold NoG; decide) hRG
      have hRT : RlT M24 := rl_fr fp25 (by decide) hRT
      have hRS : RlS M24 := rs_fr hIp fp25 (by decide) (by decide) (by decide) (by unfold No5; decide) (by unfold NoI No5; decide) hRS
      refine z_istore F dL_law_1264 (by decide) (ls' := [(6, ii v23), (5, ii v16), (4, ii y), (0, .ref b), (1, .ref (ad 0)), (2, .ref (ad 131)), (3, .ref (ad 151))]) rfl ?_
      refine z_goto (tgt := 1691) F dL_law_1266 (by decide +kernel) ?_
      refine z_iincN F dL_law_1691 (q := 2) rfl (by decide) (fun w e => ?_)
      subst e
      refine z_eq (ls' := [(4, ii (y + 6)), (6, ii v23), (5, ii v16), (0, .ref b), (1, .ref (ad 0)), (2, .ref (ad 131)), (3, .ref (ad 151))]) rfl rfl rfl ?_
      refine z_goto (tgt := 23) F dL_law_1694 (by decide +kernel) ?_
      refine z_loc [0, 3, 4, 5, 6] (ls' := [(4, ii (y + 6)), (0, .ref b), (1, .ref (ad 0)), (2, .ref (ad 131)), (3, .ref (ad 151))]) rfl ?_
      refine z_wide (n1 := nk + 6) (s1 := sk + 36) (by omega) (by omega) ?_
      exact ih _ ⟨hI, hW⟩ ⟨⟨hRT, hRS⟩, hRG⟩
    · refine z_iconst F dL_law_1250 ?_
      refine z_goto (tgt := 1255) F dL_law_1251 (by decide +kernel) ?_
      refine z_aload_n F dL_law_1255 rfl (q := 2) rfl ?_
      refine z_iload F dL_law_1256 (q := 1) rfl ?_
      refine z_iconst F dL_law_1258 ?_
      refine z_iadd F dL_law_1259 ?_
      refine z_sld F hX hbl hbA hL (by omega) (by omega) dL_law_1260 (fun v26 ev26 rv26 => ?_)
      have zv26 : v15 = v26 := ev15.trans ev26.symm
      subst zv26
      have hIp := hI
      refine zl_i (rest := []) F (k_X12_bestRow l M17 ⟨hI, hW⟩ v1 (by omega) (by omega) 1 (by omega) (by omega) v15 (by omega) (by omega)) cs_L_231 (T := TX12) (N := 44) (ci := 12) rfl gs_131 ⟨Nat.le_of_ble_eq_true rfl, Nat.le_of_ble_eq_true rfl⟩ ⟨show _ ≤ 601024 by omega, show _ ≤ 7293034 by omega⟩ rfl rfl rfl (Nat.le_of_ble_eq_true rfl) dL_law_1261 (fun v27 M28 rv27 hI p29 => ?_)
      obtain ⟨hI, hW⟩ := hI
      obtain ⟨⟨av27, bv27⟩, fp29⟩ := p29
      have tM28_0_1 : M28 0 1 = M17 0 1 := fp29.at (by decide)
      have tM28_131_6 : M28 131 6 = M17 131 6 := fp29.t6 (by decide)
      have hRG : RlG M28 := rg_fr hIp fp29 (by unfold No5; decide) (by unfold NoI No5; decide) (by unfold NoG; decide) hRG
      have hRT : RlT M28 := rl_fr fp29 (by decide) hRT
      have hRS : RlS M28 := rs_fr hIp fp29 (by decide) (by decide) (by decide) (by unfold No5; decide) (by unfold NoI No5; decide) hRS
      refine z_istore F dL_law_1264 (by decide) (ls' := [(6, ii v27), (5, ii v16), (4, ii y), (0, .ref b), (1, .ref (ad 0)), (2, .ref (ad 131)), (3, .ref (ad 151))]) rfl ?_
      refine z_goto (tgt := 1691) F dL_law_1266 (by decide +kernel) ?_
      refine z_iincN F dL_law_1691 (q := 2) rfl (by decide) (fun w e => ?_)
      subst e
      refine z_eq (ls' := [(4, ii (y + 6)), (6, ii v27), (5, ii v16), (0, .ref b), (1, .ref (ad 0)), (2, .ref (ad 131)), (3, .ref (ad 151))]) rfl rfl rfl ?_
      refine z_goto (tgt := 23) F dL_law_1694 (by decide +kernel) ?_
      refine z_loc [0, 3, 4, 5, 6] (ls' := [(4, ii (y + 6)), (0, .ref b), (1, .ref (ad 0)), (2, .ref (ad 131)), (3, .ref (ad 151))]) rfl ?_
      refine z_wide (n1 := nk + 6) (s1 := sk + 36) (by omega) (by omega) ?_
      exact ih _ ⟨hI, hW⟩ ⟨⟨hRT, hRS⟩, hRG⟩
set_option maxRecDepth 4000 in
theorem law_c30 {p : Program} {l : Launch} {e : Env} {s : State} {m : MethodId} {below : List Frame} {meth : Method} {c : Code} {b L : Nat} {xs : Nat → Int32} {D : va_G} {cy : Nat → ClassId} {ad : Nat → Nat} {A : Nat → Prop} (hlT : l.stackTraces = false) (F : FxM D cy ad p m c cL_law 8 s #[Value.ref b] RL A) (hX : va_X b L xs s s.heap) (hbl : b < s.heap.size) (hbA : ¬ A b) (hL : L ≤ 3072) (y : Int) (hy0 : 0 ≤ y) (hy1 : y + 6 ≤ (L : Int)) (nk sk : Nat) (hnk : nk ≤ 9000 ∧ sk ≤ 90000) (M : Mem) (hJ : Iw M) (hR : RlD M ∧ RlG M) (ih : ∀ M' : Mem, Iw M' → (RlD M' ∧ RlG M') → Z D cy ad p l e room_1 s m #[Value.ref b] below meth c A 8 (nk + 6) (sk + 36) (lw_Z below #[Value.ref b] s) 23 [(4, ii (y + 6)), (0, .ref b), (1, .ref (ad 0)), (2, .ref (ad 131)), (3, .ref (ad 151))] [] M') : Z D cy ad p l e room_1 s m #[Value.ref b] below meth c A 8 nk sk (lw_Z below #[Value.ref b] s) 1269 [(4, ii y), (0, .ref b), (1, .ref (ad 0)), (2, .ref (ad 131)), (3, .ref (ad 151))] [] M := by
  obtain ⟨hI, hW⟩ := hJ
  have hRT := hR.1.1
  have hRS := hR.1.2
  have hRG := hR.2
  refine z_aload_n F dL_law_1269 rfl (q := 2) rfl ?_
  refine z_aload_n F dL_law_1270 rfl (q := 1) rfl ?_
  refine z_iload F dL_law_1271 (q := 0) rfl ?_
  refine z_iconst F dL_law_1273 ?_
  refine z_iadd F dL_law_1274 ?_
  refine z_sld F hX hbl hbA hL (by omega) (by omega) dL_law_1275 (fun v1 ev1 rv1 => ?_)
  refine z_aload_n F dL_law_1276 rfl (q := 1) rfl ?_
  refine z_iload F dL_law_1277 (q := 0) rfl ?_
  refine z_iconst F dL_law_1279 ?_
  refine z_iadd F dL_law_1280 ?_
  refine z_sld F hX hbl hbA hL (by omega) (by omega) dL_law_1281 (fun v2 ev2 rv2 => ?_)
  refine z_aload_n F dL_law_1282 rfl (q := 1) rfl ?_
  refine z_iload F dL_law_1283 (q := 0) rfl ?_
  refine z_iconst F dL_law_1285 ?_
  refine z_iadd F dL_law_1286 ?_
  refine z_sld F hX hbl hbA hL (by omega) (by omega) dL_law_1287 (fun v3 ev3 rv3 => ?_)
  refine z_aload_n F dL_law_1288 rfl (q := 4) rfl ?_
  have hIp := hI
  refine zh_i (rest := []) F (k_L_seats l hlT M ⟨hI, hW⟩ v1 (by omega) (by omega) v2 (by omega) (by omega) v3 (by omega) (by omega)) cs_L_232 ⟨Nat.le_of_ble_eq_true rfl, Nat.le_of_ble_eq_true rfl⟩ ⟨show _ ≤ 601024 by omega, show _ ≤ 7293034 by omega⟩ rfl rfl rfl (Nat.le_of_ble_eq_true rfl) dL_law_1289 (fun v4 M5 rv4 hI p6 => ?_)
  obtain ⟨hI, hW⟩ := hI
  obtain ⟨fp6, xp6⟩ := p6
  have tM5_0_1 : M5 0 1 = M 0 1 := fp6.at (by decide)
  have tM5_131_6 : M5 131 6 = M 131 6 := fp6.at (by decide)
  have hRG : RlG M5 := rg_fr hIp fp6 (by unfold No5; decide) (by unfold NoI No5; decide) (by unfold NoG; decide) hRG
  have hRT : RlT M5 := rl_fr fp6 (by decide) hRT
  have hRS : RlS M5 := rs_fr hIp fp6 (by decide) (by decide) (by decide) (by unfold No5; decide) (by unfold NoI No5; decide) hRS
  refine z_istore F dL_law_1292 (by decide) (ls' := [(5, ii v4), (4, ii y), (0, .ref b), (1, .ref (ad 0)), (2, .ref (ad 131)), (3, .ref (ad 151))]) rfl ?_
  refine z_aload_n F dL_law_1294 rfl (q := 4) rfl ?_
  refine z_aload_n F dL_law_1295 rfl (q := 2) rfl ?_
  refine z_iload F dL_law_1296 (q := 1) rfl ?_
  refine z_iconst F dL_law_1298 ?_
  refine z_iadd F dL_law_1299 ?_
  refine z_sld F hX hbl hbA hL (by omega) (by omega) dL_law_1300 (fun v7 ev7 rv7 => ?_)
  have zv7 : v1 = v7 := ev1.trans ev7.symm
  subst zv7
  refine z_aload_n F dL_law_1301 rfl (q := 2) rfl ?_
  refine z_iload F dL_law_1302 (q := 1) rfl ?_
  refine z_iconst F dL_law_1304 ?_
  refine z_iadd F dL_law_1305 ?_
  refine z_sld F hX hbl hbA hL (by omega) (by omega) dL_law_1306 (fun v8 ev8 rv8 => ?_)
  have zv8 : v2 = v8 := ev2.trans ev8.symm
  subst zv8
  refine z_aload_n F dL_law_1307 rfl (q := 2) rfl ?_
  refine z_iload F dL_law_1308 (q := 1) rfl ?_
  refine z_iconst F dL_law_1310 ?_
  refine z_iadd F dL_law_1311 ?_
  refine z_sld F hX hbl hbA hL (by omega) (by omega) dL_law_1312 (fun v9 ev9 rv9 => ?_)
  have zv9 : v3 = v9 := ev3.trans ev9.symm
  subst zv9
  have hIp := hI
  refine zl_i (rest := []) F (k_X12_seats l M5 ⟨hI, hW⟩ v1 (by omega) (by omega) v2 (by omega) (by omega) v3 (by omega) (by omega)) cs_L_235 (T := TX12) (N := 44) (ci := 12) rfl gs_131 ⟨Nat.le_of_ble_eq_true rfl, Nat.le_of_ble_eq_true rfl⟩ ⟨show _ ≤ 601024 by omega, show _ ≤ 7293034 by omega⟩ rfl rfl rfl (Nat.le_of_ble_eq_true rfl) dL_law_1313 (fun v10 M11 rv10 hI p12 => ?_)
  obtain ⟨hI, hW⟩ := hI
  obtain ⟨⟨av10, bv10⟩, fp12⟩ := p12
  have tM11_0_1 : M11 0 1 = M5 0 1 := fp12.at (by decide)
  have tM11_131_6 : M11 131 6 = M5 131 6 := fp12.t6 (by decide)
  have hRG : RlG M11 := rg_fr hIp fp12 (by unfold No5; decide) (by unfold NoI No5; decide) (by unfold NoG; decide) hRG
  have hRT : RlT M11 := rl_fr fp12 (by decide) hRT
  have hRS : RlS M11 := rs_fr hIp fp12 (by decide) (by decide) (by decide) (by unfold No5; decide) (by unfold NoI No5; decide) hRS
  refine z_istore F dL_law_1316 (by decide) (ls' := [(6, ii v10), (5, ii v4), (4, ii y), (0, .ref b), (1, .ref (ad 0)), (2, .ref (ad 131)), (3, .ref (ad 151))]) rfl ?_
  refine z_goto (tgt := 1691) F dL_law_1318 (by decide +kernel) ?_
  refine z_iincN F dL_law_1691 (q := 2) rfl (by decide) (fun w e => ?_)
  subst e
  refine z_eq (ls' := [(4, ii (y + 6)), (6, ii v10), (5, ii v4), (0, .ref b), (1, .ref (ad 0)), (2, .ref (ad 131)), (3, .ref (ad 151))]) rfl rfl rfl ?_
  refine z_goto (tgt := 23) F dL_law_1694 (by decide +kernel) ?_
  refine z_loc [0, 3, 4, 5, 6] (ls' := [(4, ii (y + 6)), (0, .ref b), (1, .ref (ad 0)), (2, .ref (ad 131)), (3, .ref (ad 151))]) rfl ?_
  refine z_wide (n1 := nk + 6) (s1 := sk + 36) (by omega) (by omega) ?_
  exact ih _ ⟨hI, hW⟩ ⟨⟨hRT, hRS⟩, hRG⟩
set_option maxRecDepth 4000 in
theorem law_c31 {p : Program} {l : Launch} {e : Env} {s : State} {m : MethodId} {below : List Frame} {meth : Method} {c : Code} {b L : Nat} {xs : Nat → Int32} {D : va_G} {cy : Nat → ClassId} {ad : Nat → Nat} {A : Nat → Prop} (hlT : l.stackTraces = false) (F : FxM D cy ad p m c cL_law 8 s #[Value.ref b] RL A) (hX : va_X b L xs s s.heap) (hbl : b < s.heap.size) (hbA : ¬ A b) (hL : L ≤ 3072) (y : Int) (hy0 : 0 ≤ y) (hy1 : y + 6 ≤ (L : Int)) (nk sk : Nat) (hnk : nk ≤ 9000 ∧ sk ≤ 90000) (M : Mem) (hJ : Iw M) (hR : RlD M ∧ RlG M) (ih : ∀ M' : Mem, Iw M' → (RlD M' ∧ RlG M') → Z D cy ad p l e room_1 s m #[Value.ref b] below meth c A 8 (nk + 6) (sk + 36) (lw_Z below #[Value.ref b] s) 23 [(4, ii (y + 6)), (0, .ref b), (1, .ref (ad 0)), (2, .ref (ad 131)), (3, .ref (ad 151))] [] M') : Z D cy ad p l e room_1 s m #[Value.ref b] below meth c A 8 nk sk (lw_Z below #[Value.ref b] s) 1321 [(4, ii y), (0, .ref b), (1, .ref (ad 0)), (2, .ref (ad 131)), (3, .ref (ad 151))] [] M := by
  obtain ⟨hI, hW⟩ := hJ
  have hRT := hR.1.1
  have hRS := hR.1.2
  have hRG := hR.2
  refine z_aload_n F dL_law_1321 rfl (q := 2) rfl ?_
  refine z_aload_n F dL_law_1322 rfl (q := 1) rfl ?_
  refine z_iload F dL_law_1323 (q := 0) rfl ?_
  refine z_iconst F dL_law_1325 ?_
  refine z_iadd F dL_law_1326 ?_
  refine z_sld F hX hbl hbA hL (by omega) (by omega) dL_law_1327 (fun v1 ev1 rv1 => ?_)
  refine z_aload_n F dL_law_1328 rfl (q := 1) rfl ?_
  refine z_iload F dL_law_1329 (q := 0) rfl ?_
  refine z_iconst F dL_law_1331 ?_
  refine z_iadd F dL_law_1332 ?_
  refine z_sld F hX hbl hbA hL (by omega) (by omega) dL_law_1333 (fun v2 ev2 rv2 => ?_)
  refine z_aload_n F dL_law_1334 rfl (q := 4) rfl ?_
  have hIp := hI
  refine zh_i (rest := []) F (k_L_pleasure l hlT M ⟨hI, hW⟩ v1 (by omega) (by omega) v2 (by omega) (by omega)) cs_L_236 ⟨Nat.le_of_ble_eq_true rfl, Nat.le_of_ble_eq_true rfl⟩ ⟨show _ ≤ 601024 by omega, show _ ≤ 7293034 by omega⟩ rfl rfl rfl (Nat.le_of_ble_eq_true rfl) dL_law_1335 (fun v3 M4 rv3 hI p5 => ?_)
  obtain ⟨hI, hW⟩ := hI
  obtain ⟨fp5, xp5⟩ := p5
  have tM4_0_1 : M4 0 1 = M 0 1 := fp5.at (by decide)
  have tM4_131_6 : M4 131 6 = M 131 6 := fp5.at (by decide)
  have hRG : RlG M4 := rg_fr hIp fp5 (by unfold No5; decide) (by unfold NoI No5; decide) (by unfold NoG; decide) hRG
  have hRT : RlT M4 := rl_fr fp5 (by decide) hRT
  have hRS : RlS M4 := rs_fr hIp fp5 (by decide) (by decide) (by decide) (by unfold No5; decide) (by unfold NoI No5; decide) hRS
  refine z_istore F dL_law_1338 (by decide) (ls' := [(5, ii v3), (4, ii y), (0, .ref b), (1, .ref (ad 0)), (2, .ref (ad 131)), (3, .ref (ad 151))]) rfl ?_
  refine z_aload_n F dL_law_1340 rfl (q := 4) rfl ?_
  refine z_aload_n F dL_law_1341 rfl (q := 2) rfl ?_
  refine z_iload F dL_law_1342 (q := 1) rfl ?_
  refine z_iconst F dL_law_1344 ?_
  refine z_iadd F dL_law_1345 ?_
  refine z_sld F hX hbl hbA hL (by omega) (by omega) dL_law_1346 (fun v6 ev6 rv6 => ?_)
  have zv6 : v1 = v6 := ev1.trans ev6.symm
  subst zv6
  refine z_aload_n F dL_law_1347 rfl (q := 2) rfl ?_
  refine z_iload F dL_law_1348 (q := 1) rfl ?_
  refine z_iconst F dL_law_1350 ?_
  refine z_iadd F dL_law_1351 ?_
  refine z_sld F hX hbl hbA hL (by omega) (by omega) dL_law_1352 (fun v7 ev7 rv7 => ?_)
  have zv7 : v2 = v7 := ev2.trans ev7.symm
  subst zv7
  have hIp := hI
  refine zl_i (rest := []) F (k_X12_pleasure l M4 ⟨hI, hW⟩ v1 (by omega) (by omega) v2 (by omega) (by omega)) cs_L_238 (T := TX12) (N := 44) (ci := 12) rfl gs_131 ⟨Nat.le_of_ble_eq_true rfl, Nat.le_of_ble_eq_true rfl⟩ ⟨show _ ≤ 601024 by omega, show _ ≤ 7293034 by omega⟩ rfl rfl rfl (Nat.le_of_ble_eq_true rfl) dL_law_1353 (fun v8 M9 rv8 hI p10 => ?_)
  obtain ⟨hI, hW⟩ := hI
  obtain ⟨⟨av8, bv8⟩, fp10⟩ := p10
  have tM9_0_1 : M9 0 1 = M4 0 1 := fp10.at (by decide)
  have tM9_131_6 : M9 131 6 = M4 131 6 := fp10.t6 (by decide)
  have hRG : RlG M9 := rg_fr hIp fp10 (by unfold No5; decide) (by unfold NoI No5; decide) (by unfold NoG; decide) hRG
  have hRT : RlT M9 := rl_fr fp10 (by decide) hRT
  have hRS : RlS M9 := rs_fr hIp fp10 (by decide) (by decide) (by decide) (by unfold No5; decide) (by unfold NoI No5; decide) hRS
  refine z_istore F dL_law_1356 (by decide) (ls' := [(6, ii v8), (5, ii v3), (4, ii y), (0, .ref b), (1, .ref (ad 0)), (2, .ref (ad 131)), (3, .ref (ad 151))]) rfl ?_
  refine z_goto (tgt := 1691) F dL_law_1358 (by decide +kernel) ?_
  refine z_iincN F dL_law_1691 (q := 2) rfl (by decide) (fun w e => ?_)
  subst e
  refine z_eq (ls' := [(4, ii (y + 6)), (6, ii v8), (5, ii v3), (0, .ref b), (1, .ref (ad 0)), (2, .ref (ad 131)), (3, .ref (ad 151))]) rfl rfl rfl ?_
  refine z_goto (tgt := 23) F dL_law_1694 (by decide +kernel) ?_
  refine z_loc [0, 3, 4, 5, 6] (ls' := [(4, ii (y + 6)), (0, .ref b), (1, .ref (ad 0)), (2, .ref (ad 131)), (3, .ref (ad 151))]) rfl ?_
  refine z_wide (n1 := nk + 6) (s1 := sk + 36) (by omega) (by omega) ?_
  exact ih _ ⟨hI, hW⟩ ⟨⟨hRT, hRS⟩, hRG⟩
set_option maxRecDepth 4000 in
theorem law_c32 {p : Program} {l : Launch} {e : Env} {s : State} {m : MethodId} {below : List Frame} {meth : Method} {c : Code} {b L : Nat} {xs : Nat → Int32} {D : va_G} {cy : Nat → ClassId} {ad : Nat → Nat} {A : Nat → Prop} (hlT : l.stackTraces = false) (F : FxM D cy ad p m c cL_law 8 s #[Value.ref b] RL A) (hX : va_X b L xs s s.heap) (hbl : b < s.heap.size) (hbA : ¬ A b) (hL : L ≤ 3072) (y : Int) (hy0 : 0 ≤ y) (hy1 : y + 6 ≤ (L : Int)) (nk sk : Nat) (hnk : nk ≤ 9000 ∧ sk ≤ 90000) (M : Mem) (hJ : Iw M) (hR : RlD M ∧ RlG M) (ih : ∀ M' : Mem, Iw M' → (RlD M' ∧ RlG M') → Z D cy ad p l e room_1 s m #[Value.ref b] below meth c A 8 (nk + 6) (sk + 36) (lw_Z below #[Value.ref b] s) 23 [(4, ii (y + 6)), (0, .ref b), (1, .ref (ad 0)), (2, .ref (ad 131)), (3, .ref (ad 151))] [] M') : Z D cy ad p l e room_1 s m #[Value.ref b] below meth c A 8 nk sk (lw_Z below #[Value.ref b] s) 1361 [(4, ii y), (0, .ref b), (1, .ref (ad 0)), (2, .ref (ad 131)), (3, .ref (ad 151))] [] M := by
  obtain ⟨hI, hW⟩ := hJ
  have hRT := hR.1.1
  have hRS := hR.1.2
  have hRG := hR.2
  refine z_aload_n F dL_law_1361 rfl (q := 2) rfl ?_
  have hIp := hI
  refine zl_i (rest := []) F (k_X11_atRest l M ⟨hI, hW⟩) cs_L_239 (T := TX11) (N := 14) (ci := 11) rfl gs_0 ⟨Nat.le_of_ble_eq_true rfl, Nat.le_of_ble_eq_true rfl⟩ ⟨show _ ≤ 601024 by omega, show _ ≤ 7293034 by omega⟩ rfl rfl rfl (Nat.le_of_ble_eq_true rfl) dL_law_1362 (fun v1 M2 rv1 hI p3 => ?_)
  obtain ⟨hI, hW⟩ := hI
  obtain ⟨⟨av1, bv1⟩, rfl⟩ := p3
  refine z_pop F dL_law_1365 rfl ?_
  refine z_aload_n F dL_law_1366 rfl (q := 3) rfl ?_
  have hIp := hI
  refine zl_i (rest := []) F (k_X12_atRest l M ⟨hI, hW⟩) cs_L_243 (T := TX12) (N := 44) (ci := 12) rfl gs_131 ⟨Nat.le_of_ble_eq_true rfl, Nat.le_of_ble_eq_true rfl⟩ ⟨show _ ≤ 601024 by omega, show _ ≤ 7293034 by omega⟩ rfl rfl rfl (Nat.le_of_ble_eq_true rfl) dL_law_1367 (fun v4 M5 rv4 hI p6 => ?_)
  obtain ⟨hI, hW⟩ := hI
  obtain ⟨⟨av4, bv4⟩, fp6⟩ := p6
  have tM5_0_1 : M5 0 1 = M 0 1 := fp6.at (by decide)
  have tM5_131_6 : M5 131 6 = M 131 6 := fp6.t6 (by decide)
  have hRG : RlG M5 := rg_fr hIp fp6 (by unfold No5; decide) (by unfold NoI No5; decide) (by unfold NoG; decide) hRG
  have hRT : RlT M5 := rl_fr fp6 (by decide) hRT
  have hRS : RlS M5 := rs_fr hIp fp6 (by decide) (by decide) (by decide) (by unfold No5; decide) (by unfold NoI No5; decide) hRS
  refine z_pop F dL_law_1370 rfl ?_
  refine z_goto (tgt := 1691) F dL_law_1371 (by decide +kernel) ?_
  refine z_iincN F dL_law_1691 (q := 0) rfl (by decide) (fun w e => ?_)
  subst e
  refine z_eq (ls' := [(4, ii (y + 6)), (0, .ref b), (1, .ref (ad 0)), (2, .ref (ad 131)), (3, .ref (ad 151))]) rfl rfl rfl ?_
  refine z_goto (tgt := 23) F dL_law_1694 (by decide +kernel) ?_
  refine z_loc [0, 1, 2, 3, 4] (ls' := [(4, ii (y + 6)), (0, .ref b), (1, .ref (ad 0)), (2, .ref (ad 131)), (3, .ref (ad 151))]) rfl ?_
  refine z_wide (n1 := nk + 6) (s1 := sk + 36) (by omega) (by omega) ?_
  exact ih _ ⟨hI, hW⟩ ⟨⟨hRT, hRS⟩, hRG⟩
set_option maxRecDepth 4000 in
theorem law_c33 {p : Program} {l : Launch} {e : Env} {s : State} {m : MethodId} {below : List Frame} {meth : Method} {c : Code} {b L : Nat} {xs : Nat → Int32} {D : va_G} {cy : Nat → ClassId} {ad : Nat → Nat} {A : Nat → Prop} (hlT : l.stackTraces = false) (F : FxM D cy ad p m c cL_law 8 s #[Value.ref b] RL A) (hX : va_X b L xs s s.heap) (hbl : b < s.heap.size) (hbA : ¬ A b) (hL : L ≤ 3072) (y : Int) (hy0 : 0 ≤ y) (hy1 : y + 6 ≤ (L : Int)) (nk sk : Nat) (hnk : nk ≤ 9000 ∧ sk ≤ 90000) (M : Mem) (hJ : Iw M) (hR : RlD M ∧ RlG M) (ih : ∀ M' : Mem, Iw M' → (RlD M' ∧ RlG M') → Z D cy ad p l e room_1 s m #[Value.ref b] below meth c A 8 (nk + 6) (sk + 36) (lw_Z below #[Value.ref b] s) 23 [(4, ii (y + 6)), (0, .ref b), (1, .ref (ad 0)), (2, .ref (ad 131)), (3, .ref (ad 151))] [] M') : Z D cy ad p l e room_1 s m #[Value.ref b] below meth c A 8 nk sk (lw_Z below #[Value.ref b] s) 1374 [(4, ii y), (0, .ref b), (1, .ref (ad 0)), (2, .ref (ad 131)), (3, .ref (ad 151))] [] M := by
  obtain ⟨hI, hW⟩ := hJ
  have hRT := hR.1.1
  have hRS := hR.1.2
  have hRG := hR.2
  refine z_aload_n F dL_law_1374 rfl (q := 2) rfl ?_
  have hIp := hI
  refine zl_i (rest := []) F (k_X11_drift l M ⟨hI, hW⟩) cs_L_244 (T := TX11) (N := 14) (ci := 11) rfl gs_0 ⟨Nat.le_of_ble_eq_true rfl, Nat.le_of_ble_eq_true rfl⟩ ⟨show _ ≤ 601024 by omega, show _ ≤ 7293034 by omega⟩ rfl rfl rfl (Nat.le_of_ble_eq_true rfl) dL_law_1375 (fun v1 M2 rv1 hI p3 => ?_)
  obtain ⟨hI, hW⟩ := hI
  obtain ⟨⟨av1, bv1⟩, fp3⟩ := p3
  have tM2_0_1 : M2 0 1 = M 0 1 := fp3.at (by decide)
  have tM2_131_6 : M2 131 6 = M 131 6 := fp3.at (by decide)
  have hRG : RlG M2 := rg_fr hIp fp3 (by unfold No5; decide) (by unfold NoI No5; decide) (by unfold NoG; decide) hRG
  have hRT : RlT M2 := rl_fr fp3 (by decide) hRT
  have hRS : RlS M2 := rs_fr hIp fp3 (by decide) (by decide) (by decide) (by unfold No5; decide) (by unfold NoI No5; decide) hRS
  refine z_pop F dL_law_1378 rfl ?_
  refine z_aload_n F dL_law_1379 rfl (q := 3) rfl ?_
  have hIp := hI
  refine zl_i (rest := []) F (k_X12_drift l M2 ⟨hI, hW⟩) cs_L_247 (T := TX12) (N := 44) (ci := 12) rfl gs_131 ⟨Nat.le_of_ble_eq_true rfl, Nat.le_of_ble_eq_true rfl⟩ ⟨show _ ≤ 601024 by omega, show _ ≤ 7293034 by omega⟩ rfl rfl rfl (Nat.le_of_ble_eq_true rfl) dL_law_1380 (fun v4 M5 rv4 hI p6 => ?_)
  obtain ⟨hI, hW⟩ := hI
  obtain ⟨⟨av4, bv4⟩, fp6⟩ := p6
  have tM5_0_1 : M5 0 1 = M2 0 1 := fp6.at (by decide)
  have tM5_131_6 : M5 131 6 = M2 131 6 := fp6.t6 (by decide)
  have hRG : RlG M5 := rg_fr hIp fp6 (by unfold No5; decide) (by unfold NoI No5; decide) (by unfold NoG; decide) hRG
  have hRT : RlT M5 := rl_fr fp6 (by decide) hRT
  have hRS : RlS M5 := rs_fr hIp fp6 (by decide) (by decide) (by decide) (by unfold No5; decide) (by unfold NoI No5; decide) hRS
  refine z_pop F dL_law_1383 rfl ?_
  refine z_goto (tgt := 1691) F dL_law_1384 (by decide +kernel) ?_
  refine z_iincN F dL_law_1691 (q := 0) rfl (by decide) (fun w e => ?_)
  subst e
  refine z_eq (ls' := [(4, ii (y + 6)), (0, .ref b), (1, .ref (ad 0)), (2, .ref (ad 131)), (3, .ref (ad 151))]) rfl rfl rfl ?_
  refine z_goto (tgt := 23) F dL_law_1694 (by decide +kernel) ?_
  refine z_loc [0, 1, 2, 3, 4] (ls' := [(4, ii (y + 6)), (0, .ref b), (1, .ref (ad 0)), (2, .ref (ad 131)), (3, .ref (ad 151))]) rfl ?_
  refine z_wide (n1 := nk + 6) (s1 := sk + 36) (by omega) (by omega) ?_
  exact ih _ ⟨hI, hW⟩ ⟨⟨hRT, hRS⟩, hRG⟩
set_option maxRecDepth 4000 in
theorem law_c34 {p : Program} {l : Launch} {e : Env} {s : State} {m : MethodId} {below : List Frame} {meth : Method} {c : Code} {b L : Nat} {xs : Nat → Int32} {D : va_G} {cy : Nat → ClassId} {ad : Nat → Nat} {A : Nat → Prop} (hlT : l.stackTraces = false) (F : FxM D cy ad p m c cL_law 8 s #[Value.ref b] RL A) (hX : va_X b L xs s s.heap) (hbl : b < s.heap.size) (hbA : ¬ A b) (hL : L ≤ 3072) (y : Int) (hy0 : 0 ≤ y) (hy1 : y + 6 ≤ (L : Int)) (nk sk : Nat) (hnk : nk ≤ 9000 ∧ sk ≤ 90000) (M : Mem) (hJ : Iw M) (hR : RlD M ∧ RlG M) (ih : ∀ M' : Mem, Iw M' → (RlD M' ∧ RlG M') → Z D cy ad p l e room_1 s m #[Value.ref b] below meth c A 8 (nk + 6) (sk + 36) (lw_Z below #[Value.ref b] s) 23 [(4, ii (y + 6)), (0, .ref b), (1, .ref (ad 0)), (2, .ref (ad 131)), (3, .ref (ad 151))] [] M') : Z D cy ad p l e room_1 s m #[Value.ref b] below meth c A 8 nk sk (lw_Z below #[Value.ref b] s) 1387 [(4, ii y), (0, .ref b), (1, .ref (ad 0)), (2, .ref (ad 131)), (3, .ref (ad 151))] [] M := by
  obtain ⟨hI, hW⟩ := hJ
  have hRT := hR.1.1
  have hRS := hR.1.2
  have hRG := hR.2
  refine z_aload_n F dL_law_1387 rfl (q := 2) rfl ?_
  refine z_aload_n F dL_law_1388 rfl (q := 1) rfl ?_
  refine z_iload F dL_law_1389 (q := 0) rfl ?_
  refine z_iconst F dL_law_1391 ?_
  refine z_iadd F dL_law_1392 ?_
  refine z_sld F hX hbl hbA hL (by omega) (by omega) dL_law_1393 (fun v1 ev1 rv1 => ?_)
  refine z_aload_n F dL_law_1394 rfl (q := 4) rfl ?_
  have hIp := hI
  refine zh_i (rest := []) F (k_L_seen l hlT M ⟨hI, hW⟩ v1 (by omega) (by omega)) cs_L_248 ⟨Nat.le_of_ble_eq_true rfl, Nat.le_of_ble_eq_true rfl⟩ ⟨show _ ≤ 601024 by omega, show _ ≤ 7293034 by omega⟩ rfl rfl rfl (Nat.le_of_ble_eq_true rfl) dL_law_1395 (fun v2 M3 rv2 hI p4 => ?_)
  obtain ⟨hI, hW⟩ := hI
  obtain ⟨fp4, xp4⟩ := p4
  have tM3_0_1 : M3 0 1 = M 0 1 := fp4.at (by decide)
  have tM3_131_6 : M3 131 6 = M 131 6 := fp4.at (by decide)
  have hRG : RlG M3 := rg_fr hIp fp4 (by unfold No5; decide) (by unfold NoI No5; decide) (by unfold NoG; decide) hRG
  have hRT : RlT M3 := rl_fr fp4 (by decide) hRT
  have hRS : RlS M3 := rs_fr hIp fp4 (by decide) (by decide) (by decide) (by unfold No5; decide) (by unfold NoI No5; decide) hRS
  refine z_istore F dL_law_1398 (by decide) (ls' := [(5, ii v2), (4, ii y), (0, .ref b), (1, .ref (ad 0)), (2, .ref (ad 131)), (3, .ref (ad 151))]) rfl ?_
  refine z_aload_n F dL_law_1400 rfl (q := 4) rfl ?_
  refine z_aload_n F dL_law_1401 rfl (q := 2) rfl ?_
  refine z_iload F dL_law_1402 (q := 1) rfl ?_
  refine z_iconst F dL_law_1404 ?_
  refine z_iadd F dL_law_1405 ?_
  refine z_sld F hX hbl hbA hL (by omega) (by omega) dL_law_1406 (fun v5 ev5 rv5 => ?_)
  have zv5 : v1 = v5 := ev1.trans ev5.symm
  subst zv5
  have hIp := hI
  refine zl_i (rest := []) F (k_X12_seen l M3 ⟨hI, hW⟩ v1 (by omega) (by omega)) cs_L_250 (T := TX12) (N := 44) (ci := 12) rfl gs_131 ⟨Nat.le_of_ble_eq_true rfl, Nat.le_of_ble_eq_true rfl⟩ ⟨show _ ≤ 601024 by omega, show _ ≤ 7293034 by omega⟩ rfl rfl rfl (Nat.le_of_ble_eq_true rfl) dL_law_1407 (fun v6 M7 rv6 hI p8 => ?_)
  obtain ⟨hI, hW⟩ := hI
  obtain ⟨⟨av6, bv6⟩, fp8⟩ := p8
  have tM7_0_1 : M7 0 1 = M3 0 1 := fp8.at (by decide)
  have tM7_131_6 : M7 131 6 = M3 131 6 := fp8.t6 (by decide)
  have hRG : RlG M7 := rg_fr hIp fp8 (by unfold No5; decide) (by unfold NoI No5; decide) (by unfold NoG; decide) hRG
  have hRT : RlT M7 := rl_fr fp8 (by decide) hRT
  have hRS : RlS M7 := rs_fr hIp fp8 (by decide) (by decide) (by decide) (by unfold No5; decide) (by unfold NoI No5; decide) hRS
  refine z_istore F dL_law_1410 (by decide) (ls' := [(6, ii v6), (5, ii v2), (4, ii y), (0, .ref b), (1, .ref (ad 0)), (2, .ref (ad 131)), (3, .ref (ad 151))]) rfl ?_
  refine z_goto (tgt := 1691) F dL_law_1412 (by decide +kernel) ?_
  refine z_iincN F dL_law_1691 (q := 2) rfl (by decide) (fun w e => ?_)
  subst e
  refine z_eq (ls' := [(4, ii (y + 6)), (6, ii v6), (5, ii v2), (0, .ref b), (1, .ref (ad 0)), (2, .ref (ad 131)), (3, .ref (ad 151))]) rfl rfl rfl ?_
  refine z_goto (tgt := 23) F dL_law_1694 (by decide +kernel) ?_
  refine z_loc [0, 3, 4, 5, 6] (ls' := [(4, ii (y + 6)), (0, .ref b), (1, .ref (ad 0)), (2, .ref (ad 131)), (3, .ref (ad 151))]) rfl ?_
  refine z_wide (n1 := nk + 6) (s1 := sk + 36) (by omega) (by omega) ?_
  exact ih _ ⟨hI, hW⟩ ⟨⟨hRT, hRS⟩, hRG⟩
set_option maxRecDepth 4000 in
theorem law_c35 {p : Program} {l : Launch} {e : Env} {s : State} {m : MethodId} {below : List Frame} {meth : Method} {c : Code} {b L : Nat} {xs : Nat → Int32} {D : va_G} {cy : Nat → ClassId} {ad : Nat → Nat} {A : Nat → Prop} (hlT : l.stackTraces = false) (F : FxM D cy ad p m c cL_law 8 s #[Value.ref b] RL A) (hX : va_X b L xs s s.heap) (hbl : b < s.heap.size) (hbA : ¬ A b) (hL : L ≤ 3072) (y : Int) (hy0 : 0 ≤ y) (hy1 : y + 6 ≤ (L : Int)) (nk sk : Nat) (hnk : nk ≤ 9000 ∧ sk ≤ 90000) (M : Mem) (hJ : Iw M) (hR : RlD M ∧ RlG M) (ih : ∀ M' : Mem, Iw M' → (RlD M' ∧ RlG M') → Z D cy ad p l e room_1 s m #[Value.ref b] below meth c A 8 (nk + 6) (sk + 36) (lw_Z below #[Value.ref b] s) 23 [(4, ii (y + 6)), (0, .ref b), (1, .ref (ad 0)), (2, .ref (ad 131)), (3, .ref (ad 151))] [] M') : Z D cy ad p l e room_1 s m #[Value.ref b] below meth c A 8 nk sk (lw_Z below #[Value.ref b] s) 1415 [(4, ii y), (0, .ref b), (1, .ref (ad 0)), (2, .ref (ad 131)), (3, .ref (ad 151))] [] M := by
  obtain ⟨hI, hW⟩ := hJ
  have hRT := hR.1.1
  have hRS := hR.1.2
  have hRG := hR.2
  refine z_aload_n F dL_law_1415 rfl (q := 2) rfl ?_
  refine z_aload_n F dL_law_1416 rfl (q := 1) rfl ?_
  refine z_iload F dL_law_1417 (q := 0) rfl ?_
  refine z_iconst F dL_law_1419 ?_
  refine z_iadd F dL_law_1420 ?_
  refine z_sld F hX hbl hbA hL (by omega) (by omega) dL_law_1421 (fun v1 ev1 rv1 => ?_)
  refine z_aload_n F dL_law_1422 rfl (q := 1) rfl ?_
  refine z_iload F dL_law_1423 (q := 0) rfl ?_
  refine z_iconst F dL_law_1425 ?_
  refine z_iadd F dL_law_1426 ?_
  refine z_sld F hX hbl hbA hL (by omega) (by omega) dL_law_1427 (fun v2 ev2 rv2 => ?_)
  refine z_aload_n F dL_law_1428 rfl (q := 4) rfl ?_
  have hIp := hI
  refine zh_i (rest := []) F (k_L_sure l hlT M ⟨hI, hW⟩ v1 (by omega) (by omega) v2 (by omega) (by omega)) cs_L_251 ⟨Nat.le_of_ble_eq_true rfl, Nat.le_of_ble_eq_true rfl⟩ ⟨show _ ≤ 601024 by omega, show _ ≤ 7293034 by omega⟩ rfl rfl rfl (Nat.le_of_ble_eq_true rfl) dL_law_1429 (fun v3 M4 rv3 hI p5 => ?_)
  obtain ⟨hI, hW⟩ := hI
  obtain ⟨fp5, xp5⟩ := p5
  have tM4_0_1 : M4 0 1 = M 0 1 := fp5.at (by decide)
  have tM4_131_6 : M4 131 6 = M 131 6 := fp5.at (by decide)
  have hRG : RlG M4 := rg_fr hIp fp5 (by unfold No5; decide) (by unfold NoI No5; decide) (by unfold NoG; decide) hRG
  have hRT : RlT M4 := rl_fr fp5 (by decide) hRT
  have hRS : RlS M4 := rs_fr hIp fp5 (by decide) (by decide) (by decide) (by unfold No5; decide) (by unfold NoI No5; decide) hRS
  refine z_istore F dL_law_1432 (by decide) (ls' := [(5, ii v3), (4, ii y), (0, .ref b), (1, .ref (ad 0)), (2, .ref (ad 131)), (3, .ref (ad 151))]) rfl ?_
  refine z_aload_n F dL_law_1434 rfl (q := 4) rfl ?_
  refine z_aload_n F dL_law_1435 rfl (q := 2) rfl ?_
  refine z_iload F dL_law_1436 (q := 1) rfl ?_
  refine z_iconst F dL_law_1438 ?_
  refine z_iadd F dL_law_1439 ?_
  refine z_sld F hX hbl hbA hL (by omega) (by omega) dL_law_1440 (fun v6 ev6 rv6 => ?_)
  have zv6 : v1 = v6 := ev1.trans ev6.symm
  subst zv6
  refine z_aload_n F dL_law_1441 rfl (q := 2) rfl ?_
  refine z_iload F dL_law_1442 (q := 1) rfl ?_
  refine z_iconst F dL_law_1444 ?_
  refine z_iadd F dL_law_1445 ?_
  refine z_sld F hX hbl hbA hL (by omega) (by omega) dL_law_1446 (fun v7 ev7 rv7 => ?_)
  have zv7 : v2 = v7 := ev2.trans ev7.symm
  subst zv7
  have hIp := hI
  refine zl_i (rest := []) F (k_X12_sure l M4 ⟨hI, hW⟩ v1 (by omega) (by omega) v2 (by omega) (by omega)) cs_L_253 (T := TX12) (N := 44) (ci := 12) rfl gs_131 ⟨Nat.le_of_ble_eq_true rfl, Nat.le_of_ble_eq_true rfl⟩ ⟨show _ ≤ 601024 by omega, show _ ≤ 7293034 by omega⟩ rfl rfl rfl (Nat.le_of_ble_eq_true rfl) dL_law_1447 (fun v8 M9 rv8 hI p10 => ?_)
  obtain ⟨hI, hW⟩ := hI
  obtain ⟨⟨av8, bv8⟩, fp10⟩ := p10
  have tM9_0_1 : M9 0 1 = M4 0 1 := fp10.at (by decide)
  have tM9_131_6 : M9 131 6 = M4 131 6 := fp10.t6 (by decide)
  have hRG : RlG M9 := rg_fr hIp fp10 (by unfold No5; decide) (by unfold NoI No5; decide) (by unfold NoG; decide) hRG
  have hRT : RlT M9 := rl_fr fp10 (by decide) hRT
  have hRS : RlS M9 := rs_fr hIp fp10 (by decide) (by decide) (by decide) (by unfold No5; decide) (by unfold NoI No5; decide) hRS
  refine z_istore F dL_law_1450 (by decide) (ls' := [(6, ii v8), (5, ii v3), (4, ii y), (0, .ref b), (1, .ref (ad 0)), (2, .ref (ad 131)), (3, .ref (ad 151))]) rfl ?_
  refine z_goto (tgt := 1691) F dL_law_1452 (by decide +kernel) ?_
  refine z_iincN F dL_law_1691 (q := 2) rfl (by decide) (fun w e => ?_)
  subst e
  refine z_eq (ls' := [(4, ii (y + 6)), (6, ii v8), (5, ii v3), (0, .ref b), (1, .ref (ad 0)), (2, .ref (ad 131)), (3, .ref (ad 151))]) rfl rfl rfl ?_
  refine z_goto (tgt := 23) F dL_law_1694 (by decide +kernel) ?_
  refine z_loc [0, 3, 4, 5, 6] (ls' := [(4, ii (y + 6)), (0, .ref b), (1, .ref (ad 0)), (2, .ref (ad 131)), (3, .ref (ad 151))]) rfl ?_
  refine z_wide (n1 := nk + 6) (s1 := sk + 36) (by omega) (by omega) ?_
  exact ih _ ⟨hI, hW⟩ ⟨⟨hRT, hRS⟩, hRG⟩
set_option maxRecDepth 4000 in
theorem law_c36 {p : Program} {l : Launch} {e : Env} {s : State} {m : MethodId} {below : List Frame} {meth : Method} {c : Code} {b L : Nat} {xs : Nat → Int32} {D : va_G} {cy : Nat → ClassId} {ad : Nat → Nat} {A : Nat → Prop} (hlT : l.stackTraces = false) (F : FxM D cy ad p m c cL_law 8 s #[Value.ref b] RL A) (hX : va_X b L xs s s.heap) (hbl : b < s.heap.size) (hbA : ¬ A b) (hL : L ≤ 3072) (y : Int) (hy0 : 0 ≤ y) (hy1 : y + 6 ≤ (L : Int)) (nk sk : Nat) (hnk : nk ≤ 9000 ∧ sk ≤ 90000) (M : Mem) (hJ : Iw M) (hR : RlD M ∧ RlG M) (ih : ∀ M' : Mem, Iw M' → (RlD M' ∧ RlG M') → Z D cy ad p l e room_1 s m #[Value.ref b] below meth c A 8 (nk + 6) (sk + 36) (lw_Z below #[Value.ref b] s) 23 [(4, ii (y + 6)), (0, .ref b), (1, .ref (ad 0)), (2, .ref (ad 131)), (3, .ref (ad 151))] [] M') : Z D cy ad p l e room_1 s m #[Value.ref b] below meth c A 8 nk sk (lw_Z below #[Value.ref b] s) 1455 [(4, ii y), (0, .ref b), (1, .ref (ad 0)), (2, .ref (ad 131)), (3, .ref (ad 151))] [] M := by
  obtain ⟨hI, hW⟩ := hJ
  have hRT := hR.1.1
  have hRS := hR.1.2
  have hRG := hR.2
  refine z_aload_n F dL_law_1455 rfl (q := 2) rfl ?_
  refine z_aload_n F dL_law_1456 rfl (q := 1) rfl ?_
  refine z_iload F dL_law_1457 (q := 0) rfl ?_
  refine z_iconst F dL_law_1459 ?_
  refine z_iadd F dL_law_1460 ?_
  refine z_sld F hX hbl hbA hL (by omega) (by omega) dL_law_1461 (fun v1 ev1 rv1 => ?_)
  refine z_aload_n F dL_law_1462 rfl (q := 1) rfl ?_
  refine z_iload F dL_law_1463 (q := 0) rfl ?_
  refine z_iconst F dL_law_1465 ?_
  refine z_iadd F dL_law_1466 ?_
  refine z_sld F hX hbl hbA hL (by omega) (by omega) dL_law_1467 (fun v2 ev2 rv2 => ?_)
  refine z_aload_n F dL_law_1468 rfl (q := 1) rfl ?_
  refine z_iload F dL_law_1469 (q := 0) rfl ?_
  refine z_iconst F dL_law_1471 ?_
  refine z_iadd F dL_law_1472 ?_
  refine z_sld F hX hbl hbA hL (by omega) (by omega) dL_law_1473 (fun v3 ev3 rv3 => ?_)
  have hIp := hI
  refine zh_i (rest := []) F (k_L_tray l hlT M ⟨hI, hW⟩ v1 (by omega) (by omega) v2 (by omega) (by omega) v3 (by omega) (by omega)) cs_L_254 ⟨Nat.le_of_ble_eq_true rfl, Nat.le_of_ble_eq_true rfl⟩ ⟨show _ ≤ 601024 by omega, show _ ≤ 7293034 by omega⟩ rfl rfl rfl (Nat.le_of_ble_eq_true rfl) dL_law_1474 (fun v4 M5 rv4 hI p6 => ?_)
  obtain ⟨hI, hW⟩ := hI
  obtain ⟨fp6, xp6⟩ := p6
  have tM5_0_1 : M5 0 1 = M 0 1 := fp6.at (by decide)
  have tM5_131_6 : M5 131 6 = M 131 6 := fp6.at (by decide)
  have hRG : RlG M5 := rg_fr hIp fp6 (by unfold No5; decide) (by unfold NoI No5; decide) (by unfold NoG; decide) hRG
  have hRT : RlT M5 := rl_fr fp6 (by decide) hRT
  have hRS : RlS M5 := rs_fr hIp fp6 (by decide) (by decide) (by decide) (by unfold No5; decide) (by unfold NoI No5; decide) hRS
  refine z_istore F dL_law_1477 (by decide) (ls' := [(5, ii v4), (4, ii y), (0, .ref b), (1, .ref (ad 0)), (2, .ref (ad 131)), (3, .ref (ad 151))]) rfl ?_
  refine z_aload_n F dL_law_1479 rfl (q := 4) rfl ?_
  refine z_aload_n F dL_law_1480 rfl (q := 2) rfl ?_
  refine z_iload F dL_law_1481 (q := 1) rfl ?_
  refine z_iconst F dL_law_1483 ?_
  refine z_iadd F dL_law_1484 ?_
  refine z_sld F hX hbl hbA hL (by omega) (by omega) dL_law_1485 (fun v7 ev7 rv7 => ?_)
  have zv7 : v1 = v7 := ev1.trans ev7.symm
  subst zv7
  refine z_aload_n F dL_law_1486 rfl (q := 2) rfl ?_
  refine z_iload F dL_law_1487 (q := 1) rfl ?_
  refine z_iconst F dL_law_1489 ?_
  refine z_iadd F dL_law_1490 ?_
  refine z_sld F hX hbl hbA hL (by omega) (by omega) dL_law_1491 (fun v8 ev8 rv8 => ?_)
  have zv8 : v2 = v8 := ev2.trans ev8.symm
  subst zv8
  refine z_aload_n F dL_law_1492 rfl (q := 2) rfl ?_
  refine z_iload F dL_law_1493 (q := 1) rfl ?_
  refine z_iconst F dL_law_1495 ?_
  refine z_iadd F dL_law_1496 ?_
  refine z_sld F hX hbl hbA hL (by omega) (by omega) dL_law_1497 (fun v9 ev9 rv9 => ?_)
  have zv9 : v3 = v9 := ev3.trans ev9.symm
  subst zv9
  have hIp := hI
  refine zl_v (rest := []) F (k_X12_tray l M5 ⟨hI, hW⟩ v1 (by omega) (by omega) v2 (by omega) (by omega) v3 (by omega) (by omega)) cs_L_257 (T := TX12) (N := 44) (ci := 12) rfl gs_131 ⟨Nat.le_of_ble_eq_true rfl, Nat.le_of_ble_eq_true rfl⟩ ⟨show _ ≤ 601024 by omega, show _ ≤ 7293034 by omega⟩ rfl rfl rfl (Nat.le_of_ble_eq_true rfl) dL_law_1498 (fun M10 hI p11 => ?_)
  obtain ⟨hI, hW⟩ := hI
  obtain ⟨fp11, xp11⟩ := p11
  have tM10_0_1 : M10 0 1 = M5 0 1 := fp11.at (by decide)
  have tM10_131_6 : M10 131 6 = M5 131 6 := fp11.t6 (by decide)
  have hRG : RlG M10 := rg_fr hIp fp11 (by unfold No5; decide) (by unfold NoI No5; decide) (by unfold NoG; decide) hRG
  have hRT : RlT M10 := rl_fr fp11 (by decide) hRT
  have hRS : RlS M10 := rs_fr hIp fp11 (by decide) (by decide) (by decide) (by unfold No5; decide) (by unfold NoI No5; decide) hRS
  refine z_goto (tgt := 1691) F dL_law_1501 (by decide +kernel) ?_
  refine z_iincN F dL_law_1691 (q := 1) rfl (by decide) (fun w e => ?_)
  subst e
  refine z_eq (ls' := [(4, ii (y + 6)), (5, ii v4), (0, .ref b), (1, .ref (ad 0)), (2, .ref (ad 131)), (3, .ref (ad 151))]) rfl rfl rfl ?_
  refine z_goto (tgt := 23) F dL_law_1694 (by decide +kernel) ?_
  refine z_loc [0, 2, 3, 4, 5] (ls' := [(4, ii (y + 6)), (0, .ref b), (1, .ref (ad 0)), (2, .ref (ad 131)), (3, .ref (ad 151))]) rfl ?_
  refine z_wide (n1 := nk + 6) (s1 := sk + 36) (by omega) (by omega) ?_
  exact ih _ ⟨hI, hW⟩ ⟨⟨hRT, hRS⟩, hRG⟩
set_option maxRecDepth 4000 in
theorem law_c37 {p : Program} {l : Launch} {e : Env} {s : State} {m : MethodId} {below : List Frame} {meth : Method} {c : Code} {b L : Nat} {xs : Nat → Int32} {D : va_G} {cy : Nat → ClassId} {ad : Nat → Nat} {A : Nat → Prop} (hlT : l.stackTraces = false) (F : FxM D cy ad p m c cL_law 8 s #[Value.ref b] RL A) (hX : va_X b L xs s s.heap) (hbl : b < s.heap.size) (hbA : ¬ A b) (hL : L ≤ 3072) (y : Int) (hy0 : 0 ≤ y) (hy1 : y + 6 ≤ (L : Int)) (nk sk : Nat) (hnk : nk ≤ 9000 ∧ sk ≤ 90000) (M : Mem) (hJ : Iw M) (hR : RlD M ∧ RlG M) (ih : ∀ M' : Mem, Iw M' → (RlD M' ∧ RlG M') → Z D cy ad p l e room_1 s m #[Value.ref b] below meth c A 8 (nk + 6) (sk + 36) (lw_Z below #[Value.ref b] s) 23 [(4, ii (y + 6)), (0, .ref b), (1, .ref (ad 0)), (2, .ref (ad 131)), (3, .ref (ad 151))] [] M') : Z D cy ad p l e room_1 s m #[Value.ref b] below meth c A 8 nk sk (lw_Z below #[Value.ref b] s) 1504 [(4, ii y), (0, .ref b), (1, .ref (ad 0)), (2, .ref (ad 131)), (3, .ref (ad 151))] [] M := by
  obtain ⟨hI, hW⟩ := hJ
  have hRT := hR.1.1
  have hRS := hR.1.2
  have hRG := hR.2
  refine z_aload_n F dL_law_1504 rfl (q := 2) rfl ?_
  refine z_aload_n F dL_law_1505 rfl (q := 1) rfl ?_
  refine z_iload F dL_law_1506 (q := 0) rfl ?_
  refine z_iconst F dL_law_1508 ?_
  refine z_iadd F dL_law_1509 ?_
  refine z_sld F hX hbl hbA hL (by omega) (by omega) dL_law_1510 (fun v1 ev1 rv1 => ?_)
  refine z_aload_n F dL_law_1511 rfl (q := 1) rfl ?_
  refine z_iload F dL_law_1512 (q := 0) rfl ?_
  refine z_iconst F dL_law_1514 ?_
  refine z_iadd F dL_law_1515 ?_
  refine z_sld F hX hbl hbA hL (by omega) (by omega) dL_law_1516 (fun v2 ev2 rv2 => ?_)
  refine z_aload_n F dL_law_1517 rfl (q := 1) rfl ?_
  refine z_iload F dL_law_1518 (q := 0) rfl ?_
  refine z_iconst F dL_law_1520 ?_
  refine z_iadd F dL_law_1521 ?_
  refine z_sld F hX hbl hbA hL (by omega) (by omega) dL_law_1522 (fun v3 ev3 rv3 => ?_)
  refine z_i2l F dL_law_1523 (by omega) ?_
  refine z_bipush F dL_law_1524 (by decide +kernel) ?_
  refine z_lshl0 F dL_law_1526 (fun v4 _ rv4 => ?_)
  refine z_aload_n F dL_law_1527 rfl (q := 1) rfl ?_
  refine z_iload F dL_law_1528 (q := 0) rfl ?_
  refine z_iconst F dL_law_1530 ?_
  refine z_iadd F dL_law_1531 ?_
  refine z_sld F hX hbl hbA hL (by omega) (by omega) dL_law_1532 (fun v5 ev5 rv5 => ?_)
  refine z_i2l F dL_law_1533 (by omega) ?_
  refine z_ldc2 (x := 4294967295) F dL_law_1534 (gin lm_1886 rfl) (by decide +kernel) ?_
  refine z_land0 F dL_law_1537 (fun v6 _ rv6 => ?_)
  refine z_lor0 F dL_law_1538 (fun v7 _ rv7 => ?_)
  refine z_aload_n F dL_law_1539 rfl (q := 4) rfl ?_
  have hIp := hI
  refine zh_i (rest := []) F (k_L_write l hlT M ⟨hI, hW⟩ v1 (by omega) (by omega) v2 (by omega) (by omega) v7 (by omega) (by omega)) cs_L_260 ⟨Nat.le_of_ble_eq_true rfl, Nat.le_of_ble_eq_true rfl⟩ ⟨show _ ≤ 601024 by omega, show _ ≤ 7293034 by omega⟩ rfl rfl rfl (Nat.le_of_ble_eq_true rfl) dL_law_1540 (fun v8 M9 rv8 hI p10 => ?_)
  obtain ⟨hI, hW⟩ := hI
  obtain ⟨fp10, xp10⟩ := p10
  have tM9_0_1 : M9 0 1 = M 0 1 := fp10.at (by decide)
  have tM9_131_6 : M9 131 6 = M 131 6 := fp10.at (by decide)
  have hRG : RlG M9 := rg_fr hIp fp10 (by unfold No5; decide) (by unfold NoI No5; decide) (by unfold NoG; decide) hRG
  have hRT : RlT M9 := rl_fr fp10 (by decide) hRT
  have hRS : RlS M9 := rs_fr hIp fp10 (by decide) (by decide) (by decide) (by unfold No5; decide) (by unfold NoI No5; decide) hRS
  refine z_istore F dL_law_1543 (by decide) (ls' := [(5, ii v8), (4, ii y), (0, .ref b), (1, .ref (ad 0)), (2, .ref (ad 131)), (3, .ref (ad 151))]) rfl ?_
  refine z_aload_n F dL_law_1545 rfl (q := 4) rfl ?_
  refine z_aload_n F dL_law_1546 rfl (q := 2) rfl ?_
  refine z_iload F dL_law_1547 (q := 1) rfl ?_
  refine z_iconst F dL_law_1549 ?_
  refine z_iadd F dL_law_1550 ?_
  refine z_sld F hX hbl hbA hL (by omega) (by omega) dL_law_1551 (fun v11 ev11 rv11 => ?_)
  have zv11 : v1 = v11 := ev1.trans ev11.symm
  subst zv11
  refine z_aload_n F dL_law_1552 rfl (q := 2) rfl ?_
  refine z_iload F dL_law_1553 (q := 1) rfl ?_
  refine z_iconst F dL_law_1555 ?_
  refine z_iadd F dL_law_1556 ?_
  refine z_sld F hX hbl hbA hL (by omega) (by omega) dL_law_1557 (fun v12 ev12 rv12 => ?_)
  have zv12 : v2 = v12 := ev2.trans ev12.symm
  subst zv12
  refine z_aload_n F dL_law_1558 rfl (q := 2) rfl ?_
  refine z_iload F dL_law_1559 (q := 1) rfl ?_
  refine z_iconst F dL_law_1561 ?_
  refine z_iadd F dL_law_1562 ?_
  refine z_sld F hX hbl hbA hL (by omega) (by omega) dL_law_1563 (fun v13 ev13 rv13 => ?_)
  have zv13 : v3 = v13 := ev3.trans ev13.symm
  subst zv13
  refine z_i2l F dL_law_1564 (by omega) ?_
  refine z_bipush F dL_law_1565 (by decide +kernel) ?_
  refine z_lshl0 F dL_law_1567 (fun v14 _ rv14 => ?_)
  refine z_aload_n F dL_law_1568 rfl (q := 2) rfl ?_
  refine z_iload F dL_law_1569 (q := 1) rfl ?_
  refine z_iconst F dL_law_1571 ?_
  refine z_iadd F dL_law_1572 ?_
  refine z_sld F hX hbl hbA hL (by omega) (by omega) dL_law_1573 (fun v15 ev15 rv15 => ?_)
  have zv15 : v5 = v15 := ev5.trans ev15.symm
  subst zv15
  refine z_i2l F dL_law_1574 (by omega) ?_
  refine z_ldc2 (x := 4294967295) F dL_law_1575 (gin lm_1886 rfl) (by decide +kernel) ?_
  refine z_land0 F dL_law_1578 (fun v16 _ rv16 => ?_)
  refine z_lor0 F dL_law_1579 (fun v17 _ rv17 => ?_)
  have hIp := hI
  refine zl_l (rest := []) F (k_X12_write l M9 ⟨hI, hW⟩ v1 (by omega) (by omega) v2 (by omega) (by omega) v17 (by omega) (by omega)) cs_L_263 (T := TX12) (N := 44) (ci := 12) rfl gs_131 ⟨Nat.le_of_ble_eq_true rfl, Nat.le_of_ble_eq_true rfl⟩ ⟨show _ ≤ 601024 by omega, show _ ≤ 7293034 by omega⟩ rfl rfl rfl (Nat.le_of_ble_eq_true rfl) dL_law_1580 (fun v18 M19 rv18 hI p20 => ?_)
  obtain ⟨hI, hW⟩ := hI
  obtain ⟨⟨av18, bv18⟩, fp20⟩ := p20
  have tM19_0_1 : M19 0 1 = M9 0 1 := fp20.at (by decide)
  have tM19_131_6 : M19 131 6 = M9 131 6 := fp20.t6 (by decide)
  have hRG : RlG M19 := rg_fr hIp fp20 (by unfold No5; decide) (by unfold NoI No5; decide) (by unfold NoG; decide) hRG
  have hRT : RlT M19 := rl_fr fp20 (by decide) hRT
  have hRS : RlS M19 := rs_fr hIp fp20 (by decide) (by decide) (by decide) (by unfold No5; decide) (by unfold NoI No5; decide) hRS
  refine z_lstore F dL_law_1583 (by decide) (ls' := [(6, ll v18), (5, ii v8), (4, ii y), (0, .ref b), (1, .ref (ad 0)), (2, .ref (ad 131)), (3, .ref (ad 151))]) rfl ?_
  refine z_goto (tgt := 1691) F dL_law_1585 (by decide +kernel) ?_
  refine z_iincN F dL_law_1691 (q := 2) rfl (by decide) (fun w e => ?_)
  subst e
  refine z_eq (ls' := [(4, ii (y + 6)), (6, ll v18), (5, ii v8), (0, .ref b), (1, .ref (ad 0)), (2, .ref (ad 131)), (3, .ref (ad 151))]) rfl rfl rfl ?_
  refine z_goto (tgt := 23) F dL_law_1694 (by decide +kernel) ?_
  refine z_loc [0, 3, 4, 5, 6] (ls' := [(4, ii (y + 6)), (0, .ref b), (1, .ref (ad 0)), (2, .ref (ad 131)), (3, .ref (ad 151))]) rfl ?_
  refine z_wide (n1 := nk + 6) (s1 := sk + 36) (by omega) (by omega) ?_
  exact ih _ ⟨hI, hW⟩ ⟨⟨hRT, hRS⟩, hRG⟩
set_option maxRecDepth 4000 in
theorem law_c38 {p : Program} {l : Launch} {e : Env} {s : State} {m : MethodId} {below : List Frame} {meth : Method} {c : Code} {b L : Nat} {xs : Nat → Int32} {D : va_G} {cy : Nat → ClassId} {ad : Nat → Nat} {A : Nat → Prop} (hlT : l.stackTraces = false) (F : FxM D cy ad p m c cL_law 8 s #[Value.ref b] RL A) (hX : va_X b L xs s s.heap) (hbl : b < s.heap.size) (hbA : ¬ A b) (hL : L ≤ 3072) (y : Int) (hy0 : 0 ≤ y) (hy1 : y + 6 ≤ (L : Int)) (nk sk : Nat) (hnk : nk ≤ 9000 ∧ sk ≤ 90000) (M : Mem) (hJ : Iw M) (hR : RlD M ∧ RlG M) (ih : ∀ M' : Mem, Iw M' → (RlD M' ∧ RlG M') → Z D cy ad p l e room_1 s m #[Value.ref b] below meth c A 8 (nk + 6) (sk + 36) (lw_Z below #[Value.ref b] s) 23 [(4, ii (y + 6)), (0, .ref b), (1, .ref (ad 0)), (2, .ref (ad 131)), (3, .ref (ad 151))] [] M') : Z D cy ad p l e room_1 s m #[Value.ref b] below meth c A 8 nk sk (lw_Z below #[Value.ref b] s) 1588 [(4, ii y), (0, .ref b), (1, .ref (ad 0)), (2, .ref (ad 131)), (3, .ref (ad 151))] [] M := by
  obtain ⟨hI, hW⟩ := hJ
  have hRT := hR.1.1
  have hRS := hR.1.2
  have hRG := hR.2
  refine z_aload_n F dL_law_1588 rfl (q := 2) rfl ?_
  refine z_aload_n F dL_law_1589 rfl (q := 1) rfl ?_
  refine z_iload F dL_law_1590 (q := 0) rfl ?_
  refine z_iconst F dL_law_1592 ?_
  refine z_iadd F dL_law_1593 ?_
  refine z_sld F hX hbl hbA hL (by omega) (by omega) dL_law_1594 (fun v1 ev1 rv1 => ?_)
  refine z_aload_n F dL_law_1595 rfl (q := 4) rfl ?_
  have hIp := hI
  refine zh_i (rest := []) F (k_L_pour l hlT M ⟨hI, hW⟩ v1 (by omega) (by omega)) cs_L_264 ⟨Nat.le_of_ble_eq_true rfl, Nat.le_of_ble_eq_true rfl⟩ ⟨show _ ≤ 601024 by omega, show _ ≤ 7293034 by omega⟩ rfl rfl rfl (Nat.le_of_ble_eq_true rfl) dL_law_1596 (fun v2 M3 rv2 hI p4 => ?_)
  obtain ⟨hI, hW⟩ := hI
  obtain ⟨fp4, xp4⟩ := p4
  have tM3_0_1 : M3 0 1 = M 0 1 := fp4.at (by decide)
  have tM3_131_6 : M3 131 6 = M 131 6 := fp4.at (by decide)
  have hRG : RlG M3 := rg_fr hIp fp4 (by unfold No5; decide) (by unfold NoI No5; decide) (by unfold NoG; decide) hRG
  have hRT : RlT M3 := rl_fr fp4 (by decide) hRT
  have hRS : RlS M3 := rs_fr hIp fp4 (by decide) (by decide) (by decide) (by unfold No5; decide) (by unfold NoI No5; decide) hRS
  refine z_istore F dL_law_1599 (by decide) (ls' := [(5, ii v2), (4, ii y), (0, .ref b), (1, .ref (ad 0)), (2, .ref (ad 131)), (3, .ref (ad 151))]) rfl ?_
  refine z_aload_n F dL_law_1601 rfl (q := 4) rfl ?_
  refine z_aload_n F dL_law_1602 rfl (q := 2) rfl ?_
  refine z_iload F dL_law_1603 (q := 1) rfl ?_
  refine z_iconst F dL_law_1605 ?_
  refine z_iadd F dL_law_1606 ?_
  refine z_sld F hX hbl hbA hL (by omega) (by omega) dL_law_1607 (fun v5 ev5 rv5 => ?_)
  have zv5 : v1 = v5 := ev1.trans ev5.symm
  subst zv5
  have hIp := hI
  refine zl_i (rest := []) F (k_X12_pour l M3 ⟨hI, hW⟩ v1 (by omega) (by omega)) cs_L_266 (T := TX12) (N := 44) (ci := 12) rfl gs_131 ⟨Nat.le_of_ble_eq_true rfl, Nat.le_of_ble_eq_true rfl⟩ ⟨show _ ≤ 601024 by omega, show _ ≤ 7293034 by omega⟩ rfl rfl rfl (Nat.le_of_ble_eq_true rfl) dL_law_1608 (fun v6 M7 rv6 hI p8 => ?_)
  obtain ⟨hI, hW⟩ := hI
  obtain ⟨⟨av6, bv6⟩, fp8⟩ := p8
  have tM7_0_1 : M7 0 1 = M3 0 1 := fp8.at (by decide)
  have tM7_131_6 : M7 131 6 = M3 131 6 := fp8.t6 (by decide)
  have hRG : RlG M7 := rg_fr hIp fp8 (by unfold No5; decide) (by unfold NoI No5; decide) (by unfold NoG; decide) hRG
  have hRT : RlT M7 := rl_fr fp8 (by decide) hRT
  have hRS : RlS M7 := rs_fr hIp fp8 (by decide) (by decide) (by decide) (by unfold No5; decide) (by unfold NoI No5; decide) hRS
  refine z_istore F dL_law_1611 (by decide) (ls' := [(6, ii v6), (5, ii v2), (4, ii y), (0, .ref b), (1, .ref (ad 0)), (2, .ref (ad 131)), (3, .ref (ad 151))]) rfl ?_
  refine z_goto (tgt := 1691) F dL_law_1613 (by decide +kernel) ?_
  refine z_iincN F dL_law_1691 (q := 2) rfl (by decide) (fun w e => ?_)
  subst e
  refine z_eq (ls' := [(4, ii (y + 6)), (6, ii v6), (5, ii v2), (0, .ref b), (1, .ref (ad 0)), (2, .ref (ad 131)), (3, .ref (ad 151))]) rfl rfl rfl ?_
  refine z_goto (tgt := 23) F dL_law_1694 (by decide +kernel) ?_
  refine z_loc [0, 3, 4, 5, 6] (ls' := [(4, ii (y + 6)), (0, .ref b), (1, .ref (ad 0)), (2, .ref (ad 131)), (3, .ref (ad 151))]) rfl ?_
  refine z_wide (n1 := nk + 6) (s1 := sk + 36) (by omega) (by omega) ?_
  exact ih _ ⟨hI, hW⟩ ⟨⟨hRT, hRS⟩, hRG⟩
set_option maxRecDepth 4000 in
theorem law_c39 {p : Program} {l : Launch} {e : Env} {s : State} {m : MethodId} {below : List Frame} {meth : Method} {c : Code} {b L : Nat} {xs : Nat → Int32} {D : va_G} {cy : Nat → ClassId} {ad : Nat → Nat} {A : Nat → Prop} (hlT : l.stackTraces = false) (F : FxM D cy ad p m c cL_law 8 s #[Value.ref b] RL A) (hX : va_X b L xs s s.heap) (hbl : b < s.heap.size) (hbA : ¬ A b) (hL : L ≤ 3072) (y : Int) (hy0 : 0 ≤ y) (hy1 : y + 6 ≤ (L : Int)) (nk sk : Nat) (hnk : nk ≤ 9000 ∧ sk ≤ 90000) (M : Mem) (hJ : Iw M) (hR : RlD M ∧ RlG M) (ih : ∀ M' : Mem, Iw M' → (RlD M' ∧ RlG M') → Z D cy ad p l e room_1 s m #[Value.ref b] below meth c A 8 (nk + 6) (sk + 36) (lw_Z below #[Value.ref b] s) 23 [(4, ii (y + 6)), (0, .ref b), (1, .ref (ad 0)), (2, .ref (ad 131)), (3, .ref (ad 151))] [] M') : Z D cy ad p l e room_1 s m #[Value.ref b] below meth c A 8 nk sk (lw_Z below #[Value.ref b] s) 1616 [(4, ii y), (0, .ref b), (1, .ref (ad 0)), (2, .ref (ad 131)), (3, .ref (ad 151))] [] M := by
  obtain ⟨hI, hW⟩ := hJ
  have hRT := hR.1.1
  have hRS := hR.1.2
  have hRG := hR.2
  refine z_aload_n F dL_law_1616 rfl (q := 2) rfl ?_
  refine z_aload_n F dL_law_1617 rfl (q := 1) rfl ?_
  refine z_iload F dL_law_1618 (q := 0) rfl ?_
  refine z_iconst F dL_law_1620 ?_
  refine z_iadd F dL_law_1621 ?_
  refine z_sld F hX hbl hbA hL (by omega) (by omega) dL_law_1622 (fun v1 ev1 rv1 => ?_)
  have hIp := hI
  refine zh_i (rest := []) F (k_L_image l hlT M ⟨hI, hW⟩ v1 (by omega) (by omega)) cs_L_267 ⟨Nat.le_of_ble_eq_true rfl, Nat.le_of_ble_eq_true rfl⟩ ⟨show _ ≤ 601024 by omega, show _ ≤ 7293034 by omega⟩ rfl rfl rfl (Nat.le_of_ble_eq_true rfl) dL_law_1623 (fun v2 M3 rv2 hI p4 => ?_)
  obtain ⟨hI, hW⟩ := hI
  obtain ⟨fp4, xp4⟩ := p4
  have tM3_0_1 : M3 0 1 = M 0 1 := fp4.at (by decide)
  have tM3_131_6 : M3 131 6 = M 131 6 := fp4.at (by decide)
  have hRG : RlG M3 := rg_im hIp fp4 (by unfold No5; decide) (by decide) (xp4.elim (fun q => Or.inl q.2) (fun q => Or.inr q.2)) hRG
  have hIt := hIp
  have hRT : RlT M3 := rl_fr fp4 (by decide) hRT
  refine z_istore F dL_law_1626 (by decide) (ls' := [(5, ii v2), (4, ii y), (0, .ref b), (1, .ref (ad 0)), (2, .ref (ad 131)), (3, .ref (ad 151))]) rfl ?_
  refine z_aload_n F dL_law_1628 rfl (q := 4) rfl ?_
  refine z_aload_n F dL_law_1629 rfl (q := 2) rfl ?_
  refine z_iload F dL_law_1630 (q := 1) rfl ?_
  refine z_iconst F dL_law_1632 ?_
  refine z_iadd F dL_law_1633 ?_
  refine z_sld F hX hbl hbA hL (by omega) (by omega) dL_law_1634 (fun v5 ev5 rv5 => ?_)
  have zv5 : v1 = v5 := ev1.trans ev5.symm
  subst zv5
  have hIp := hI
  refine zl_v (rest := []) F (k_X12_image l M3 ⟨hI, hW⟩ v1 (by omega) (by omega)) cs_L_270 (T := TX12) (N := 44) (ci := 12) rfl gs_131 ⟨Nat.le_of_ble_eq_true rfl, Nat.le_of_ble_eq_true rfl⟩ ⟨show _ ≤ 601024 by omega, show _ ≤ 7293034 by omega⟩ rfl rfl rfl (Nat.le_of_ble_eq_true rfl) dL_law_1635 (fun M6 hI p7 => ?_)
  obtain ⟨hI, hW⟩ := hI
  obtain ⟨fp7, xp7, yp7⟩ := p7
  have tM6_0_1 : M6 0 1 = M3 0 1 := fp7.at (by decide)
  have tM6_131_6 : M6 131 6 = M3 131 6 := fp7.t6 (by decide)
  have hRG : RlG M6 := rg_fr hIp fp7 (by unfold No5; decide) (by unfold NoI No5; decide) (by unfold NoG; decide) hRG
  have hRT : RlT M6 := rl_fr fp7 (by decide) hRT
  have hRS : RlS M6 := rs_image hIt hRS fp4 ⟨(by unfold No5; decide), by decide, by decide, by decide⟩ (xp4.elim (fun q => Or.inl q.2) (fun q => Or.inr q.2)) fp7 (by unfold No5; decide) (by unfold NoI No5; decide) (by decide) xp7 yp7
  refine z_goto (tgt := 1691) F dL_law_1638 (by decide +kernel) ?_
  refine z_iincN F dL_law_1691 (q := 1) rfl (by decide) (fun w e => ?_)
  subst e
  refine z_eq (ls' := [(4, ii (y + 6)), (5, ii v2), (0, .ref b), (1, .ref (ad 0)), (2, .ref (ad 131)), (3, .ref (ad 151))]) rfl rfl rfl ?_
  refine z_goto (tgt := 23) F dL_law_1694 (by decide +kernel) ?_
  refine z_loc [0, 2, 3, 4, 5] (ls' := [(4, ii (y + 6)), (0, .ref b), (1, .ref (ad 0)), (2, .ref (ad 131)), (3, .ref (ad 151))]) rfl ?_
  refine z_wide (n1 := nk + 6) (s1 := sk + 36) (by omega) (by omega) ?_
  exact ih _ ⟨hI, hW⟩ ⟨⟨hRT, hRS⟩, hRG⟩
set_option maxRecDepth 4000 in
theorem law_c40 {p : Program} {l : Launch} {e : Env} {s : State} {m : MethodId} {below : List Frame} {meth : Method} {c : Code} {b L : Nat} {xs : Nat → Int32} {D : va_G} {cy : Nat → ClassId} {ad : Nat → Nat} {A : Nat → Prop} (hlT : l.stackTraces = false) (F : FxM D cy ad p m c cL_law 8 s #[Value.ref b] RL A) (hX : va_X b L xs s s.heap) (hbl : b < s.heap.size) (hbA : ¬ A b) (hL : L ≤ 3072) (y : Int) (hy0 : 0 ≤ y) (hy1 : y + 6 ≤ (L : Int)) (nk sk : Nat) (hnk : nk ≤ 9000 ∧ sk ≤ 90000) (M : Mem) (hJ : Iw M) (hR : RlD M ∧ RlG M) (ih : ∀ M' : Mem, Iw M' → (RlD M' ∧ RlG M') → Z D cy ad p l e room_1 s m #[Value.ref b] below meth c A 8 (nk + 6) (sk + 36) (lw_Z below #[Value.ref b] s) 23 [(4, ii (y + 6)), (0, .ref b), (1, .ref (ad 0)), (2, .ref (ad 131)), (3, .ref (ad 151))] [] M') : Z D cy ad p l e room_1 s m #[Value.ref b] below meth c A 8 nk sk (lw_Z below #[Value.ref b] s) 1641 [(4, ii y), (0, .ref b), (1, .ref (ad 0)), (2, .ref (ad 131)), (3, .ref (ad 151))] [] M := by
  obtain ⟨hI, hW⟩ := hJ
  have hRT := hR.1.1
  have hRS := hR.1.2
  have hRG := hR.2
  refine z_aload_n F dL_law_1641 rfl (q := 2) rfl ?_
  refine z_aload_n F dL_law_1642 rfl (q := 1) rfl ?_
  refine z_iload F dL_law_1643 (q := 0) rfl ?_
  refine z_iconst F dL_law_1645 ?_
  refine z_iadd F dL_law_1646 ?_
  refine z_sld F hX hbl hbA hL (by omega) (by omega) dL_law_1647 (fun v1 ev1 rv1 => ?_)
  have hIp := hI
  refine zh_i (rest := []) F (k_L_restore l hlT M ⟨hI, hW⟩ v1 (by omega) (by omega)) cs_L_271 ⟨Nat.le_of_ble_eq_true rfl, Nat.le_of_ble_eq_true rfl⟩ ⟨show _ ≤ 601024 by omega, show _ ≤ 7293034 by omega⟩ rfl rfl rfl (Nat.le_of_ble_eq_true rfl) dL_law_1648 (fun v2 M3 rv2 hI p4 => ?_)
  obtain ⟨hI, hW⟩ := hI
  obtain ⟨fp4, xp4⟩ := p4
  have tM3_0_1 : M3 0 1 = M 0 1 := fp4.at (by decide)
  have tM3_131_6 : M3 131 6 = M 131 6 := fp4.at (by decide)
  have hRG : RlG M3 := rg_re hIp fp4 (by unfold NoI No5; decide) ⟨by decide, by decide, by decide⟩ (xp4.elim (fun q => Or.inl q.2) (fun q => Or.inr q.2)) hRG
  have hIt := hIp
  have hRT : RlT M3 := rl_fr fp4 (by decide) hRT
  refine z_istore F dL_law_1651 (by decide) (ls' := [(5, ii v2), (4, ii y), (0, .ref b), (1, .ref (ad 0)), (2, .ref (ad 131)), (3, .ref (ad 151))]) rfl ?_
  refine z_aload_n F dL_law_1653 rfl (q := 4) rfl ?_
  refine z_aload_n F dL_law_1654 rfl (q := 2) rfl ?_
  refine z_iload F dL_law_1655 (q := 1) rfl ?_
  refine z_iconst F dL_law_1657 ?_
  refine z_iadd F dL_law_1658 ?_
  refine z_sld F hX hbl hbA hL (by omega) (by omega) dL_law_1659 (fun v5 ev5 rv5 => ?_)
  have zv5 : v1 = v5 := ev1.trans ev5.symm
  subst zv5
  have hIp := hI
  refine zl_v (rest := []) F (k_X12_restore l M3 ⟨hI, hW⟩ v1 (by omega) (by omega)) cs_L_273 (T := TX12) (N := 44) (ci := 12) rfl gs_131 ⟨Nat.le_of_ble_eq_true rfl, Nat.le_of_ble_eq_true rfl⟩ ⟨show _ ≤ 601024 by omega, show _ ≤ 7293034 by omega⟩ rfl rfl rfl (Nat.le_of_ble_eq_true rfl) dL_law_1660 (fun M6 hI p7 => ?_)
  obtain ⟨hI, hW⟩ := hI
  obtain ⟨fp7, xp7, yp7⟩ := p7
  have tM6_0_1 : M6 0 1 = M3 0 1 := fp7.at (by decide)
  have tM6_131_6 : M6 131 6 = M3 131 6 := fp7.t6 (by decide)
  have hRG : RlG M6 := rg_fr hIp fp7 (by unfold No5; decide) (by unfold NoI No5; decide) (by unfold NoG; decide) hRG
  have hRT : RlT M6 := rl_fr fp7 (by decide) hRT
  have hRS : RlS M6 := rs_restore hIt hRS fp4 ⟨(by unfold NoI No5; decide), by decide, by decide⟩ (xp4.elim (fun q => Or.inl q.2) (fun q => Or.inr q.2)) fp7 (by unfold No5; decide) (by unfold NoI No5; decide) ⟨by decide, by decide⟩ xp7 yp7
  refine z_goto (tgt := 1691) F dL_law_1663 (by decide +kernel) ?_
  refine z_iincN F dL_law_1691 (q := 1) rfl (by decide) (fun w e => ?_)
  subst e
  refine z_eq (ls' := [(4, ii (y + 6)), (5, ii v2), (0, .ref b), (1, .ref (ad 0)), (2, .ref (ad 131)), (3, .ref (ad 151))]) rfl rfl rfl ?_
  refine z_goto (tgt := 23) F dL_law_1694 (by decide +kernel) ?_
  refine z_loc [0, 2, 3, 4, 5] (ls' := [(4, ii (y + 6)), (0, .ref b), (1, .ref (ad 0)), (2, .ref (ad 131)), (3, .ref (ad 151))]) rfl ?_
  refine z_wide (n1 := nk + 6) (s1 := sk + 36) (by omega) (by omega) ?_
  exact ih _ ⟨hI, hW⟩ ⟨⟨hRT, hRS⟩, hRG⟩
set_option maxRecDepth 4000 in
theorem law_c41 {p : Program} {l : Launch} {e : Env} {s : State} {m : MethodId} {below : List Frame} {meth : Method} {c : Code} {b L : Nat} {xs : Nat → Int32} {D : va_G} {cy : Nat → ClassId} {ad : Nat → Nat} {A : Nat → Prop} (hlT : l.stackTraces = false) (F : FxM D cy ad p m c cL_law 8 s #[Value.ref b] RL A) (hX : va_X b L xs s s.heap) (hbl : b < s.heap.size) (hbA : ¬ A b) (hL : L ≤ 3072) (y : Int) (hy0 : 0 ≤ y) (hy1 : y + 6 ≤ (L : Int)) (nk sk : Nat) (hnk : nk ≤ 9000 ∧ sk ≤ 90000) (M : Mem) (hJ : Iw M) (hR : RlD M ∧ RlG M) (ih : ∀ M' : Mem, Iw M' → (RlD M' ∧ RlG M') → Z D cy ad p l e room_1 s m #[Value.ref b] below meth c A 8 (nk + 6) (sk + 36) (lw_Z below #[Value.ref b] s) 23 [(4, ii (y + 6)), (0, .ref b), (1, .ref (ad 0)), (2, .ref (ad 131)), (3, .ref (ad 151))] [] M') : Z D cy ad p l e room_1 s m #[Value.ref b] below meth c A 8 nk sk (lw_Z below #[Value.ref b] s) 1666 [(4, ii y), (0, .ref b), (1, .ref (ad 0)), (2, .ref (ad 131)), (3, .ref (ad 151))] [] M := by
  obtain ⟨hI, hW⟩ := hJ
  have hRT := hR.1.1
  have hRS := hR.1.2
  have hRG := hR.2
  refine z_aload_n F dL_law_1666 rfl (q := 2) rfl ?_
  refine z_aload_n F dL_law_1667 rfl (q := 1) rfl ?_
  refine z_iload F dL_law_1668 (q := 0) rfl ?_
  refine z_iconst F dL_law_1670 ?_
  refine z_iadd F dL_law_1671 ?_
  refine z_sld F hX hbl hbA hL (by omega) (by omega) dL_law_1672 (fun v1 ev1 rv1 => ?_)
  have hIp := hI
  refine zl_i (rest := []) F (k_X11_count l M ⟨hI, hW⟩ v1 (by omega) (by omega)) cs_L_274 (T := TX11) (N := 14) (ci := 11) rfl gs_0 ⟨Nat.le_of_ble_eq_true rfl, Nat.le_of_ble_eq_true rfl⟩ ⟨show _ ≤ 601024 by omega, show _ ≤ 7293034 by omega⟩ rfl rfl rfl (Nat.le_of_ble_eq_true rfl) dL_law_1673 (fun v2 M3 rv2 hI p4 => ?_)
  obtain ⟨hI, hW⟩ := hI
  obtain ⟨⟨av2, bv2⟩, rfl⟩ := p4
  refine z_pop F dL_law_1676 rfl ?_
  refine z_aload_n F dL_law_1677 rfl (q := 3) rfl ?_
  refine z_aload_n F dL_law_1678 rfl (q := 1) rfl ?_
  refine z_iload F dL_law_1679 (q := 0) rfl ?_
  refine z_iconst F dL_law_1681 ?_
  refine z_iadd F dL_law_1682 ?_
  refine z_sld F hX hbl hbA hL (by omega) (by omega) dL_law_1683 (fun v5 ev5 rv5 => ?_)
  have zv5 : v1 = v5 := ev1.trans ev5.symm
  subst zv5
  have hIp := hI
  refine zl_i (rest := []) F (k_X12_count l M ⟨hI, hW⟩ v1 (by omega) (by omega)) cs_L_277 (T := TX12) (N := 44) (ci := 12) rfl gs_131 ⟨Nat.le_of_ble_eq_true rfl, Nat.le_of_ble_eq_true rfl⟩ ⟨show _ ≤ 601024 by omega, show _ ≤ 7293034 by omega⟩ rfl rfl rfl (Nat.le_of_ble_eq_true rfl) dL_law_1684 (fun v6 M7 rv6 hI p8 => ?_)
  obtain ⟨hI, hW⟩ := hI
  obtain ⟨⟨av6, bv6⟩, fp8⟩ := p8
  have tM7_0_1 : M7 0 1 = M 0 1 := fp8.at (by decide)
  have tM7_131_6 : M7 131 6 = M 131 6 := fp8.t6 (by decide)
  have hRG : RlG M7 := rg_fr hIp fp8 (by unfold No5; decide) (by unfold NoI No5; decide) (by unfold NoG; decide) hRG
  have hRT : RlT M7 := rl_fr fp8 (by decide) hRT
  have hRS : RlS M7 := rs_fr hIp fp8 (by decide) (by decide) (by decide) (by unfold No5; decide) (by unfold NoI No5; decide) hRS
  refine z_pop F dL_law_1687 rfl ?_
  refine z_goto (tgt := 1691) F dL_law_1688 (by decide +kernel) ?_
  refine z_iincN F dL_law_1691 (q := 0) rfl (by decide) (fun w e => ?_)
  subst e
  refine z_eq (ls' := [(4, ii (y + 6)), (0, .ref b), (1, .ref (ad 0)), (2, .ref (ad 131)), (3, .ref (ad 151))]) rfl rfl rfl ?_
  refine z_goto (tgt := 23) F dL_law_1694 (by decide +kernel) ?_
  refine z_loc [0, 1, 2, 3, 4] (ls' := [(4, ii (y + 6)), (0, .ref b), (1, .ref (ad 0)), (2, .ref (ad 131)), (3, .ref (ad 151))]) rfl ?_
  refine z_wide (n1 := nk + 6) (s1 := sk + 36) (by omega) (by omega) ?_
  exact ih _ ⟨hI, hW⟩ ⟨⟨hRT, hRS⟩, hRG⟩
