theorem dL_law_1124 : decode cL_law 1124 = .ok (.istore 5, 2) := by decide +kernel
theorem dL_law_1126 : decode cL_law 1126 = .ok (.aload_n 2, 1) := by decide +kernel
theorem dL_law_1127 : decode cL_law 1127 = .ok (.aload_n 0, 1) := by decide +kernel
theorem dL_law_1128 : decode cL_law 1128 = .ok (.iload 4, 2) := by decide +kernel
theorem dL_law_1130 : decode cL_law 1130 = .ok (.iconst 1, 1) := by decide +kernel
theorem dL_law_1131 : decode cL_law 1131 = .ok (.iadd, 1) := by decide +kernel
theorem dL_law_1132 : decode cL_law 1132 = .ok (.iaload, 1) := by decide +kernel
theorem dL_law_1133 : decode cL_law 1133 = .ok (.invokevirtual 139, 3) := by decide +kernel
theorem dL_law_1136 : decode cL_law 1136 = .ok (.istore 6, 2) := by decide +kernel
theorem dL_law_1138 : decode cL_law 1138 = .ok (.aload_n 2, 1) := by decide +kernel
theorem dL_law_1139 : decode cL_law 1139 = .ok (.invokevirtual 80, 3) := by decide +kernel
theorem dL_law_1142 : decode cL_law 1142 = .ok (.iload 5, 2) := by decide +kernel
theorem dL_law_1144 : decode cL_law 1144 = .ok (.if_icmp .eq 5, 3) := by decide +kernel
theorem dL_law_1147 : decode cL_law 1147 = .ok (.iconst 0, 1) := by decide +kernel
theorem dL_law_1148 : decode cL_law 1148 = .ok (.ireturn, 1) := by decide +kernel
theorem dL_law_1149 : decode cL_law 1149 = .ok (.iload 5, 2) := by decide +kernel
theorem dL_law_1151 : decode cL_law 1151 = .ok (.ifCond .ne 22, 3) := by decide +kernel
theorem dL_law_1154 : decode cL_law 1154 = .ok (.aload_n 3, 1) := by decide +kernel
theorem dL_law_1155 : decode cL_law 1155 = .ok (.iconst 0, 1) := by decide +kernel
theorem dL_law_1156 : decode cL_law 1156 = .ok (.laload, 1) := by decide +kernel
theorem dL_law_1157 : decode cL_law 1157 = .ok (.iload 6, 2) := by decide +kernel
theorem dL_law_1159 : decode cL_law 1159 = .ok (.ifCond .eq 7, 3) := by decide +kernel
theorem dL_law_1162 : decode cL_law 1162 = .ok (.lconst 1, 1) := by decide +kernel
theorem dL_law_1163 : decode cL_law 1163 = .ok (.goto 4, 3) := by decide +kernel
theorem dL_law_1166 : decode cL_law 1166 = .ok (.lconst 0, 1) := by decide +kernel
theorem dL_law_1167 : decode cL_law 1167 = .ok (.lcmp, 1) := by decide +kernel
theorem dL_law_1168 : decode cL_law 1168 = .ok (.ifCond .eq 5, 3) := by decide +kernel
theorem dL_law_1171 : decode cL_law 1171 = .ok (.iconst 0, 1) := by decide +kernel
theorem dL_law_1172 : decode cL_law 1172 = .ok (.ireturn, 1) := by decide +kernel
theorem dL_law_1173 : decode cL_law 1173 = .ok (.goto 302, 3) := by decide +kernel
theorem dL_law_1176 : decode cL_law 1176 = .ok (.aload_n 1, 1) := by decide +kernel
theorem dL_law_1177 : decode cL_law 1177 = .ok (.invokevirtual 140, 3) := by decide +kernel
theorem dL_law_1180 : decode cL_law 1180 = .ok (.aload_n 2, 1) := by decide +kernel
theorem dL_law_1181 : decode cL_law 1181 = .ok (.invokevirtual 143, 3) := by decide +kernel
theorem dL_law_1184 : decode cL_law 1184 = .ok (.if_icmp .eq 291, 3) := by decide +kernel
theorem dL_law_1187 : decode cL_law 1187 = .ok (.iconst 0, 1) := by decide +kernel
theorem dL_law_1188 : decode cL_law 1188 = .ok (.ireturn, 1) := by decide +kernel
theorem dL_law_1189 : decode cL_law 1189 = .ok (.aload_n 1, 1) := by decide +kernel
theorem dL_law_1190 : decode cL_law 1190 = .ok (.invokevirtual 144, 3) := by decide +kernel
theorem dL_law_1193 : decode cL_law 1193 = .ok (.dstore 5, 2) := by decide +kernel
theorem dL_law_1195 : decode cL_law 1195 = .ok (.aload_n 2, 1) := by decide +kernel
theorem dL_law_1196 : decode cL_law 1196 = .ok (.invokevirtual 148, 3) := by decide +kernel
theorem dL_law_1199 : decode cL_law 1199 = .ok (.dstore 7, 2) := by decide +kernel
theorem dL_law_1201 : decode cL_law 1201 = .ok (.dload 5, 2) := by decide +kernel
theorem dL_law_1203 : decode cL_law 1203 = .ok (.dload 7, 2) := by decide +kernel
theorem dL_law_1205 : decode cL_law 1205 = .ok (.dcmp .l, 1) := by decide +kernel
theorem dL_law_1206 : decode cL_law 1206 = .ok (.ifCond .eq 21, 3) := by decide +kernel
theorem dL_law_1209 : decode cL_law 1209 = .ok (.dload 5, 2) := by decide +kernel
theorem dL_law_1211 : decode cL_law 1211 = .ok (.dload 5, 2) := by decide +kernel
theorem dL_law_1213 : decode cL_law 1213 = .ok (.dcmp .l, 1) := by decide +kernel
theorem dL_law_1214 : decode cL_law 1214 = .ok (.ifCond .eq 11, 3) := by decide +kernel
theorem dL_law_1217 : decode cL_law 1217 = .ok (.dload 7, 2) := by decide +kernel
theorem dL_law_1219 : decode cL_law 1219 = .ok (.dload 7, 2) := by decide +kernel
theorem dL_law_1221 : decode cL_law 1221 = .ok (.dcmp .l, 1) := by decide +kernel
theorem dL_law_1222 : decode cL_law 1222 = .ok (.ifCond .ne 5, 3) := by decide +kernel
theorem dL_law_1225 : decode cL_law 1225 = .ok (.iconst 0, 1) := by decide +kernel
theorem dL_law_1226 : decode cL_law 1226 = .ok (.ireturn, 1) := by decide +kernel
theorem dL_law_1227 : decode cL_law 1227 = .ok (.goto 248, 3) := by decide +kernel
theorem dL_law_1230 : decode cL_law 1230 = .ok (.aload_n 1, 1) := by decide +kernel
theorem dL_law_1231 : decode cL_law 1231 = .ok (.invokevirtual 149, 3) := by decide +kernel
theorem dL_law_1234 : decode cL_law 1234 = .ok (.aload_n 2, 1) := by decide +kernel
theorem dL_law_1235 : decode cL_law 1235 = .ok (.invokevirtual 152, 3) := by decide +kernel
theorem dL_law_1238 : decode cL_law 1238 = .ok (.if_icmp .eq 237, 3) := by decide +kernel
theorem dL_law_1241 : decode cL_law 1241 = .ok (.iconst 0, 1) := by decide +kernel
theorem dL_law_1242 : decode cL_law 1242 = .ok (.ireturn, 1) := by decide +kernel
theorem dL_law_1243 : decode cL_law 1243 = .ok (.aload_n 1, 1) := by decide +kernel
theorem dL_law_1244 : decode cL_law 1244 = .ok (.invokevirtual 153, 3) := by decide +kernel
theorem dL_law_1247 : decode cL_law 1247 = .ok (.aload_n 2, 1) := by decide +kernel
theorem dL_law_1248 : decode cL_law 1248 = .ok (.invokevirtual 156, 3) := by decide +kernel
theorem dL_law_1251 : decode cL_law 1251 = .ok (.if_icmp .eq 224, 3) := by decide +kernel
theorem dL_law_1254 : decode cL_law 1254 = .ok (.iconst 0, 1) := by decide +kernel
theorem dL_law_1255 : decode cL_law 1255 = .ok (.ireturn, 1) := by decide +kernel
theorem dL_law_1256 : decode cL_law 1256 = .ok (.aload_n 1, 1) := by decide +kernel
theorem dL_law_1257 : decode cL_law 1257 = .ok (.invokevirtual 157, 3) := by decide +kernel
theorem dL_law_1260 : decode cL_law 1260 = .ok (.aload_n 2, 1) := by decide +kernel
theorem dL_law_1261 : decode cL_law 1261 = .ok (.invokevirtual 160, 3) := by decide +kernel
theorem dL_law_1264 : decode cL_law 1264 = .ok (.if_icmp .eq 211, 3) := by decide +kernel
theorem dL_law_1267 : decode cL_law 1267 = .ok (.iconst 0, 1) := by decide +kernel
theorem dL_law_1268 : decode cL_law 1268 = .ok (.ireturn, 1) := by decide +kernel
theorem dL_law_1269 : decode cL_law 1269 = .ok (.aload_n 1, 1) := by decide +kernel
theorem dL_law_1270 : decode cL_law 1270 = .ok (.invokevirtual 161, 3) := by decide +kernel
theorem dL_law_1273 : decode cL_law 1273 = .ok (.aload_n 2, 1) := by decide +kernel
theorem dL_law_1274 : decode cL_law 1274 = .ok (.invokevirtual 164, 3) := by decide +kernel
theorem dL_law_1277 : decode cL_law 1277 = .ok (.if_icmp .eq 198, 3) := by decide +kernel
theorem dL_law_1280 : decode cL_law 1280 = .ok (.iconst 0, 1) := by decide +kernel
theorem dL_law_1281 : decode cL_law 1281 = .ok (.ireturn, 1) := by decide +kernel
theorem dL_law_1282 : decode cL_law 1282 = .ok (.aload_n 1, 1) := by decide +kernel
theorem dL_law_1283 : decode cL_law 1283 = .ok (.invokevirtual 165, 3) := by decide +kernel
theorem dL_law_1286 : decode cL_law 1286 = .ok (.aload_n 2, 1) := by decide +kernel
theorem dL_law_1287 : decode cL_law 1287 = .ok (.invokevirtual 168, 3) := by decide +kernel
theorem dL_law_1290 : decode cL_law 1290 = .ok (.if_icmp .eq 185, 3) := by decide +kernel
theorem dL_law_1293 : decode cL_law 1293 = .ok (.iconst 0, 1) := by decide +kernel
theorem dL_law_1294 : decode cL_law 1294 = .ok (.ireturn, 1) := by decide +kernel
theorem dL_law_1295 : decode cL_law 1295 = .ok (.aload_n 1, 1) := by decide +kernel
theorem dL_law_1296 : decode cL_law 1296 = .ok (.invokevirtual 169, 3) := by decide +kernel
theorem dL_law_1299 : decode cL_law 1299 = .ok (.aload_n 2, 1) := by decide +kernel
theorem dL_law_1300 : decode cL_law 1300 = .ok (.invokevirtual 172, 3) := by decide +kernel
theorem dL_law_1303 : decode cL_law 1303 = .ok (.if_icmp .eq 172, 3) := by decide +kernel
theorem dL_law_1306 : decode cL_law 1306 = .ok (.iconst 0, 1) := by decide +kernel
theorem dL_law_1307 : decode cL_law 1307 = .ok (.ireturn, 1) := by decide +kernel
theorem dL_law_1308 : decode cL_law 1308 = .ok (.aload_n 1, 1) := by decide +kernel
theorem dL_law_1309 : decode cL_law 1309 = .ok (.aload_n 0, 1) := by decide +kernel
theorem dL_law_1310 : decode cL_law 1310 = .ok (.iload 4, 2) := by decide +kernel
theorem dL_law_1312 : decode cL_law 1312 = .ok (.iconst 1, 1) := by decide +kernel
theorem dL_law_1313 : decode cL_law 1313 = .ok (.iadd, 1) := by decide +kernel
theorem dL_law_1314 : decode cL_law 1314 = .ok (.iaload, 1) := by decide +kernel
theorem dL_law_1315 : decode cL_law 1315 = .ok (.i2l, 1) := by decide +kernel
theorem dL_law_1316 : decode cL_law 1316 = .ok (.bipush 32, 2) := by decide +kernel
theorem dL_law_1318 : decode cL_law 1318 = .ok (.lshl, 1) := by decide +kernel
theorem dL_law_1319 : decode cL_law 1319 = .ok (.aload_n 0, 1) := by decide +kernel
theorem dL_law_1320 : decode cL_law 1320 = .ok (.iload 4, 2) := by decide +kernel
theorem dL_law_1322 : decode cL_law 1322 = .ok (.iconst 2, 1) := by decide +kernel
theorem dL_law_1323 : decode cL_law 1323 = .ok (.iadd, 1) := by decide +kernel
theorem dL_law_1324 : decode cL_law 1324 = .ok (.iaload, 1) := by decide +kernel
theorem dL_law_1325 : decode cL_law 1325 = .ok (.i2l, 1) := by decide +kernel
theorem dL_law_1326 : decode cL_law 1326 = .ok (.ldc2_w 173, 3) := by decide +kernel
theorem dL_law_1329 : decode cL_law 1329 = .ok (.land, 1) := by decide +kernel
theorem dL_law_1330 : decode cL_law 1330 = .ok (.lor, 1) := by decide +kernel
theorem dL_law_1331 : decode cL_law 1331 = .ok (.aload_n 0, 1) := by decide +kernel
theorem dL_law_1332 : decode cL_law 1332 = .ok (.iload 4, 2) := by decide +kernel
theorem dL_law_1334 : decode cL_law 1334 = .ok (.iconst 3, 1) := by decide +kernel
theorem dL_law_1335 : decode cL_law 1335 = .ok (.iadd, 1) := by decide +kernel
theorem dL_law_1336 : decode cL_law 1336 = .ok (.iaload, 1) := by decide +kernel
theorem dL_law_1337 : decode cL_law 1337 = .ok (.aload_n 3, 1) := by decide +kernel
theorem dL_law_1338 : decode cL_law 1338 = .ok (.invokestatic 175, 3) := by decide +kernel
theorem dL_law_1341 : decode cL_law 1341 = .ok (.istore 5, 2) := by decide +kernel
theorem dL_law_1343 : decode cL_law 1343 = .ok (.aload_n 2, 1) := by decide +kernel
theorem dL_law_1344 : decode cL_law 1344 = .ok (.aload_n 0, 1) := by decide +kernel
theorem dL_law_1345 : decode cL_law 1345 = .ok (.iload 4, 2) := by decide +kernel
theorem dL_law_1347 : decode cL_law 1347 = .ok (.iconst 1, 1) := by decide +kernel
theorem dL_law_1348 : decode cL_law 1348 = .ok (.iadd, 1) := by decide +kernel
theorem dL_law_1349 : decode cL_law 1349 = .ok (.iaload, 1) := by decide +kernel
theorem dL_law_1350 : decode cL_law 1350 = .ok (.i2l, 1) := by decide +kernel
theorem dL_law_1351 : decode cL_law 1351 = .ok (.bipush 32, 2) := by decide +kernel
theorem dL_law_1353 : decode cL_law 1353 = .ok (.lshl, 1) := by decide +kernel
theorem dL_law_1354 : decode cL_law 1354 = .ok (.aload_n 0, 1) := by decide +kernel
theorem dL_law_1355 : decode cL_law 1355 = .ok (.iload 4, 2) := by decide +kernel
theorem dL_law_1357 : decode cL_law 1357 = .ok (.iconst 2, 1) := by decide +kernel
theorem dL_law_1358 : decode cL_law 1358 = .ok (.iadd, 1) := by decide +kernel
theorem dL_law_1359 : decode cL_law 1359 = .ok (.iaload, 1) := by decide +kernel
theorem dL_law_1360 : decode cL_law 1360 = .ok (.i2l, 1) := by decide +kernel
theorem dL_law_1361 : decode cL_law 1361 = .ok (.ldc2_w 173, 3) := by decide +kernel
theorem dL_law_1364 : decode cL_law 1364 = .ok (.land, 1) := by decide +kernel
theorem dL_law_1365 : decode cL_law 1365 = .ok (.lor, 1) := by decide +kernel
theorem dL_law_1366 : decode cL_law 1366 = .ok (.aload_n 0, 1) := by decide +kernel
theorem dL_law_1367 : decode cL_law 1367 = .ok (.iload 4, 2) := by decide +kernel
theorem dL_law_1369 : decode cL_law 1369 = .ok (.iconst 3, 1) := by decide +kernel
theorem dL_law_1370 : decode cL_law 1370 = .ok (.iadd, 1) := by decide +kernel
theorem dL_law_1371 : decode cL_law 1371 = .ok (.iaload, 1) := by decide +kernel
theorem dL_law_1372 : decode cL_law 1372 = .ok (.invokevirtual 178, 3) := by decide +kernel
theorem dL_law_1375 : decode cL_law 1375 = .ok (.istore 6, 2) := by decide +kernel
theorem dL_law_1377 : decode cL_law 1377 = .ok (.aload_n 2, 1) := by decide +kernel
theorem dL_law_1378 : decode cL_law 1378 = .ok (.invokevirtual 80, 3) := by decide +kernel
theorem dL_law_1381 : decode cL_law 1381 = .ok (.iload 5, 2) := by decide +kernel
theorem dL_law_1383 : decode cL_law 1383 = .ok (.if_icmp .eq 5, 3) := by decide +kernel
theorem dL_law_1386 : decode cL_law 1386 = .ok (.iconst 0, 1) := by decide +kernel
theorem dL_law_1387 : decode cL_law 1387 = .ok (.ireturn, 1) := by decide +kernel
theorem dL_law_1388 : decode cL_law 1388 = .ok (.iload 5, 2) := by decide +kernel
theorem dL_law_1390 : decode cL_law 1390 = .ok (.ifCond .ne 15, 3) := by decide +kernel
theorem dL_law_1393 : decode cL_law 1393 = .ok (.aload_n 3, 1) := by decide +kernel
theorem dL_law_1394 : decode cL_law 1394 = .ok (.iconst 0, 1) := by decide +kernel
theorem dL_law_1395 : decode cL_law 1395 = .ok (.laload, 1) := by decide +kernel
theorem dL_law_1396 : decode cL_law 1396 = .ok (.iload 6, 2) := by decide +kernel
theorem dL_law_1398 : decode cL_law 1398 = .ok (.i2l, 1) := by decide +kernel
theorem dL_law_1399 : decode cL_law 1399 = .ok (.lcmp, 1) := by decide +kernel
theorem dL_law_1400 : decode cL_law 1400 = .ok (.ifCond .eq 5, 3) := by decide +kernel
theorem dL_law_1403 : decode cL_law 1403 = .ok (.iconst 0, 1) := by decide +kernel
theorem dL_law_1404 : decode cL_law 1404 = .ok (.ireturn, 1) := by decide +kernel
theorem dL_law_1405 : decode cL_law 1405 = .ok (.goto 70, 3) := by decide +kernel
theorem dL_law_1408 : decode cL_law 1408 = .ok (.aload_n 1, 1) := by decide +kernel
theorem dL_law_1409 : decode cL_law 1409 = .ok (.invokevirtual 179, 3) := by decide +kernel
theorem dL_law_1412 : decode cL_law 1412 = .ok (.aload_n 2, 1) := by decide +kernel
theorem dL_law_1413 : decode cL_law 1413 = .ok (.invokevirtual 182, 3) := by decide +kernel
theorem dL_law_1416 : decode cL_law 1416 = .ok (.if_icmp .eq 59, 3) := by decide +kernel
theorem dL_law_1419 : decode cL_law 1419 = .ok (.iconst 0, 1) := by decide +kernel
theorem dL_law_1420 : decode cL_law 1420 = .ok (.ireturn, 1) := by decide +kernel
theorem dL_law_1421 : decode cL_law 1421 = .ok (.aload_n 1, 1) := by decide +kernel
theorem dL_law_1422 : decode cL_law 1422 = .ok (.invokevirtual 183, 3) := by decide +kernel
theorem dL_law_1425 : decode cL_law 1425 = .ok (.aload_n 2, 1) := by decide +kernel
theorem dL_law_1426 : decode cL_law 1426 = .ok (.invokevirtual 186, 3) := by decide +kernel
theorem dL_law_1429 : decode cL_law 1429 = .ok (.if_icmp .eq 46, 3) := by decide +kernel
theorem dL_law_1432 : decode cL_law 1432 = .ok (.iconst 0, 1) := by decide +kernel
theorem dL_law_1433 : decode cL_law 1433 = .ok (.ireturn, 1) := by decide +kernel
theorem dL_law_1434 : decode cL_law 1434 = .ok (.aload_n 1, 1) := by decide +kernel
theorem dL_law_1435 : decode cL_law 1435 = .ok (.invokevirtual 187, 3) := by decide +kernel
theorem dL_law_1438 : decode cL_law 1438 = .ok (.aload_n 2, 1) := by decide +kernel
theorem dL_law_1439 : decode cL_law 1439 = .ok (.invokevirtual 190, 3) := by decide +kernel
theorem dL_law_1442 : decode cL_law 1442 = .ok (.if_icmp .eq 33, 3) := by decide +kernel
theorem dL_law_1445 : decode cL_law 1445 = .ok (.iconst 0, 1) := by decide +kernel
theorem dL_law_1446 : decode cL_law 1446 = .ok (.ireturn, 1) := by decide +kernel
theorem dL_law_1447 : decode cL_law 1447 = .ok (.aload_n 1, 1) := by decide +kernel
theorem dL_law_1448 : decode cL_law 1448 = .ok (.invokevirtual 191, 3) := by decide +kernel
theorem dL_law_1451 : decode cL_law 1451 = .ok (.aload_n 2, 1) := by decide +kernel
theorem dL_law_1452 : decode cL_law 1452 = .ok (.invokevirtual 195, 3) := by decide +kernel
theorem dL_law_1455 : decode cL_law 1455 = .ok (.lcmp, 1) := by decide +kernel
theorem dL_law_1456 : decode cL_law 1456 = .ok (.ifCond .eq 19, 3) := by decide +kernel
theorem dL_law_1459 : decode cL_law 1459 = .ok (.iconst 0, 1) := by decide +kernel
theorem dL_law_1460 : decode cL_law 1460 = .ok (.ireturn, 1) := by decide +kernel
theorem dL_law_1461 : decode cL_law 1461 = .ok (.aload_n 1, 1) := by decide +kernel
theorem dL_law_1462 : decode cL_law 1462 = .ok (.invokevirtual 196, 3) := by decide +kernel
theorem dL_law_1465 : decode cL_law 1465 = .ok (.aload_n 2, 1) := by decide +kernel
theorem dL_law_1466 : decode cL_law 1466 = .ok (.invokevirtual 199, 3) := by decide +kernel
theorem dL_law_1469 : decode cL_law 1469 = .ok (.lcmp, 1) := by decide +kernel
theorem dL_law_1470 : decode cL_law 1470 = .ok (.ifCond .eq 5, 3) := by decide +kernel
theorem dL_law_1473 : decode cL_law 1473 = .ok (.iconst 0, 1) := by decide +kernel
theorem dL_law_1474 : decode cL_law 1474 = .ok (.ireturn, 1) := by decide +kernel
theorem dL_law_1475 : decode cL_law 1475 = .ok (.iinc 4 5, 3) := by decide +kernel
theorem dL_law_1478 : decode cL_law 1478 = .ok (.goto (-1455), 3) := by decide +kernel
theorem dL_law_1481 : decode cL_law 1481 = .ok (.iconst 1, 1) := by decide +kernel
theorem dL_law_1482 : decode cL_law 1482 = .ok (.ireturn, 1) := by decide +kernel
