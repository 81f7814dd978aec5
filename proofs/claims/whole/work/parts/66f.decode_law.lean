theorem d_L_law_1240 : decode c_L_law 1240 = .ok (.aload_n 1, 1) := by decide +kernel
theorem d_L_law_1241 : decode c_L_law 1241 = .ok (.aload_n 0, 1) := by decide +kernel
theorem d_L_law_1242 : decode c_L_law 1242 = .ok (.iload 4, 2) := by decide +kernel
theorem d_L_law_1244 : decode c_L_law 1244 = .ok (.iconst 1, 1) := by decide +kernel
theorem d_L_law_1245 : decode c_L_law 1245 = .ok (.iadd, 1) := by decide +kernel
theorem d_L_law_1246 : decode c_L_law 1246 = .ok (.iaload, 1) := by decide +kernel
theorem d_L_law_1247 : decode c_L_law 1247 = .ok (.aload_n 0, 1) := by decide +kernel
theorem d_L_law_1248 : decode c_L_law 1248 = .ok (.iload 4, 2) := by decide +kernel
theorem d_L_law_1250 : decode c_L_law 1250 = .ok (.iconst 2, 1) := by decide +kernel
theorem d_L_law_1251 : decode c_L_law 1251 = .ok (.iadd, 1) := by decide +kernel
theorem d_L_law_1252 : decode c_L_law 1252 = .ok (.iaload, 1) := by decide +kernel
theorem d_L_law_1253 : decode c_L_law 1253 = .ok (.i2l, 1) := by decide +kernel
theorem d_L_law_1254 : decode c_L_law 1254 = .ok (.bipush 32, 2) := by decide +kernel
theorem d_L_law_1256 : decode c_L_law 1256 = .ok (.lshl, 1) := by decide +kernel
theorem d_L_law_1257 : decode c_L_law 1257 = .ok (.aload_n 0, 1) := by decide +kernel
theorem d_L_law_1258 : decode c_L_law 1258 = .ok (.iload 4, 2) := by decide +kernel
theorem d_L_law_1260 : decode c_L_law 1260 = .ok (.iconst 3, 1) := by decide +kernel
theorem d_L_law_1261 : decode c_L_law 1261 = .ok (.iadd, 1) := by decide +kernel
theorem d_L_law_1262 : decode c_L_law 1262 = .ok (.iaload, 1) := by decide +kernel
theorem d_L_law_1263 : decode c_L_law 1263 = .ok (.i2l, 1) := by decide +kernel
theorem d_L_law_1264 : decode c_L_law 1264 = .ok (.ldc2_w 81, 3) := by decide +kernel
theorem d_L_law_1267 : decode c_L_law 1267 = .ok (.land, 1) := by decide +kernel
theorem d_L_law_1268 : decode c_L_law 1268 = .ok (.lor, 1) := by decide +kernel
theorem d_L_law_1269 : decode c_L_law 1269 = .ok (.aload_n 3, 1) := by decide +kernel
theorem d_L_law_1270 : decode c_L_law 1270 = .ok (.invokestatic 132, 3) := by decide +kernel
theorem d_L_law_1273 : decode c_L_law 1273 = .ok (.istore 5, 2) := by decide +kernel
theorem d_L_law_1275 : decode c_L_law 1275 = .ok (.aload_n 2, 1) := by decide +kernel
theorem d_L_law_1276 : decode c_L_law 1276 = .ok (.aload_n 0, 1) := by decide +kernel
theorem d_L_law_1277 : decode c_L_law 1277 = .ok (.iload 4, 2) := by decide +kernel
theorem d_L_law_1279 : decode c_L_law 1279 = .ok (.iconst 1, 1) := by decide +kernel
theorem d_L_law_1280 : decode c_L_law 1280 = .ok (.iadd, 1) := by decide +kernel
theorem d_L_law_1281 : decode c_L_law 1281 = .ok (.iaload, 1) := by decide +kernel
theorem d_L_law_1282 : decode c_L_law 1282 = .ok (.aload_n 0, 1) := by decide +kernel
theorem d_L_law_1283 : decode c_L_law 1283 = .ok (.iload 4, 2) := by decide +kernel
theorem d_L_law_1285 : decode c_L_law 1285 = .ok (.iconst 2, 1) := by decide +kernel
theorem d_L_law_1286 : decode c_L_law 1286 = .ok (.iadd, 1) := by decide +kernel
theorem d_L_law_1287 : decode c_L_law 1287 = .ok (.iaload, 1) := by decide +kernel
theorem d_L_law_1288 : decode c_L_law 1288 = .ok (.i2l, 1) := by decide +kernel
theorem d_L_law_1289 : decode c_L_law 1289 = .ok (.bipush 32, 2) := by decide +kernel
theorem d_L_law_1291 : decode c_L_law 1291 = .ok (.lshl, 1) := by decide +kernel
theorem d_L_law_1292 : decode c_L_law 1292 = .ok (.aload_n 0, 1) := by decide +kernel
theorem d_L_law_1293 : decode c_L_law 1293 = .ok (.iload 4, 2) := by decide +kernel
theorem d_L_law_1295 : decode c_L_law 1295 = .ok (.iconst 3, 1) := by decide +kernel
theorem d_L_law_1296 : decode c_L_law 1296 = .ok (.iadd, 1) := by decide +kernel
theorem d_L_law_1297 : decode c_L_law 1297 = .ok (.iaload, 1) := by decide +kernel
theorem d_L_law_1298 : decode c_L_law 1298 = .ok (.i2l, 1) := by decide +kernel
theorem d_L_law_1299 : decode c_L_law 1299 = .ok (.ldc2_w 81, 3) := by decide +kernel
theorem d_L_law_1302 : decode c_L_law 1302 = .ok (.land, 1) := by decide +kernel
theorem d_L_law_1303 : decode c_L_law 1303 = .ok (.lor, 1) := by decide +kernel
theorem d_L_law_1304 : decode c_L_law 1304 = .ok (.invokevirtual 134, 3) := by decide +kernel
theorem d_L_law_1307 : decode c_L_law 1307 = .ok (.istore 6, 2) := by decide +kernel
theorem d_L_law_1309 : decode c_L_law 1309 = .ok (.aload_n 2, 1) := by decide +kernel
theorem d_L_law_1310 : decode c_L_law 1310 = .ok (.invokevirtual 87, 3) := by decide +kernel
theorem d_L_law_1313 : decode c_L_law 1313 = .ok (.iload 5, 2) := by decide +kernel
theorem d_L_law_1315 : decode c_L_law 1315 = .ok (.if_icmp .eq 5, 3) := by decide +kernel
theorem d_L_law_1318 : decode c_L_law 1318 = .ok (.iconst 0, 1) := by decide +kernel
theorem d_L_law_1319 : decode c_L_law 1319 = .ok (.ireturn, 1) := by decide +kernel
theorem d_L_law_1320 : decode c_L_law 1320 = .ok (.iload 5, 2) := by decide +kernel
theorem d_L_law_1322 : decode c_L_law 1322 = .ok (.ifCond .ne 22, 3) := by decide +kernel
theorem d_L_law_1325 : decode c_L_law 1325 = .ok (.aload_n 3, 1) := by decide +kernel
theorem d_L_law_1326 : decode c_L_law 1326 = .ok (.iconst 0, 1) := by decide +kernel
theorem d_L_law_1327 : decode c_L_law 1327 = .ok (.laload, 1) := by decide +kernel
theorem d_L_law_1328 : decode c_L_law 1328 = .ok (.iload 6, 2) := by decide +kernel
theorem d_L_law_1330 : decode c_L_law 1330 = .ok (.ifCond .eq 7, 3) := by decide +kernel
theorem d_L_law_1333 : decode c_L_law 1333 = .ok (.lconst 1, 1) := by decide +kernel
theorem d_L_law_1334 : decode c_L_law 1334 = .ok (.goto 4, 3) := by decide +kernel
theorem d_L_law_1337 : decode c_L_law 1337 = .ok (.lconst 0, 1) := by decide +kernel
theorem d_L_law_1338 : decode c_L_law 1338 = .ok (.lcmp, 1) := by decide +kernel
theorem d_L_law_1339 : decode c_L_law 1339 = .ok (.ifCond .eq 5, 3) := by decide +kernel
theorem d_L_law_1342 : decode c_L_law 1342 = .ok (.iconst 0, 1) := by decide +kernel
theorem d_L_law_1343 : decode c_L_law 1343 = .ok (.ireturn, 1) := by decide +kernel
theorem d_L_law_1344 : decode c_L_law 1344 = .ok (.goto 116, 3) := by decide +kernel
theorem d_L_law_1347 : decode c_L_law 1347 = .ok (.aload_n 1, 1) := by decide +kernel
theorem d_L_law_1348 : decode c_L_law 1348 = .ok (.invokevirtual 135, 3) := by decide +kernel
theorem d_L_law_1351 : decode c_L_law 1351 = .ok (.aload_n 2, 1) := by decide +kernel
theorem d_L_law_1352 : decode c_L_law 1352 = .ok (.invokevirtual 138, 3) := by decide +kernel
theorem d_L_law_1355 : decode c_L_law 1355 = .ok (.if_icmp .eq 105, 3) := by decide +kernel
theorem d_L_law_1358 : decode c_L_law 1358 = .ok (.iconst 0, 1) := by decide +kernel
theorem d_L_law_1359 : decode c_L_law 1359 = .ok (.ireturn, 1) := by decide +kernel
theorem d_L_law_1360 : decode c_L_law 1360 = .ok (.aload_n 1, 1) := by decide +kernel
theorem d_L_law_1361 : decode c_L_law 1361 = .ok (.aload_n 0, 1) := by decide +kernel
theorem d_L_law_1362 : decode c_L_law 1362 = .ok (.iload 4, 2) := by decide +kernel
theorem d_L_law_1364 : decode c_L_law 1364 = .ok (.iconst 1, 1) := by decide +kernel
theorem d_L_law_1365 : decode c_L_law 1365 = .ok (.iadd, 1) := by decide +kernel
theorem d_L_law_1366 : decode c_L_law 1366 = .ok (.iaload, 1) := by decide +kernel
theorem d_L_law_1367 : decode c_L_law 1367 = .ok (.invokevirtual 139, 3) := by decide +kernel
theorem d_L_law_1370 : decode c_L_law 1370 = .ok (.aload_n 2, 1) := by decide +kernel
theorem d_L_law_1371 : decode c_L_law 1371 = .ok (.aload_n 0, 1) := by decide +kernel
theorem d_L_law_1372 : decode c_L_law 1372 = .ok (.iload 4, 2) := by decide +kernel
theorem d_L_law_1374 : decode c_L_law 1374 = .ok (.iconst 1, 1) := by decide +kernel
theorem d_L_law_1375 : decode c_L_law 1375 = .ok (.iadd, 1) := by decide +kernel
theorem d_L_law_1376 : decode c_L_law 1376 = .ok (.iaload, 1) := by decide +kernel
theorem d_L_law_1377 : decode c_L_law 1377 = .ok (.invokevirtual 143, 3) := by decide +kernel
theorem d_L_law_1380 : decode c_L_law 1380 = .ok (.if_icmp .eq 80, 3) := by decide +kernel
theorem d_L_law_1383 : decode c_L_law 1383 = .ok (.iconst 0, 1) := by decide +kernel
theorem d_L_law_1384 : decode c_L_law 1384 = .ok (.ireturn, 1) := by decide +kernel
theorem d_L_law_1385 : decode c_L_law 1385 = .ok (.aload_n 1, 1) := by decide +kernel
theorem d_L_law_1386 : decode c_L_law 1386 = .ok (.aload_n 0, 1) := by decide +kernel
theorem d_L_law_1387 : decode c_L_law 1387 = .ok (.iload 4, 2) := by decide +kernel
theorem d_L_law_1389 : decode c_L_law 1389 = .ok (.iconst 1, 1) := by decide +kernel
theorem d_L_law_1390 : decode c_L_law 1390 = .ok (.iadd, 1) := by decide +kernel
theorem d_L_law_1391 : decode c_L_law 1391 = .ok (.iaload, 1) := by decide +kernel
theorem d_L_law_1392 : decode c_L_law 1392 = .ok (.aload_n 0, 1) := by decide +kernel
theorem d_L_law_1393 : decode c_L_law 1393 = .ok (.iload 4, 2) := by decide +kernel
theorem d_L_law_1395 : decode c_L_law 1395 = .ok (.iconst 2, 1) := by decide +kernel
theorem d_L_law_1396 : decode c_L_law 1396 = .ok (.iadd, 1) := by decide +kernel
theorem d_L_law_1397 : decode c_L_law 1397 = .ok (.iaload, 1) := by decide +kernel
theorem d_L_law_1398 : decode c_L_law 1398 = .ok (.aload_n 3, 1) := by decide +kernel
theorem d_L_law_1399 : decode c_L_law 1399 = .ok (.invokestatic 144, 3) := by decide +kernel
theorem d_L_law_1402 : decode c_L_law 1402 = .ok (.istore 5, 2) := by decide +kernel
theorem d_L_law_1404 : decode c_L_law 1404 = .ok (.aload_n 2, 1) := by decide +kernel
theorem d_L_law_1405 : decode c_L_law 1405 = .ok (.aload_n 0, 1) := by decide +kernel
theorem d_L_law_1406 : decode c_L_law 1406 = .ok (.iload 4, 2) := by decide +kernel
theorem d_L_law_1408 : decode c_L_law 1408 = .ok (.iconst 1, 1) := by decide +kernel
theorem d_L_law_1409 : decode c_L_law 1409 = .ok (.iadd, 1) := by decide +kernel
theorem d_L_law_1410 : decode c_L_law 1410 = .ok (.iaload, 1) := by decide +kernel
theorem d_L_law_1411 : decode c_L_law 1411 = .ok (.aload_n 0, 1) := by decide +kernel
theorem d_L_law_1412 : decode c_L_law 1412 = .ok (.iload 4, 2) := by decide +kernel
theorem d_L_law_1414 : decode c_L_law 1414 = .ok (.iconst 2, 1) := by decide +kernel
theorem d_L_law_1415 : decode c_L_law 1415 = .ok (.iadd, 1) := by decide +kernel
theorem d_L_law_1416 : decode c_L_law 1416 = .ok (.iaload, 1) := by decide +kernel
theorem d_L_law_1417 : decode c_L_law 1417 = .ok (.invokevirtual 146, 3) := by decide +kernel
theorem d_L_law_1420 : decode c_L_law 1420 = .ok (.istore 6, 2) := by decide +kernel
theorem d_L_law_1422 : decode c_L_law 1422 = .ok (.aload_n 2, 1) := by decide +kernel
theorem d_L_law_1423 : decode c_L_law 1423 = .ok (.invokevirtual 87, 3) := by decide +kernel
theorem d_L_law_1426 : decode c_L_law 1426 = .ok (.iload 5, 2) := by decide +kernel
theorem d_L_law_1428 : decode c_L_law 1428 = .ok (.if_icmp .eq 5, 3) := by decide +kernel
theorem d_L_law_1431 : decode c_L_law 1431 = .ok (.iconst 0, 1) := by decide +kernel
theorem d_L_law_1432 : decode c_L_law 1432 = .ok (.ireturn, 1) := by decide +kernel
theorem d_L_law_1433 : decode c_L_law 1433 = .ok (.iload 5, 2) := by decide +kernel
theorem d_L_law_1435 : decode c_L_law 1435 = .ok (.ifCond .ne 22, 3) := by decide +kernel
theorem d_L_law_1438 : decode c_L_law 1438 = .ok (.aload_n 3, 1) := by decide +kernel
theorem d_L_law_1439 : decode c_L_law 1439 = .ok (.iconst 0, 1) := by decide +kernel
theorem d_L_law_1440 : decode c_L_law 1440 = .ok (.laload, 1) := by decide +kernel
theorem d_L_law_1441 : decode c_L_law 1441 = .ok (.iload 6, 2) := by decide +kernel
theorem d_L_law_1443 : decode c_L_law 1443 = .ok (.ifCond .eq 7, 3) := by decide +kernel
theorem d_L_law_1446 : decode c_L_law 1446 = .ok (.lconst 1, 1) := by decide +kernel
theorem d_L_law_1447 : decode c_L_law 1447 = .ok (.goto 4, 3) := by decide +kernel
theorem d_L_law_1450 : decode c_L_law 1450 = .ok (.lconst 0, 1) := by decide +kernel
theorem d_L_law_1451 : decode c_L_law 1451 = .ok (.lcmp, 1) := by decide +kernel
theorem d_L_law_1452 : decode c_L_law 1452 = .ok (.ifCond .eq 5, 3) := by decide +kernel
theorem d_L_law_1455 : decode c_L_law 1455 = .ok (.iconst 0, 1) := by decide +kernel
theorem d_L_law_1456 : decode c_L_law 1456 = .ok (.ireturn, 1) := by decide +kernel
theorem d_L_law_1457 : decode c_L_law 1457 = .ok (.goto 3, 3) := by decide +kernel
theorem d_L_law_1460 : decode c_L_law 1460 = .ok (.iinc 4 8, 3) := by decide +kernel
theorem d_L_law_1463 : decode c_L_law 1463 = .ok (.goto (-1416), 3) := by decide +kernel
theorem d_L_law_1466 : decode c_L_law 1466 = .ok (.iconst 1, 1) := by decide +kernel
theorem d_L_law_1467 : decode c_L_law 1467 = .ok (.ireturn, 1) := by decide +kernel
