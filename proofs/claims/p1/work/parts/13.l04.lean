theorem kd_W_law_1204 : decode kc_W_law 1204 = .ok (.iload 4, 2) := by decide +kernel
theorem kd_W_law_1206 : decode kc_W_law 1206 = .ok (.bipush 7, 2) := by decide +kernel
theorem kd_W_law_1208 : decode kc_W_law 1208 = .ok (.iadd, 1) := by decide +kernel
theorem kd_W_law_1209 : decode kc_W_law 1209 = .ok (.iaload, 1) := by decide +kernel
theorem kd_W_law_1210 : decode kc_W_law 1210 = .ok (.ifCond .eq 7, 3) := by decide +kernel
theorem kd_W_law_1213 : decode kc_W_law 1213 = .ok (.iconst 1, 1) := by decide +kernel
theorem kd_W_law_1214 : decode kc_W_law 1214 = .ok (.goto 4, 3) := by decide +kernel
theorem kd_W_law_1217 : decode kc_W_law 1217 = .ok (.iconst 0, 1) := by decide +kernel
theorem kd_W_law_1218 : decode kc_W_law 1218 = .ok (.aload_n 3, 1) := by decide +kernel
theorem kd_W_law_1219 : decode kc_W_law 1219 = .ok (.invokestatic 160, 3) := by decide +kernel
theorem kd_W_law_1222 : decode kc_W_law 1222 = .ok (.istore 5, 2) := by decide +kernel
theorem kd_W_law_1224 : decode kc_W_law 1224 = .ok (.aload_n 2, 1) := by decide +kernel
theorem kd_W_law_1225 : decode kc_W_law 1225 = .ok (.aload_n 0, 1) := by decide +kernel
theorem kd_W_law_1226 : decode kc_W_law 1226 = .ok (.iload 4, 2) := by decide +kernel
theorem kd_W_law_1228 : decode kc_W_law 1228 = .ok (.iconst 1, 1) := by decide +kernel
theorem kd_W_law_1229 : decode kc_W_law 1229 = .ok (.iadd, 1) := by decide +kernel
theorem kd_W_law_1230 : decode kc_W_law 1230 = .ok (.iaload, 1) := by decide +kernel
theorem kd_W_law_1231 : decode kc_W_law 1231 = .ok (.aload_n 0, 1) := by decide +kernel
theorem kd_W_law_1232 : decode kc_W_law 1232 = .ok (.iload 4, 2) := by decide +kernel
theorem kd_W_law_1234 : decode kc_W_law 1234 = .ok (.iconst 2, 1) := by decide +kernel
theorem kd_W_law_1235 : decode kc_W_law 1235 = .ok (.iadd, 1) := by decide +kernel
theorem kd_W_law_1236 : decode kc_W_law 1236 = .ok (.iaload, 1) := by decide +kernel
theorem kd_W_law_1237 : decode kc_W_law 1237 = .ok (.aload_n 0, 1) := by decide +kernel
theorem kd_W_law_1238 : decode kc_W_law 1238 = .ok (.iload 4, 2) := by decide +kernel
theorem kd_W_law_1240 : decode kc_W_law 1240 = .ok (.iconst 3, 1) := by decide +kernel
theorem kd_W_law_1241 : decode kc_W_law 1241 = .ok (.iadd, 1) := by decide +kernel
theorem kd_W_law_1242 : decode kc_W_law 1242 = .ok (.iaload, 1) := by decide +kernel
theorem kd_W_law_1243 : decode kc_W_law 1243 = .ok (.aload_n 0, 1) := by decide +kernel
theorem kd_W_law_1244 : decode kc_W_law 1244 = .ok (.iload 4, 2) := by decide +kernel
theorem kd_W_law_1246 : decode kc_W_law 1246 = .ok (.iconst 4, 1) := by decide +kernel
theorem kd_W_law_1247 : decode kc_W_law 1247 = .ok (.iadd, 1) := by decide +kernel
theorem kd_W_law_1248 : decode kc_W_law 1248 = .ok (.iaload, 1) := by decide +kernel
theorem kd_W_law_1249 : decode kc_W_law 1249 = .ok (.aload_n 0, 1) := by decide +kernel
theorem kd_W_law_1250 : decode kc_W_law 1250 = .ok (.iload 4, 2) := by decide +kernel
theorem kd_W_law_1252 : decode kc_W_law 1252 = .ok (.iconst 5, 1) := by decide +kernel
theorem kd_W_law_1253 : decode kc_W_law 1253 = .ok (.iadd, 1) := by decide +kernel
theorem kd_W_law_1254 : decode kc_W_law 1254 = .ok (.iaload, 1) := by decide +kernel
theorem kd_W_law_1255 : decode kc_W_law 1255 = .ok (.aload_n 0, 1) := by decide +kernel
theorem kd_W_law_1256 : decode kc_W_law 1256 = .ok (.iload 4, 2) := by decide +kernel
theorem kd_W_law_1258 : decode kc_W_law 1258 = .ok (.bipush 6, 2) := by decide +kernel
theorem kd_W_law_1260 : decode kc_W_law 1260 = .ok (.iadd, 1) := by decide +kernel
theorem kd_W_law_1261 : decode kc_W_law 1261 = .ok (.iaload, 1) := by decide +kernel
theorem kd_W_law_1262 : decode kc_W_law 1262 = .ok (.aload_n 0, 1) := by decide +kernel
theorem kd_W_law_1263 : decode kc_W_law 1263 = .ok (.iload 4, 2) := by decide +kernel
theorem kd_W_law_1265 : decode kc_W_law 1265 = .ok (.bipush 7, 2) := by decide +kernel
theorem kd_W_law_1267 : decode kc_W_law 1267 = .ok (.iadd, 1) := by decide +kernel
theorem kd_W_law_1268 : decode kc_W_law 1268 = .ok (.iaload, 1) := by decide +kernel
theorem kd_W_law_1269 : decode kc_W_law 1269 = .ok (.ifCond .eq 7, 3) := by decide +kernel
theorem kd_W_law_1272 : decode kc_W_law 1272 = .ok (.iconst 1, 1) := by decide +kernel
theorem kd_W_law_1273 : decode kc_W_law 1273 = .ok (.goto 4, 3) := by decide +kernel
theorem kd_W_law_1276 : decode kc_W_law 1276 = .ok (.iconst 0, 1) := by decide +kernel
theorem kd_W_law_1277 : decode kc_W_law 1277 = .ok (.invokevirtual 163, 3) := by decide +kernel
theorem kd_W_law_1280 : decode kc_W_law 1280 = .ok (.istore 6, 2) := by decide +kernel
theorem kd_W_law_1282 : decode kc_W_law 1282 = .ok (.aload_n 2, 1) := by decide +kernel
theorem kd_W_law_1283 : decode kc_W_law 1283 = .ok (.invokevirtual 113, 3) := by decide +kernel
theorem kd_W_law_1286 : decode kc_W_law 1286 = .ok (.iload 5, 2) := by decide +kernel
theorem kd_W_law_1288 : decode kc_W_law 1288 = .ok (.if_icmp .eq 5, 3) := by decide +kernel
theorem kd_W_law_1291 : decode kc_W_law 1291 = .ok (.iconst 0, 1) := by decide +kernel
theorem kd_W_law_1292 : decode kc_W_law 1292 = .ok (.ireturn, 1) := by decide +kernel
theorem kd_W_law_1293 : decode kc_W_law 1293 = .ok (.iload 5, 2) := by decide +kernel
theorem kd_W_law_1295 : decode kc_W_law 1295 = .ok (.ifCond .ne 15, 3) := by decide +kernel
theorem kd_W_law_1298 : decode kc_W_law 1298 = .ok (.aload_n 3, 1) := by decide +kernel
theorem kd_W_law_1299 : decode kc_W_law 1299 = .ok (.iconst 0, 1) := by decide +kernel
theorem kd_W_law_1300 : decode kc_W_law 1300 = .ok (.laload, 1) := by decide +kernel
theorem kd_W_law_1301 : decode kc_W_law 1301 = .ok (.iload 6, 2) := by decide +kernel
theorem kd_W_law_1303 : decode kc_W_law 1303 = .ok (.i2l, 1) := by decide +kernel
theorem kd_W_law_1304 : decode kc_W_law 1304 = .ok (.lcmp, 1) := by decide +kernel
theorem kd_W_law_1305 : decode kc_W_law 1305 = .ok (.ifCond .eq 5, 3) := by decide +kernel
theorem kd_W_law_1308 : decode kc_W_law 1308 = .ok (.iconst 0, 1) := by decide +kernel
theorem kd_W_law_1309 : decode kc_W_law 1309 = .ok (.ireturn, 1) := by decide +kernel
theorem kd_W_law_1310 : decode kc_W_law 1310 = .ok (.goto 703, 3) := by decide +kernel
theorem kd_W_law_1313 : decode kc_W_law 1313 = .ok (.aload_n 1, 1) := by decide +kernel
theorem kd_W_law_1314 : decode kc_W_law 1314 = .ok (.aload_n 0, 1) := by decide +kernel
theorem kd_W_law_1315 : decode kc_W_law 1315 = .ok (.iload 4, 2) := by decide +kernel
theorem kd_W_law_1317 : decode kc_W_law 1317 = .ok (.iconst 1, 1) := by decide +kernel
theorem kd_W_law_1318 : decode kc_W_law 1318 = .ok (.iadd, 1) := by decide +kernel
theorem kd_W_law_1319 : decode kc_W_law 1319 = .ok (.iaload, 1) := by decide +kernel
theorem kd_W_law_1320 : decode kc_W_law 1320 = .ok (.aload_n 0, 1) := by decide +kernel
theorem kd_W_law_1321 : decode kc_W_law 1321 = .ok (.iload 4, 2) := by decide +kernel
theorem kd_W_law_1323 : decode kc_W_law 1323 = .ok (.iconst 2, 1) := by decide +kernel
theorem kd_W_law_1324 : decode kc_W_law 1324 = .ok (.iadd, 1) := by decide +kernel
theorem kd_W_law_1325 : decode kc_W_law 1325 = .ok (.iaload, 1) := by decide +kernel
theorem kd_W_law_1326 : decode kc_W_law 1326 = .ok (.aload_n 0, 1) := by decide +kernel
theorem kd_W_law_1327 : decode kc_W_law 1327 = .ok (.iload 4, 2) := by decide +kernel
theorem kd_W_law_1329 : decode kc_W_law 1329 = .ok (.iconst 3, 1) := by decide +kernel
theorem kd_W_law_1330 : decode kc_W_law 1330 = .ok (.iadd, 1) := by decide +kernel
theorem kd_W_law_1331 : decode kc_W_law 1331 = .ok (.iaload, 1) := by decide +kernel
theorem kd_W_law_1332 : decode kc_W_law 1332 = .ok (.invokestatic 164, 3) := by decide +kernel
theorem kd_W_law_1335 : decode kc_W_law 1335 = .ok (.istore 5, 2) := by decide +kernel
theorem kd_W_law_1337 : decode kc_W_law 1337 = .ok (.aload_n 2, 1) := by decide +kernel
theorem kd_W_law_1338 : decode kc_W_law 1338 = .ok (.aload_n 0, 1) := by decide +kernel
theorem kd_W_law_1339 : decode kc_W_law 1339 = .ok (.iload 4, 2) := by decide +kernel
theorem kd_W_law_1341 : decode kc_W_law 1341 = .ok (.iconst 1, 1) := by decide +kernel
theorem kd_W_law_1342 : decode kc_W_law 1342 = .ok (.iadd, 1) := by decide +kernel
theorem kd_W_law_1343 : decode kc_W_law 1343 = .ok (.iaload, 1) := by decide +kernel
theorem kd_W_law_1344 : decode kc_W_law 1344 = .ok (.aload_n 0, 1) := by decide +kernel
theorem kd_W_law_1345 : decode kc_W_law 1345 = .ok (.iload 4, 2) := by decide +kernel
theorem kd_W_law_1347 : decode kc_W_law 1347 = .ok (.iconst 2, 1) := by decide +kernel
theorem kd_W_law_1348 : decode kc_W_law 1348 = .ok (.iadd, 1) := by decide +kernel
theorem kd_W_law_1349 : decode kc_W_law 1349 = .ok (.iaload, 1) := by decide +kernel
theorem kd_W_law_1350 : decode kc_W_law 1350 = .ok (.aload_n 0, 1) := by decide +kernel
theorem kd_W_law_1351 : decode kc_W_law 1351 = .ok (.iload 4, 2) := by decide +kernel
theorem kd_W_law_1353 : decode kc_W_law 1353 = .ok (.iconst 3, 1) := by decide +kernel
theorem kd_W_law_1354 : decode kc_W_law 1354 = .ok (.iadd, 1) := by decide +kernel
theorem kd_W_law_1355 : decode kc_W_law 1355 = .ok (.iaload, 1) := by decide +kernel
theorem kd_W_law_1356 : decode kc_W_law 1356 = .ok (.invokevirtual 166, 3) := by decide +kernel
theorem kd_W_law_1359 : decode kc_W_law 1359 = .ok (.aload_n 2, 1) := by decide +kernel
theorem kd_W_law_1360 : decode kc_W_law 1360 = .ok (.invokevirtual 113, 3) := by decide +kernel
theorem kd_W_law_1363 : decode kc_W_law 1363 = .ok (.iload 5, 2) := by decide +kernel
theorem kd_W_law_1365 : decode kc_W_law 1365 = .ok (.if_icmp .eq 5, 3) := by decide +kernel
theorem kd_W_law_1368 : decode kc_W_law 1368 = .ok (.iconst 0, 1) := by decide +kernel
theorem kd_W_law_1369 : decode kc_W_law 1369 = .ok (.ireturn, 1) := by decide +kernel
theorem kd_W_law_1370 : decode kc_W_law 1370 = .ok (.goto 643, 3) := by decide +kernel
theorem kd_W_law_1373 : decode kc_W_law 1373 = .ok (.aload_n 1, 1) := by decide +kernel
theorem kd_W_law_1374 : decode kc_W_law 1374 = .ok (.aload_n 0, 1) := by decide +kernel
theorem kd_W_law_1375 : decode kc_W_law 1375 = .ok (.iload 4, 2) := by decide +kernel
theorem kd_W_law_1377 : decode kc_W_law 1377 = .ok (.iconst 1, 1) := by decide +kernel
theorem kd_W_law_1378 : decode kc_W_law 1378 = .ok (.iadd, 1) := by decide +kernel
theorem kd_W_law_1379 : decode kc_W_law 1379 = .ok (.iaload, 1) := by decide +kernel
theorem kd_W_law_1380 : decode kc_W_law 1380 = .ok (.aload_n 0, 1) := by decide +kernel
theorem kd_W_law_1381 : decode kc_W_law 1381 = .ok (.iload 4, 2) := by decide +kernel
theorem kd_W_law_1383 : decode kc_W_law 1383 = .ok (.iconst 2, 1) := by decide +kernel
theorem kd_W_law_1384 : decode kc_W_law 1384 = .ok (.iadd, 1) := by decide +kernel
theorem kd_W_law_1385 : decode kc_W_law 1385 = .ok (.iaload, 1) := by decide +kernel
theorem kd_W_law_1386 : decode kc_W_law 1386 = .ok (.aload_n 0, 1) := by decide +kernel
theorem kd_W_law_1387 : decode kc_W_law 1387 = .ok (.iload 4, 2) := by decide +kernel
theorem kd_W_law_1389 : decode kc_W_law 1389 = .ok (.iconst 3, 1) := by decide +kernel
theorem kd_W_law_1390 : decode kc_W_law 1390 = .ok (.iadd, 1) := by decide +kernel
theorem kd_W_law_1391 : decode kc_W_law 1391 = .ok (.iaload, 1) := by decide +kernel
theorem kd_W_law_1392 : decode kc_W_law 1392 = .ok (.aload_n 3, 1) := by decide +kernel
theorem kd_W_law_1393 : decode kc_W_law 1393 = .ok (.invokestatic 167, 3) := by decide +kernel
theorem kd_W_law_1396 : decode kc_W_law 1396 = .ok (.istore 5, 2) := by decide +kernel
theorem kd_W_law_1398 : decode kc_W_law 1398 = .ok (.aload_n 2, 1) := by decide +kernel
theorem kd_W_law_1399 : decode kc_W_law 1399 = .ok (.aload_n 0, 1) := by decide +kernel
theorem kd_W_law_1400 : decode kc_W_law 1400 = .ok (.iload 4, 2) := by decide +kernel
theorem kd_W_law_1402 : decode kc_W_law 1402 = .ok (.iconst 1, 1) := by decide +kernel
theorem kd_W_law_1403 : decode kc_W_law 1403 = .ok (.iadd, 1) := by decide +kernel
theorem kd_W_law_1404 : decode kc_W_law 1404 = .ok (.iaload, 1) := by decide +kernel
theorem kd_W_law_1405 : decode kc_W_law 1405 = .ok (.aload_n 0, 1) := by decide +kernel
theorem kd_W_law_1406 : decode kc_W_law 1406 = .ok (.iload 4, 2) := by decide +kernel
theorem kd_W_law_1408 : decode kc_W_law 1408 = .ok (.iconst 2, 1) := by decide +kernel
theorem kd_W_law_1409 : decode kc_W_law 1409 = .ok (.iadd, 1) := by decide +kernel
theorem kd_W_law_1410 : decode kc_W_law 1410 = .ok (.iaload, 1) := by decide +kernel
theorem kd_W_law_1411 : decode kc_W_law 1411 = .ok (.aload_n 0, 1) := by decide +kernel
theorem kd_W_law_1412 : decode kc_W_law 1412 = .ok (.iload 4, 2) := by decide +kernel
theorem kd_W_law_1414 : decode kc_W_law 1414 = .ok (.iconst 3, 1) := by decide +kernel
theorem kd_W_law_1415 : decode kc_W_law 1415 = .ok (.iadd, 1) := by decide +kernel
theorem kd_W_law_1416 : decode kc_W_law 1416 = .ok (.iaload, 1) := by decide +kernel
theorem kd_W_law_1417 : decode kc_W_law 1417 = .ok (.invokevirtual 169, 3) := by decide +kernel
theorem kd_W_law_1420 : decode kc_W_law 1420 = .ok (.lstore 6, 2) := by decide +kernel
theorem kd_W_law_1422 : decode kc_W_law 1422 = .ok (.aload_n 2, 1) := by decide +kernel
theorem kd_W_law_1423 : decode kc_W_law 1423 = .ok (.invokevirtual 113, 3) := by decide +kernel
theorem kd_W_law_1426 : decode kc_W_law 1426 = .ok (.iload 5, 2) := by decide +kernel
theorem kd_W_law_1428 : decode kc_W_law 1428 = .ok (.if_icmp .eq 5, 3) := by decide +kernel
theorem kd_W_law_1431 : decode kc_W_law 1431 = .ok (.iconst 0, 1) := by decide +kernel
theorem kd_W_law_1432 : decode kc_W_law 1432 = .ok (.ireturn, 1) := by decide +kernel
theorem kd_W_law_1433 : decode kc_W_law 1433 = .ok (.iload 5, 2) := by decide +kernel
theorem kd_W_law_1435 : decode kc_W_law 1435 = .ok (.ifCond .ne 14, 3) := by decide +kernel
theorem kd_W_law_1438 : decode kc_W_law 1438 = .ok (.aload_n 3, 1) := by decide +kernel
theorem kd_W_law_1439 : decode kc_W_law 1439 = .ok (.iconst 0, 1) := by decide +kernel
theorem kd_W_law_1440 : decode kc_W_law 1440 = .ok (.laload, 1) := by decide +kernel
theorem kd_W_law_1441 : decode kc_W_law 1441 = .ok (.lload 6, 2) := by decide +kernel
theorem kd_W_law_1443 : decode kc_W_law 1443 = .ok (.lcmp, 1) := by decide +kernel
theorem kd_W_law_1444 : decode kc_W_law 1444 = .ok (.ifCond .eq 5, 3) := by decide +kernel
theorem kd_W_law_1447 : decode kc_W_law 1447 = .ok (.iconst 0, 1) := by decide +kernel
theorem kd_W_law_1448 : decode kc_W_law 1448 = .ok (.ireturn, 1) := by decide +kernel
theorem kd_W_law_1449 : decode kc_W_law 1449 = .ok (.goto 564, 3) := by decide +kernel
theorem kd_W_law_1452 : decode kc_W_law 1452 = .ok (.aload_n 1, 1) := by decide +kernel
theorem kd_W_law_1453 : decode kc_W_law 1453 = .ok (.aload_n 0, 1) := by decide +kernel
theorem kd_W_law_1454 : decode kc_W_law 1454 = .ok (.iload 4, 2) := by decide +kernel
theorem kd_W_law_1456 : decode kc_W_law 1456 = .ok (.iconst 1, 1) := by decide +kernel
theorem kd_W_law_1457 : decode kc_W_law 1457 = .ok (.iadd, 1) := by decide +kernel
theorem kd_W_law_1458 : decode kc_W_law 1458 = .ok (.iaload, 1) := by decide +kernel
theorem kd_W_law_1459 : decode kc_W_law 1459 = .ok (.aload_n 3, 1) := by decide +kernel
theorem kd_W_law_1460 : decode kc_W_law 1460 = .ok (.invokestatic 170, 3) := by decide +kernel
theorem kd_W_law_1463 : decode kc_W_law 1463 = .ok (.istore 5, 2) := by decide +kernel
theorem kd_W_law_1465 : decode kc_W_law 1465 = .ok (.aload_n 2, 1) := by decide +kernel
theorem kd_W_law_1466 : decode kc_W_law 1466 = .ok (.aload_n 0, 1) := by decide +kernel
theorem kd_W_law_1467 : decode kc_W_law 1467 = .ok (.iload 4, 2) := by decide +kernel
theorem kd_W_law_1469 : decode kc_W_law 1469 = .ok (.iconst 1, 1) := by decide +kernel
theorem kd_W_law_1470 : decode kc_W_law 1470 = .ok (.iadd, 1) := by decide +kernel
theorem kd_W_law_1471 : decode kc_W_law 1471 = .ok (.iaload, 1) := by decide +kernel
theorem kd_W_law_1472 : decode kc_W_law 1472 = .ok (.invokevirtual 172, 3) := by decide +kernel
theorem kd_W_law_1475 : decode kc_W_law 1475 = .ok (.lstore 6, 2) := by decide +kernel
theorem kd_W_law_1477 : decode kc_W_law 1477 = .ok (.aload_n 2, 1) := by decide +kernel
theorem kd_W_law_1478 : decode kc_W_law 1478 = .ok (.invokevirtual 113, 3) := by decide +kernel
theorem kd_W_law_1481 : decode kc_W_law 1481 = .ok (.iload 5, 2) := by decide +kernel
theorem kd_W_law_1483 : decode kc_W_law 1483 = .ok (.if_icmp .eq 5, 3) := by decide +kernel
theorem kd_W_law_1486 : decode kc_W_law 1486 = .ok (.iconst 0, 1) := by decide +kernel
theorem kd_W_law_1487 : decode kc_W_law 1487 = .ok (.ireturn, 1) := by decide +kernel
theorem kd_W_law_1488 : decode kc_W_law 1488 = .ok (.iload 5, 2) := by decide +kernel
theorem kd_W_law_1490 : decode kc_W_law 1490 = .ok (.ifCond .ne 14, 3) := by decide +kernel
theorem kd_W_law_1493 : decode kc_W_law 1493 = .ok (.aload_n 3, 1) := by decide +kernel
theorem kd_W_law_1494 : decode kc_W_law 1494 = .ok (.iconst 0, 1) := by decide +kernel
theorem kd_W_law_1495 : decode kc_W_law 1495 = .ok (.laload, 1) := by decide +kernel
theorem kd_W_law_1496 : decode kc_W_law 1496 = .ok (.lload 6, 2) := by decide +kernel
theorem kd_W_law_1498 : decode kc_W_law 1498 = .ok (.lcmp, 1) := by decide +kernel
theorem kd_W_law_1499 : decode kc_W_law 1499 = .ok (.ifCond .eq 5, 3) := by decide +kernel
theorem kd_W_law_1502 : decode kc_W_law 1502 = .ok (.iconst 0, 1) := by decide +kernel
theorem kd_W_law_1503 : decode kc_W_law 1503 = .ok (.ireturn, 1) := by decide +kernel
theorem kd_W_law_1504 : decode kc_W_law 1504 = .ok (.goto 509, 3) := by decide +kernel
theorem kd_W_law_1507 : decode kc_W_law 1507 = .ok (.aload_n 1, 1) := by decide +kernel
theorem kd_W_law_1508 : decode kc_W_law 1508 = .ok (.aload_n 0, 1) := by decide +kernel
theorem kd_W_law_1509 : decode kc_W_law 1509 = .ok (.iload 4, 2) := by decide +kernel
theorem kd_W_law_1511 : decode kc_W_law 1511 = .ok (.iconst 1, 1) := by decide +kernel
theorem kd_W_law_1512 : decode kc_W_law 1512 = .ok (.iadd, 1) := by decide +kernel
theorem kd_W_law_1513 : decode kc_W_law 1513 = .ok (.iaload, 1) := by decide +kernel
theorem kd_W_law_1514 : decode kc_W_law 1514 = .ok (.aload_n 0, 1) := by decide +kernel
theorem kd_W_law_1515 : decode kc_W_law 1515 = .ok (.iload 4, 2) := by decide +kernel
theorem kd_W_law_1517 : decode kc_W_law 1517 = .ok (.iconst 2, 1) := by decide +kernel
theorem kd_W_law_1518 : decode kc_W_law 1518 = .ok (.iadd, 1) := by decide +kernel
theorem kd_W_law_1519 : decode kc_W_law 1519 = .ok (.iaload, 1) := by decide +kernel
theorem kd_W_law_1520 : decode kc_W_law 1520 = .ok (.aload_n 0, 1) := by decide +kernel
theorem kd_W_law_1521 : decode kc_W_law 1521 = .ok (.iload 4, 2) := by decide +kernel
theorem kd_W_law_1523 : decode kc_W_law 1523 = .ok (.iconst 3, 1) := by decide +kernel
theorem kd_W_law_1524 : decode kc_W_law 1524 = .ok (.iadd, 1) := by decide +kernel
theorem kd_W_law_1525 : decode kc_W_law 1525 = .ok (.iaload, 1) := by decide +kernel
theorem kd_W_law_1526 : decode kc_W_law 1526 = .ok (.aload_n 0, 1) := by decide +kernel
theorem kd_W_law_1527 : decode kc_W_law 1527 = .ok (.iload 4, 2) := by decide +kernel
theorem kd_W_law_1529 : decode kc_W_law 1529 = .ok (.iconst 4, 1) := by decide +kernel
theorem kd_W_law_1530 : decode kc_W_law 1530 = .ok (.iadd, 1) := by decide +kernel
theorem kd_W_law_1531 : decode kc_W_law 1531 = .ok (.iaload, 1) := by decide +kernel
theorem kd_W_law_1532 : decode kc_W_law 1532 = .ok (.aload_n 3, 1) := by decide +kernel
theorem kd_W_law_1533 : decode kc_W_law 1533 = .ok (.invokestatic 173, 3) := by decide +kernel
theorem kd_W_law_1536 : decode kc_W_law 1536 = .ok (.istore 5, 2) := by decide +kernel
theorem kd_W_law_1538 : decode kc_W_law 1538 = .ok (.aload_n 2, 1) := by decide +kernel
theorem kd_W_law_1539 : decode kc_W_law 1539 = .ok (.aload_n 0, 1) := by decide +kernel
theorem kd_W_law_1540 : decode kc_W_law 1540 = .ok (.iload 4, 2) := by decide +kernel
theorem kd_W_law_1542 : decode kc_W_law 1542 = .ok (.iconst 1, 1) := by decide +kernel
theorem kd_W_law_1543 : decode kc_W_law 1543 = .ok (.iadd, 1) := by decide +kernel
theorem kd_W_law_1544 : decode kc_W_law 1544 = .ok (.iaload, 1) := by decide +kernel
theorem kd_W_law_1545 : decode kc_W_law 1545 = .ok (.aload_n 0, 1) := by decide +kernel
theorem kd_W_law_1546 : decode kc_W_law 1546 = .ok (.iload 4, 2) := by decide +kernel
theorem kd_W_law_1548 : decode kc_W_law 1548 = .ok (.iconst 2, 1) := by decide +kernel
theorem kd_W_law_1549 : decode kc_W_law 1549 = .ok (.iadd, 1) := by decide +kernel
theorem kd_W_law_1550 : decode kc_W_law 1550 = .ok (.iaload, 1) := by decide +kernel
theorem kd_W_law_1551 : decode kc_W_law 1551 = .ok (.aload_n 0, 1) := by decide +kernel
theorem kd_W_law_1552 : decode kc_W_law 1552 = .ok (.iload 4, 2) := by decide +kernel
theorem kd_W_law_1554 : decode kc_W_law 1554 = .ok (.iconst 3, 1) := by decide +kernel
theorem kd_W_law_1555 : decode kc_W_law 1555 = .ok (.iadd, 1) := by decide +kernel
theorem kd_W_law_1556 : decode kc_W_law 1556 = .ok (.iaload, 1) := by decide +kernel
theorem kd_W_law_1557 : decode kc_W_law 1557 = .ok (.aload_n 0, 1) := by decide +kernel
theorem kd_W_law_1558 : decode kc_W_law 1558 = .ok (.iload 4, 2) := by decide +kernel
theorem kd_W_law_1560 : decode kc_W_law 1560 = .ok (.iconst 4, 1) := by decide +kernel
theorem kd_W_law_1561 : decode kc_W_law 1561 = .ok (.iadd, 1) := by decide +kernel
theorem kd_W_law_1562 : decode kc_W_law 1562 = .ok (.iaload, 1) := by decide +kernel
theorem kd_W_law_1563 : decode kc_W_law 1563 = .ok (.invokevirtual 175, 3) := by decide +kernel
theorem kd_W_law_1566 : decode kc_W_law 1566 = .ok (.lstore 6, 2) := by decide +kernel
theorem kd_W_law_1568 : decode kc_W_law 1568 = .ok (.aload_n 2, 1) := by decide +kernel
theorem kd_W_law_1569 : decode kc_W_law 1569 = .ok (.invokevirtual 113, 3) := by decide +kernel
