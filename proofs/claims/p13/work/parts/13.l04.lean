theorem kd_W_law_1157 : decode kc_W_law 1157 = .ok (.iload 4, 2) := by decide +kernel
theorem kd_W_law_1159 : decode kc_W_law 1159 = .ok (.iconst 3, 1) := by decide +kernel
theorem kd_W_law_1160 : decode kc_W_law 1160 = .ok (.iadd, 1) := by decide +kernel
theorem kd_W_law_1161 : decode kc_W_law 1161 = .ok (.iaload, 1) := by decide +kernel
theorem kd_W_law_1162 : decode kc_W_law 1162 = .ok (.aload_n 0, 1) := by decide +kernel
theorem kd_W_law_1163 : decode kc_W_law 1163 = .ok (.iload 4, 2) := by decide +kernel
theorem kd_W_law_1165 : decode kc_W_law 1165 = .ok (.iconst 4, 1) := by decide +kernel
theorem kd_W_law_1166 : decode kc_W_law 1166 = .ok (.iadd, 1) := by decide +kernel
theorem kd_W_law_1167 : decode kc_W_law 1167 = .ok (.iaload, 1) := by decide +kernel
theorem kd_W_law_1168 : decode kc_W_law 1168 = .ok (.invokevirtual 175, 3) := by decide +kernel
theorem kd_W_law_1171 : decode kc_W_law 1171 = .ok (.lstore 6, 2) := by decide +kernel
theorem kd_W_law_1173 : decode kc_W_law 1173 = .ok (.goto 255, 3) := by decide +kernel
theorem kd_W_law_1176 : decode kc_W_law 1176 = .ok (.aload_n 1, 1) := by decide +kernel
theorem kd_W_law_1177 : decode kc_W_law 1177 = .ok (.aload_n 0, 1) := by decide +kernel
theorem kd_W_law_1178 : decode kc_W_law 1178 = .ok (.iload 4, 2) := by decide +kernel
theorem kd_W_law_1180 : decode kc_W_law 1180 = .ok (.iconst 1, 1) := by decide +kernel
theorem kd_W_law_1181 : decode kc_W_law 1181 = .ok (.iadd, 1) := by decide +kernel
theorem kd_W_law_1182 : decode kc_W_law 1182 = .ok (.iaload, 1) := by decide +kernel
theorem kd_W_law_1183 : decode kc_W_law 1183 = .ok (.aload_n 0, 1) := by decide +kernel
theorem kd_W_law_1184 : decode kc_W_law 1184 = .ok (.iload 4, 2) := by decide +kernel
theorem kd_W_law_1186 : decode kc_W_law 1186 = .ok (.iconst 2, 1) := by decide +kernel
theorem kd_W_law_1187 : decode kc_W_law 1187 = .ok (.iadd, 1) := by decide +kernel
theorem kd_W_law_1188 : decode kc_W_law 1188 = .ok (.iaload, 1) := by decide +kernel
theorem kd_W_law_1189 : decode kc_W_law 1189 = .ok (.aload_n 3, 1) := by decide +kernel
theorem kd_W_law_1190 : decode kc_W_law 1190 = .ok (.invokestatic 176, 3) := by decide +kernel
theorem kd_W_law_1193 : decode kc_W_law 1193 = .ok (.istore 5, 2) := by decide +kernel
theorem kd_W_law_1195 : decode kc_W_law 1195 = .ok (.aload_n 2, 1) := by decide +kernel
theorem kd_W_law_1196 : decode kc_W_law 1196 = .ok (.aload_n 0, 1) := by decide +kernel
theorem kd_W_law_1197 : decode kc_W_law 1197 = .ok (.iload 4, 2) := by decide +kernel
theorem kd_W_law_1199 : decode kc_W_law 1199 = .ok (.iconst 1, 1) := by decide +kernel
theorem kd_W_law_1200 : decode kc_W_law 1200 = .ok (.iadd, 1) := by decide +kernel
theorem kd_W_law_1201 : decode kc_W_law 1201 = .ok (.iaload, 1) := by decide +kernel
theorem kd_W_law_1202 : decode kc_W_law 1202 = .ok (.aload_n 0, 1) := by decide +kernel
theorem kd_W_law_1203 : decode kc_W_law 1203 = .ok (.iload 4, 2) := by decide +kernel
theorem kd_W_law_1205 : decode kc_W_law 1205 = .ok (.iconst 2, 1) := by decide +kernel
theorem kd_W_law_1206 : decode kc_W_law 1206 = .ok (.iadd, 1) := by decide +kernel
theorem kd_W_law_1207 : decode kc_W_law 1207 = .ok (.iaload, 1) := by decide +kernel
theorem kd_W_law_1208 : decode kc_W_law 1208 = .ok (.invokevirtual 178, 3) := by decide +kernel
theorem kd_W_law_1211 : decode kc_W_law 1211 = .ok (.lstore 6, 2) := by decide +kernel
theorem kd_W_law_1213 : decode kc_W_law 1213 = .ok (.goto 215, 3) := by decide +kernel
theorem kd_W_law_1216 : decode kc_W_law 1216 = .ok (.aload_n 1, 1) := by decide +kernel
theorem kd_W_law_1217 : decode kc_W_law 1217 = .ok (.aload_n 0, 1) := by decide +kernel
theorem kd_W_law_1218 : decode kc_W_law 1218 = .ok (.iload 4, 2) := by decide +kernel
theorem kd_W_law_1220 : decode kc_W_law 1220 = .ok (.iconst 1, 1) := by decide +kernel
theorem kd_W_law_1221 : decode kc_W_law 1221 = .ok (.iadd, 1) := by decide +kernel
theorem kd_W_law_1222 : decode kc_W_law 1222 = .ok (.iaload, 1) := by decide +kernel
theorem kd_W_law_1223 : decode kc_W_law 1223 = .ok (.aload_n 0, 1) := by decide +kernel
theorem kd_W_law_1224 : decode kc_W_law 1224 = .ok (.iload 4, 2) := by decide +kernel
theorem kd_W_law_1226 : decode kc_W_law 1226 = .ok (.iconst 2, 1) := by decide +kernel
theorem kd_W_law_1227 : decode kc_W_law 1227 = .ok (.iadd, 1) := by decide +kernel
theorem kd_W_law_1228 : decode kc_W_law 1228 = .ok (.iaload, 1) := by decide +kernel
theorem kd_W_law_1229 : decode kc_W_law 1229 = .ok (.aload_n 3, 1) := by decide +kernel
theorem kd_W_law_1230 : decode kc_W_law 1230 = .ok (.invokestatic 179, 3) := by decide +kernel
theorem kd_W_law_1233 : decode kc_W_law 1233 = .ok (.istore 5, 2) := by decide +kernel
theorem kd_W_law_1235 : decode kc_W_law 1235 = .ok (.aload_n 2, 1) := by decide +kernel
theorem kd_W_law_1236 : decode kc_W_law 1236 = .ok (.aload_n 0, 1) := by decide +kernel
theorem kd_W_law_1237 : decode kc_W_law 1237 = .ok (.iload 4, 2) := by decide +kernel
theorem kd_W_law_1239 : decode kc_W_law 1239 = .ok (.iconst 1, 1) := by decide +kernel
theorem kd_W_law_1240 : decode kc_W_law 1240 = .ok (.iadd, 1) := by decide +kernel
theorem kd_W_law_1241 : decode kc_W_law 1241 = .ok (.iaload, 1) := by decide +kernel
theorem kd_W_law_1242 : decode kc_W_law 1242 = .ok (.aload_n 0, 1) := by decide +kernel
theorem kd_W_law_1243 : decode kc_W_law 1243 = .ok (.iload 4, 2) := by decide +kernel
theorem kd_W_law_1245 : decode kc_W_law 1245 = .ok (.iconst 2, 1) := by decide +kernel
theorem kd_W_law_1246 : decode kc_W_law 1246 = .ok (.iadd, 1) := by decide +kernel
theorem kd_W_law_1247 : decode kc_W_law 1247 = .ok (.iaload, 1) := by decide +kernel
theorem kd_W_law_1248 : decode kc_W_law 1248 = .ok (.invokevirtual 181, 3) := by decide +kernel
theorem kd_W_law_1251 : decode kc_W_law 1251 = .ok (.lstore 6, 2) := by decide +kernel
theorem kd_W_law_1253 : decode kc_W_law 1253 = .ok (.goto 175, 3) := by decide +kernel
theorem kd_W_law_1256 : decode kc_W_law 1256 = .ok (.aload_n 1, 1) := by decide +kernel
theorem kd_W_law_1257 : decode kc_W_law 1257 = .ok (.aload_n 0, 1) := by decide +kernel
theorem kd_W_law_1258 : decode kc_W_law 1258 = .ok (.iload 4, 2) := by decide +kernel
theorem kd_W_law_1260 : decode kc_W_law 1260 = .ok (.iconst 1, 1) := by decide +kernel
theorem kd_W_law_1261 : decode kc_W_law 1261 = .ok (.iadd, 1) := by decide +kernel
theorem kd_W_law_1262 : decode kc_W_law 1262 = .ok (.iaload, 1) := by decide +kernel
theorem kd_W_law_1263 : decode kc_W_law 1263 = .ok (.aload_n 0, 1) := by decide +kernel
theorem kd_W_law_1264 : decode kc_W_law 1264 = .ok (.iload 4, 2) := by decide +kernel
theorem kd_W_law_1266 : decode kc_W_law 1266 = .ok (.iconst 2, 1) := by decide +kernel
theorem kd_W_law_1267 : decode kc_W_law 1267 = .ok (.iadd, 1) := by decide +kernel
theorem kd_W_law_1268 : decode kc_W_law 1268 = .ok (.iaload, 1) := by decide +kernel
theorem kd_W_law_1269 : decode kc_W_law 1269 = .ok (.aload_n 0, 1) := by decide +kernel
theorem kd_W_law_1270 : decode kc_W_law 1270 = .ok (.iload 4, 2) := by decide +kernel
theorem kd_W_law_1272 : decode kc_W_law 1272 = .ok (.iconst 3, 1) := by decide +kernel
theorem kd_W_law_1273 : decode kc_W_law 1273 = .ok (.iadd, 1) := by decide +kernel
theorem kd_W_law_1274 : decode kc_W_law 1274 = .ok (.iaload, 1) := by decide +kernel
theorem kd_W_law_1275 : decode kc_W_law 1275 = .ok (.aload_n 0, 1) := by decide +kernel
theorem kd_W_law_1276 : decode kc_W_law 1276 = .ok (.iload 4, 2) := by decide +kernel
theorem kd_W_law_1278 : decode kc_W_law 1278 = .ok (.iconst 4, 1) := by decide +kernel
theorem kd_W_law_1279 : decode kc_W_law 1279 = .ok (.iadd, 1) := by decide +kernel
theorem kd_W_law_1280 : decode kc_W_law 1280 = .ok (.iaload, 1) := by decide +kernel
theorem kd_W_law_1281 : decode kc_W_law 1281 = .ok (.aload_n 3, 1) := by decide +kernel
theorem kd_W_law_1282 : decode kc_W_law 1282 = .ok (.invokestatic 182, 3) := by decide +kernel
theorem kd_W_law_1285 : decode kc_W_law 1285 = .ok (.istore 5, 2) := by decide +kernel
theorem kd_W_law_1287 : decode kc_W_law 1287 = .ok (.aload_n 2, 1) := by decide +kernel
theorem kd_W_law_1288 : decode kc_W_law 1288 = .ok (.aload_n 0, 1) := by decide +kernel
theorem kd_W_law_1289 : decode kc_W_law 1289 = .ok (.iload 4, 2) := by decide +kernel
theorem kd_W_law_1291 : decode kc_W_law 1291 = .ok (.iconst 1, 1) := by decide +kernel
theorem kd_W_law_1292 : decode kc_W_law 1292 = .ok (.iadd, 1) := by decide +kernel
theorem kd_W_law_1293 : decode kc_W_law 1293 = .ok (.iaload, 1) := by decide +kernel
theorem kd_W_law_1294 : decode kc_W_law 1294 = .ok (.aload_n 0, 1) := by decide +kernel
theorem kd_W_law_1295 : decode kc_W_law 1295 = .ok (.iload 4, 2) := by decide +kernel
theorem kd_W_law_1297 : decode kc_W_law 1297 = .ok (.iconst 2, 1) := by decide +kernel
theorem kd_W_law_1298 : decode kc_W_law 1298 = .ok (.iadd, 1) := by decide +kernel
theorem kd_W_law_1299 : decode kc_W_law 1299 = .ok (.iaload, 1) := by decide +kernel
theorem kd_W_law_1300 : decode kc_W_law 1300 = .ok (.aload_n 0, 1) := by decide +kernel
theorem kd_W_law_1301 : decode kc_W_law 1301 = .ok (.iload 4, 2) := by decide +kernel
theorem kd_W_law_1303 : decode kc_W_law 1303 = .ok (.iconst 3, 1) := by decide +kernel
theorem kd_W_law_1304 : decode kc_W_law 1304 = .ok (.iadd, 1) := by decide +kernel
theorem kd_W_law_1305 : decode kc_W_law 1305 = .ok (.iaload, 1) := by decide +kernel
theorem kd_W_law_1306 : decode kc_W_law 1306 = .ok (.aload_n 0, 1) := by decide +kernel
theorem kd_W_law_1307 : decode kc_W_law 1307 = .ok (.iload 4, 2) := by decide +kernel
theorem kd_W_law_1309 : decode kc_W_law 1309 = .ok (.iconst 4, 1) := by decide +kernel
theorem kd_W_law_1310 : decode kc_W_law 1310 = .ok (.iadd, 1) := by decide +kernel
theorem kd_W_law_1311 : decode kc_W_law 1311 = .ok (.iaload, 1) := by decide +kernel
theorem kd_W_law_1312 : decode kc_W_law 1312 = .ok (.invokevirtual 184, 3) := by decide +kernel
theorem kd_W_law_1315 : decode kc_W_law 1315 = .ok (.istore 6, 2) := by decide +kernel
theorem kd_W_law_1317 : decode kc_W_law 1317 = .ok (.goto 111, 3) := by decide +kernel
theorem kd_W_law_1320 : decode kc_W_law 1320 = .ok (.aload_n 1, 1) := by decide +kernel
theorem kd_W_law_1321 : decode kc_W_law 1321 = .ok (.aload_n 0, 1) := by decide +kernel
theorem kd_W_law_1322 : decode kc_W_law 1322 = .ok (.iload 4, 2) := by decide +kernel
theorem kd_W_law_1324 : decode kc_W_law 1324 = .ok (.iconst 1, 1) := by decide +kernel
theorem kd_W_law_1325 : decode kc_W_law 1325 = .ok (.iadd, 1) := by decide +kernel
theorem kd_W_law_1326 : decode kc_W_law 1326 = .ok (.iaload, 1) := by decide +kernel
theorem kd_W_law_1327 : decode kc_W_law 1327 = .ok (.aload_n 0, 1) := by decide +kernel
theorem kd_W_law_1328 : decode kc_W_law 1328 = .ok (.iload 4, 2) := by decide +kernel
theorem kd_W_law_1330 : decode kc_W_law 1330 = .ok (.iconst 2, 1) := by decide +kernel
theorem kd_W_law_1331 : decode kc_W_law 1331 = .ok (.iadd, 1) := by decide +kernel
theorem kd_W_law_1332 : decode kc_W_law 1332 = .ok (.iaload, 1) := by decide +kernel
theorem kd_W_law_1333 : decode kc_W_law 1333 = .ok (.aload_n 3, 1) := by decide +kernel
theorem kd_W_law_1334 : decode kc_W_law 1334 = .ok (.invokestatic 185, 3) := by decide +kernel
theorem kd_W_law_1337 : decode kc_W_law 1337 = .ok (.istore 5, 2) := by decide +kernel
theorem kd_W_law_1339 : decode kc_W_law 1339 = .ok (.aload_n 2, 1) := by decide +kernel
theorem kd_W_law_1340 : decode kc_W_law 1340 = .ok (.aload_n 0, 1) := by decide +kernel
theorem kd_W_law_1341 : decode kc_W_law 1341 = .ok (.iload 4, 2) := by decide +kernel
theorem kd_W_law_1343 : decode kc_W_law 1343 = .ok (.iconst 1, 1) := by decide +kernel
theorem kd_W_law_1344 : decode kc_W_law 1344 = .ok (.iadd, 1) := by decide +kernel
theorem kd_W_law_1345 : decode kc_W_law 1345 = .ok (.iaload, 1) := by decide +kernel
theorem kd_W_law_1346 : decode kc_W_law 1346 = .ok (.aload_n 0, 1) := by decide +kernel
theorem kd_W_law_1347 : decode kc_W_law 1347 = .ok (.iload 4, 2) := by decide +kernel
theorem kd_W_law_1349 : decode kc_W_law 1349 = .ok (.iconst 2, 1) := by decide +kernel
theorem kd_W_law_1350 : decode kc_W_law 1350 = .ok (.iadd, 1) := by decide +kernel
theorem kd_W_law_1351 : decode kc_W_law 1351 = .ok (.iaload, 1) := by decide +kernel
theorem kd_W_law_1352 : decode kc_W_law 1352 = .ok (.invokevirtual 187, 3) := by decide +kernel
theorem kd_W_law_1355 : decode kc_W_law 1355 = .ok (.lstore 6, 2) := by decide +kernel
theorem kd_W_law_1357 : decode kc_W_law 1357 = .ok (.goto 71, 3) := by decide +kernel
theorem kd_W_law_1360 : decode kc_W_law 1360 = .ok (.aload_n 1, 1) := by decide +kernel
theorem kd_W_law_1361 : decode kc_W_law 1361 = .ok (.aload_n 0, 1) := by decide +kernel
theorem kd_W_law_1362 : decode kc_W_law 1362 = .ok (.iload 4, 2) := by decide +kernel
theorem kd_W_law_1364 : decode kc_W_law 1364 = .ok (.iconst 1, 1) := by decide +kernel
theorem kd_W_law_1365 : decode kc_W_law 1365 = .ok (.iadd, 1) := by decide +kernel
theorem kd_W_law_1366 : decode kc_W_law 1366 = .ok (.iaload, 1) := by decide +kernel
theorem kd_W_law_1367 : decode kc_W_law 1367 = .ok (.aload_n 0, 1) := by decide +kernel
theorem kd_W_law_1368 : decode kc_W_law 1368 = .ok (.iload 4, 2) := by decide +kernel
theorem kd_W_law_1370 : decode kc_W_law 1370 = .ok (.iconst 2, 1) := by decide +kernel
theorem kd_W_law_1371 : decode kc_W_law 1371 = .ok (.iadd, 1) := by decide +kernel
theorem kd_W_law_1372 : decode kc_W_law 1372 = .ok (.iaload, 1) := by decide +kernel
theorem kd_W_law_1373 : decode kc_W_law 1373 = .ok (.aload_n 3, 1) := by decide +kernel
theorem kd_W_law_1374 : decode kc_W_law 1374 = .ok (.invokestatic 188, 3) := by decide +kernel
theorem kd_W_law_1377 : decode kc_W_law 1377 = .ok (.istore 5, 2) := by decide +kernel
theorem kd_W_law_1379 : decode kc_W_law 1379 = .ok (.aload_n 2, 1) := by decide +kernel
theorem kd_W_law_1380 : decode kc_W_law 1380 = .ok (.aload_n 0, 1) := by decide +kernel
theorem kd_W_law_1381 : decode kc_W_law 1381 = .ok (.iload 4, 2) := by decide +kernel
theorem kd_W_law_1383 : decode kc_W_law 1383 = .ok (.iconst 1, 1) := by decide +kernel
theorem kd_W_law_1384 : decode kc_W_law 1384 = .ok (.iadd, 1) := by decide +kernel
theorem kd_W_law_1385 : decode kc_W_law 1385 = .ok (.iaload, 1) := by decide +kernel
theorem kd_W_law_1386 : decode kc_W_law 1386 = .ok (.aload_n 0, 1) := by decide +kernel
theorem kd_W_law_1387 : decode kc_W_law 1387 = .ok (.iload 4, 2) := by decide +kernel
theorem kd_W_law_1389 : decode kc_W_law 1389 = .ok (.iconst 2, 1) := by decide +kernel
theorem kd_W_law_1390 : decode kc_W_law 1390 = .ok (.iadd, 1) := by decide +kernel
theorem kd_W_law_1391 : decode kc_W_law 1391 = .ok (.iaload, 1) := by decide +kernel
theorem kd_W_law_1392 : decode kc_W_law 1392 = .ok (.invokevirtual 190, 3) := by decide +kernel
theorem kd_W_law_1395 : decode kc_W_law 1395 = .ok (.lstore 6, 2) := by decide +kernel
theorem kd_W_law_1397 : decode kc_W_law 1397 = .ok (.goto 31, 3) := by decide +kernel
theorem kd_W_law_1400 : decode kc_W_law 1400 = .ok (.aload_n 1, 1) := by decide +kernel
theorem kd_W_law_1401 : decode kc_W_law 1401 = .ok (.aload_n 0, 1) := by decide +kernel
theorem kd_W_law_1402 : decode kc_W_law 1402 = .ok (.iload 4, 2) := by decide +kernel
theorem kd_W_law_1404 : decode kc_W_law 1404 = .ok (.iconst 1, 1) := by decide +kernel
theorem kd_W_law_1405 : decode kc_W_law 1405 = .ok (.iadd, 1) := by decide +kernel
theorem kd_W_law_1406 : decode kc_W_law 1406 = .ok (.iaload, 1) := by decide +kernel
theorem kd_W_law_1407 : decode kc_W_law 1407 = .ok (.aload_n 3, 1) := by decide +kernel
theorem kd_W_law_1408 : decode kc_W_law 1408 = .ok (.invokestatic 191, 3) := by decide +kernel
theorem kd_W_law_1411 : decode kc_W_law 1411 = .ok (.istore 5, 2) := by decide +kernel
theorem kd_W_law_1413 : decode kc_W_law 1413 = .ok (.aload_n 2, 1) := by decide +kernel
theorem kd_W_law_1414 : decode kc_W_law 1414 = .ok (.aload_n 0, 1) := by decide +kernel
theorem kd_W_law_1415 : decode kc_W_law 1415 = .ok (.iload 4, 2) := by decide +kernel
theorem kd_W_law_1417 : decode kc_W_law 1417 = .ok (.iconst 1, 1) := by decide +kernel
theorem kd_W_law_1418 : decode kc_W_law 1418 = .ok (.iadd, 1) := by decide +kernel
theorem kd_W_law_1419 : decode kc_W_law 1419 = .ok (.iaload, 1) := by decide +kernel
theorem kd_W_law_1420 : decode kc_W_law 1420 = .ok (.invokevirtual 193, 3) := by decide +kernel
theorem kd_W_law_1423 : decode kc_W_law 1423 = .ok (.lstore 6, 2) := by decide +kernel
theorem kd_W_law_1425 : decode kc_W_law 1425 = .ok (.goto 3, 3) := by decide +kernel
theorem kd_W_law_1428 : decode kc_W_law 1428 = .ok (.iinc 4 8, 3) := by decide +kernel
theorem kd_W_law_1431 : decode kc_W_law 1431 = .ok (.goto (-1408), 3) := by decide +kernel
theorem kd_W_law_1434 : decode kc_W_law 1434 = .ok (.iconst 1, 1) := by decide +kernel
theorem kd_W_law_1435 : decode kc_W_law 1435 = .ok (.ireturn, 1) := by decide +kernel
