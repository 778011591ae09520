theorem kd_W_law_1154 : decode kc_W_law 1154 = .ok (.iaload, 1) := by decide +kernel
theorem kd_W_law_1155 : decode kc_W_law 1155 = .ok (.aload_n 0, 1) := by decide +kernel
theorem kd_W_law_1156 : decode kc_W_law 1156 = .ok (.iload 4, 2) := by decide +kernel
theorem kd_W_law_1158 : decode kc_W_law 1158 = .ok (.iconst 4, 1) := by decide +kernel
theorem kd_W_law_1159 : decode kc_W_law 1159 = .ok (.iadd, 1) := by decide +kernel
theorem kd_W_law_1160 : decode kc_W_law 1160 = .ok (.iaload, 1) := by decide +kernel
theorem kd_W_law_1161 : decode kc_W_law 1161 = .ok (.invokevirtual 175, 3) := by decide +kernel
theorem kd_W_law_1164 : decode kc_W_law 1164 = .ok (.lstore 6, 2) := by decide +kernel
theorem kd_W_law_1166 : decode kc_W_law 1166 = .ok (.goto 255, 3) := by decide +kernel
theorem kd_W_law_1169 : decode kc_W_law 1169 = .ok (.aload_n 1, 1) := by decide +kernel
theorem kd_W_law_1170 : decode kc_W_law 1170 = .ok (.aload_n 0, 1) := by decide +kernel
theorem kd_W_law_1171 : decode kc_W_law 1171 = .ok (.iload 4, 2) := by decide +kernel
theorem kd_W_law_1173 : decode kc_W_law 1173 = .ok (.iconst 1, 1) := by decide +kernel
theorem kd_W_law_1174 : decode kc_W_law 1174 = .ok (.iadd, 1) := by decide +kernel
theorem kd_W_law_1175 : decode kc_W_law 1175 = .ok (.iaload, 1) := by decide +kernel
theorem kd_W_law_1176 : decode kc_W_law 1176 = .ok (.aload_n 0, 1) := by decide +kernel
theorem kd_W_law_1177 : decode kc_W_law 1177 = .ok (.iload 4, 2) := by decide +kernel
theorem kd_W_law_1179 : decode kc_W_law 1179 = .ok (.iconst 2, 1) := by decide +kernel
theorem kd_W_law_1180 : decode kc_W_law 1180 = .ok (.iadd, 1) := by decide +kernel
theorem kd_W_law_1181 : decode kc_W_law 1181 = .ok (.iaload, 1) := by decide +kernel
theorem kd_W_law_1182 : decode kc_W_law 1182 = .ok (.aload_n 3, 1) := by decide +kernel
theorem kd_W_law_1183 : decode kc_W_law 1183 = .ok (.invokestatic 176, 3) := by decide +kernel
theorem kd_W_law_1186 : decode kc_W_law 1186 = .ok (.istore 5, 2) := by decide +kernel
theorem kd_W_law_1188 : decode kc_W_law 1188 = .ok (.aload_n 2, 1) := by decide +kernel
theorem kd_W_law_1189 : decode kc_W_law 1189 = .ok (.aload_n 0, 1) := by decide +kernel
theorem kd_W_law_1190 : decode kc_W_law 1190 = .ok (.iload 4, 2) := by decide +kernel
theorem kd_W_law_1192 : decode kc_W_law 1192 = .ok (.iconst 1, 1) := by decide +kernel
theorem kd_W_law_1193 : decode kc_W_law 1193 = .ok (.iadd, 1) := by decide +kernel
theorem kd_W_law_1194 : decode kc_W_law 1194 = .ok (.iaload, 1) := by decide +kernel
theorem kd_W_law_1195 : decode kc_W_law 1195 = .ok (.aload_n 0, 1) := by decide +kernel
theorem kd_W_law_1196 : decode kc_W_law 1196 = .ok (.iload 4, 2) := by decide +kernel
theorem kd_W_law_1198 : decode kc_W_law 1198 = .ok (.iconst 2, 1) := by decide +kernel
theorem kd_W_law_1199 : decode kc_W_law 1199 = .ok (.iadd, 1) := by decide +kernel
theorem kd_W_law_1200 : decode kc_W_law 1200 = .ok (.iaload, 1) := by decide +kernel
theorem kd_W_law_1201 : decode kc_W_law 1201 = .ok (.invokevirtual 178, 3) := by decide +kernel
theorem kd_W_law_1204 : decode kc_W_law 1204 = .ok (.lstore 6, 2) := by decide +kernel
theorem kd_W_law_1206 : decode kc_W_law 1206 = .ok (.goto 215, 3) := by decide +kernel
theorem kd_W_law_1209 : decode kc_W_law 1209 = .ok (.aload_n 1, 1) := by decide +kernel
theorem kd_W_law_1210 : decode kc_W_law 1210 = .ok (.aload_n 0, 1) := by decide +kernel
theorem kd_W_law_1211 : decode kc_W_law 1211 = .ok (.iload 4, 2) := by decide +kernel
theorem kd_W_law_1213 : decode kc_W_law 1213 = .ok (.iconst 1, 1) := by decide +kernel
theorem kd_W_law_1214 : decode kc_W_law 1214 = .ok (.iadd, 1) := by decide +kernel
theorem kd_W_law_1215 : decode kc_W_law 1215 = .ok (.iaload, 1) := by decide +kernel
theorem kd_W_law_1216 : decode kc_W_law 1216 = .ok (.aload_n 0, 1) := by decide +kernel
theorem kd_W_law_1217 : decode kc_W_law 1217 = .ok (.iload 4, 2) := by decide +kernel
theorem kd_W_law_1219 : decode kc_W_law 1219 = .ok (.iconst 2, 1) := by decide +kernel
theorem kd_W_law_1220 : decode kc_W_law 1220 = .ok (.iadd, 1) := by decide +kernel
theorem kd_W_law_1221 : decode kc_W_law 1221 = .ok (.iaload, 1) := by decide +kernel
theorem kd_W_law_1222 : decode kc_W_law 1222 = .ok (.aload_n 3, 1) := by decide +kernel
theorem kd_W_law_1223 : decode kc_W_law 1223 = .ok (.invokestatic 179, 3) := by decide +kernel
theorem kd_W_law_1226 : decode kc_W_law 1226 = .ok (.istore 5, 2) := by decide +kernel
theorem kd_W_law_1228 : decode kc_W_law 1228 = .ok (.aload_n 2, 1) := by decide +kernel
theorem kd_W_law_1229 : decode kc_W_law 1229 = .ok (.aload_n 0, 1) := by decide +kernel
theorem kd_W_law_1230 : decode kc_W_law 1230 = .ok (.iload 4, 2) := by decide +kernel
theorem kd_W_law_1232 : decode kc_W_law 1232 = .ok (.iconst 1, 1) := by decide +kernel
theorem kd_W_law_1233 : decode kc_W_law 1233 = .ok (.iadd, 1) := by decide +kernel
theorem kd_W_law_1234 : decode kc_W_law 1234 = .ok (.iaload, 1) := by decide +kernel
theorem kd_W_law_1235 : decode kc_W_law 1235 = .ok (.aload_n 0, 1) := by decide +kernel
theorem kd_W_law_1236 : decode kc_W_law 1236 = .ok (.iload 4, 2) := by decide +kernel
theorem kd_W_law_1238 : decode kc_W_law 1238 = .ok (.iconst 2, 1) := by decide +kernel
theorem kd_W_law_1239 : decode kc_W_law 1239 = .ok (.iadd, 1) := by decide +kernel
theorem kd_W_law_1240 : decode kc_W_law 1240 = .ok (.iaload, 1) := by decide +kernel
theorem kd_W_law_1241 : decode kc_W_law 1241 = .ok (.invokevirtual 181, 3) := by decide +kernel
theorem kd_W_law_1244 : decode kc_W_law 1244 = .ok (.lstore 6, 2) := by decide +kernel
theorem kd_W_law_1246 : decode kc_W_law 1246 = .ok (.goto 175, 3) := by decide +kernel
theorem kd_W_law_1249 : decode kc_W_law 1249 = .ok (.aload_n 1, 1) := by decide +kernel
theorem kd_W_law_1250 : decode kc_W_law 1250 = .ok (.aload_n 0, 1) := by decide +kernel
theorem kd_W_law_1251 : decode kc_W_law 1251 = .ok (.iload 4, 2) := by decide +kernel
theorem kd_W_law_1253 : decode kc_W_law 1253 = .ok (.iconst 1, 1) := by decide +kernel
theorem kd_W_law_1254 : decode kc_W_law 1254 = .ok (.iadd, 1) := by decide +kernel
theorem kd_W_law_1255 : decode kc_W_law 1255 = .ok (.iaload, 1) := by decide +kernel
theorem kd_W_law_1256 : decode kc_W_law 1256 = .ok (.aload_n 0, 1) := by decide +kernel
theorem kd_W_law_1257 : decode kc_W_law 1257 = .ok (.iload 4, 2) := by decide +kernel
theorem kd_W_law_1259 : decode kc_W_law 1259 = .ok (.iconst 2, 1) := by decide +kernel
theorem kd_W_law_1260 : decode kc_W_law 1260 = .ok (.iadd, 1) := by decide +kernel
theorem kd_W_law_1261 : decode kc_W_law 1261 = .ok (.iaload, 1) := by decide +kernel
theorem kd_W_law_1262 : decode kc_W_law 1262 = .ok (.aload_n 0, 1) := by decide +kernel
theorem kd_W_law_1263 : decode kc_W_law 1263 = .ok (.iload 4, 2) := by decide +kernel
theorem kd_W_law_1265 : decode kc_W_law 1265 = .ok (.iconst 3, 1) := by decide +kernel
theorem kd_W_law_1266 : decode kc_W_law 1266 = .ok (.iadd, 1) := by decide +kernel
theorem kd_W_law_1267 : decode kc_W_law 1267 = .ok (.iaload, 1) := by decide +kernel
theorem kd_W_law_1268 : decode kc_W_law 1268 = .ok (.aload_n 0, 1) := by decide +kernel
theorem kd_W_law_1269 : decode kc_W_law 1269 = .ok (.iload 4, 2) := by decide +kernel
theorem kd_W_law_1271 : decode kc_W_law 1271 = .ok (.iconst 4, 1) := by decide +kernel
theorem kd_W_law_1272 : decode kc_W_law 1272 = .ok (.iadd, 1) := by decide +kernel
theorem kd_W_law_1273 : decode kc_W_law 1273 = .ok (.iaload, 1) := by decide +kernel
theorem kd_W_law_1274 : decode kc_W_law 1274 = .ok (.aload_n 3, 1) := by decide +kernel
theorem kd_W_law_1275 : decode kc_W_law 1275 = .ok (.invokestatic 182, 3) := by decide +kernel
theorem kd_W_law_1278 : decode kc_W_law 1278 = .ok (.istore 5, 2) := by decide +kernel
theorem kd_W_law_1280 : decode kc_W_law 1280 = .ok (.aload_n 2, 1) := by decide +kernel
theorem kd_W_law_1281 : decode kc_W_law 1281 = .ok (.aload_n 0, 1) := by decide +kernel
theorem kd_W_law_1282 : decode kc_W_law 1282 = .ok (.iload 4, 2) := by decide +kernel
theorem kd_W_law_1284 : decode kc_W_law 1284 = .ok (.iconst 1, 1) := by decide +kernel
theorem kd_W_law_1285 : decode kc_W_law 1285 = .ok (.iadd, 1) := by decide +kernel
theorem kd_W_law_1286 : decode kc_W_law 1286 = .ok (.iaload, 1) := by decide +kernel
theorem kd_W_law_1287 : decode kc_W_law 1287 = .ok (.aload_n 0, 1) := by decide +kernel
theorem kd_W_law_1288 : decode kc_W_law 1288 = .ok (.iload 4, 2) := by decide +kernel
theorem kd_W_law_1290 : decode kc_W_law 1290 = .ok (.iconst 2, 1) := by decide +kernel
theorem kd_W_law_1291 : decode kc_W_law 1291 = .ok (.iadd, 1) := by decide +kernel
theorem kd_W_law_1292 : decode kc_W_law 1292 = .ok (.iaload, 1) := by decide +kernel
theorem kd_W_law_1293 : decode kc_W_law 1293 = .ok (.aload_n 0, 1) := by decide +kernel
theorem kd_W_law_1294 : decode kc_W_law 1294 = .ok (.iload 4, 2) := by decide +kernel
theorem kd_W_law_1296 : decode kc_W_law 1296 = .ok (.iconst 3, 1) := by decide +kernel
theorem kd_W_law_1297 : decode kc_W_law 1297 = .ok (.iadd, 1) := by decide +kernel
theorem kd_W_law_1298 : decode kc_W_law 1298 = .ok (.iaload, 1) := by decide +kernel
theorem kd_W_law_1299 : decode kc_W_law 1299 = .ok (.aload_n 0, 1) := by decide +kernel
theorem kd_W_law_1300 : decode kc_W_law 1300 = .ok (.iload 4, 2) := by decide +kernel
theorem kd_W_law_1302 : decode kc_W_law 1302 = .ok (.iconst 4, 1) := by decide +kernel
theorem kd_W_law_1303 : decode kc_W_law 1303 = .ok (.iadd, 1) := by decide +kernel
theorem kd_W_law_1304 : decode kc_W_law 1304 = .ok (.iaload, 1) := by decide +kernel
theorem kd_W_law_1305 : decode kc_W_law 1305 = .ok (.invokevirtual 184, 3) := by decide +kernel
theorem kd_W_law_1308 : decode kc_W_law 1308 = .ok (.istore 6, 2) := by decide +kernel
theorem kd_W_law_1310 : decode kc_W_law 1310 = .ok (.goto 111, 3) := by decide +kernel
theorem kd_W_law_1313 : decode kc_W_law 1313 = .ok (.aload_n 1, 1) := by decide +kernel
theorem kd_W_law_1314 : decode kc_W_law 1314 = .ok (.aload_n 0, 1) := by decide +kernel
theorem kd_W_law_1315 : decode kc_W_law 1315 = .ok (.iload 4, 2) := by decide +kernel
theorem kd_W_law_1317 : decode kc_W_law 1317 = .ok (.iconst 1, 1) := by decide +kernel
theorem kd_W_law_1318 : decode kc_W_law 1318 = .ok (.iadd, 1) := by decide +kernel
theorem kd_W_law_1319 : decode kc_W_law 1319 = .ok (.iaload, 1) := by decide +kernel
theorem kd_W_law_1320 : decode kc_W_law 1320 = .ok (.aload_n 0, 1) := by decide +kernel
theorem kd_W_law_1321 : decode kc_W_law 1321 = .ok (.iload 4, 2) := by decide +kernel
theorem kd_W_law_1323 : decode kc_W_law 1323 = .ok (.iconst 2, 1) := by decide +kernel
theorem kd_W_law_1324 : decode kc_W_law 1324 = .ok (.iadd, 1) := by decide +kernel
theorem kd_W_law_1325 : decode kc_W_law 1325 = .ok (.iaload, 1) := by decide +kernel
theorem kd_W_law_1326 : decode kc_W_law 1326 = .ok (.aload_n 3, 1) := by decide +kernel
theorem kd_W_law_1327 : decode kc_W_law 1327 = .ok (.invokestatic 185, 3) := by decide +kernel
theorem kd_W_law_1330 : decode kc_W_law 1330 = .ok (.istore 5, 2) := by decide +kernel
theorem kd_W_law_1332 : decode kc_W_law 1332 = .ok (.aload_n 2, 1) := by decide +kernel
theorem kd_W_law_1333 : decode kc_W_law 1333 = .ok (.aload_n 0, 1) := by decide +kernel
theorem kd_W_law_1334 : decode kc_W_law 1334 = .ok (.iload 4, 2) := by decide +kernel
theorem kd_W_law_1336 : decode kc_W_law 1336 = .ok (.iconst 1, 1) := by decide +kernel
theorem kd_W_law_1337 : decode kc_W_law 1337 = .ok (.iadd, 1) := by decide +kernel
theorem kd_W_law_1338 : decode kc_W_law 1338 = .ok (.iaload, 1) := by decide +kernel
theorem kd_W_law_1339 : decode kc_W_law 1339 = .ok (.aload_n 0, 1) := by decide +kernel
theorem kd_W_law_1340 : decode kc_W_law 1340 = .ok (.iload 4, 2) := by decide +kernel
theorem kd_W_law_1342 : decode kc_W_law 1342 = .ok (.iconst 2, 1) := by decide +kernel
theorem kd_W_law_1343 : decode kc_W_law 1343 = .ok (.iadd, 1) := by decide +kernel
theorem kd_W_law_1344 : decode kc_W_law 1344 = .ok (.iaload, 1) := by decide +kernel
theorem kd_W_law_1345 : decode kc_W_law 1345 = .ok (.invokevirtual 187, 3) := by decide +kernel
theorem kd_W_law_1348 : decode kc_W_law 1348 = .ok (.lstore 6, 2) := by decide +kernel
theorem kd_W_law_1350 : decode kc_W_law 1350 = .ok (.goto 71, 3) := by decide +kernel
theorem kd_W_law_1353 : decode kc_W_law 1353 = .ok (.aload_n 1, 1) := by decide +kernel
theorem kd_W_law_1354 : decode kc_W_law 1354 = .ok (.aload_n 0, 1) := by decide +kernel
theorem kd_W_law_1355 : decode kc_W_law 1355 = .ok (.iload 4, 2) := by decide +kernel
theorem kd_W_law_1357 : decode kc_W_law 1357 = .ok (.iconst 1, 1) := by decide +kernel
theorem kd_W_law_1358 : decode kc_W_law 1358 = .ok (.iadd, 1) := by decide +kernel
theorem kd_W_law_1359 : decode kc_W_law 1359 = .ok (.iaload, 1) := by decide +kernel
theorem kd_W_law_1360 : decode kc_W_law 1360 = .ok (.aload_n 0, 1) := by decide +kernel
theorem kd_W_law_1361 : decode kc_W_law 1361 = .ok (.iload 4, 2) := by decide +kernel
theorem kd_W_law_1363 : decode kc_W_law 1363 = .ok (.iconst 2, 1) := by decide +kernel
theorem kd_W_law_1364 : decode kc_W_law 1364 = .ok (.iadd, 1) := by decide +kernel
theorem kd_W_law_1365 : decode kc_W_law 1365 = .ok (.iaload, 1) := by decide +kernel
theorem kd_W_law_1366 : decode kc_W_law 1366 = .ok (.aload_n 3, 1) := by decide +kernel
theorem kd_W_law_1367 : decode kc_W_law 1367 = .ok (.invokestatic 188, 3) := by decide +kernel
theorem kd_W_law_1370 : decode kc_W_law 1370 = .ok (.istore 5, 2) := by decide +kernel
theorem kd_W_law_1372 : decode kc_W_law 1372 = .ok (.aload_n 2, 1) := by decide +kernel
theorem kd_W_law_1373 : decode kc_W_law 1373 = .ok (.aload_n 0, 1) := by decide +kernel
theorem kd_W_law_1374 : decode kc_W_law 1374 = .ok (.iload 4, 2) := by decide +kernel
theorem kd_W_law_1376 : decode kc_W_law 1376 = .ok (.iconst 1, 1) := by decide +kernel
theorem kd_W_law_1377 : decode kc_W_law 1377 = .ok (.iadd, 1) := by decide +kernel
theorem kd_W_law_1378 : decode kc_W_law 1378 = .ok (.iaload, 1) := by decide +kernel
theorem kd_W_law_1379 : decode kc_W_law 1379 = .ok (.aload_n 0, 1) := by decide +kernel
theorem kd_W_law_1380 : decode kc_W_law 1380 = .ok (.iload 4, 2) := by decide +kernel
theorem kd_W_law_1382 : decode kc_W_law 1382 = .ok (.iconst 2, 1) := by decide +kernel
theorem kd_W_law_1383 : decode kc_W_law 1383 = .ok (.iadd, 1) := by decide +kernel
theorem kd_W_law_1384 : decode kc_W_law 1384 = .ok (.iaload, 1) := by decide +kernel
theorem kd_W_law_1385 : decode kc_W_law 1385 = .ok (.invokevirtual 190, 3) := by decide +kernel
theorem kd_W_law_1388 : decode kc_W_law 1388 = .ok (.lstore 6, 2) := by decide +kernel
theorem kd_W_law_1390 : decode kc_W_law 1390 = .ok (.goto 31, 3) := by decide +kernel
theorem kd_W_law_1393 : decode kc_W_law 1393 = .ok (.aload_n 1, 1) := by decide +kernel
theorem kd_W_law_1394 : decode kc_W_law 1394 = .ok (.aload_n 0, 1) := by decide +kernel
theorem kd_W_law_1395 : decode kc_W_law 1395 = .ok (.iload 4, 2) := by decide +kernel
theorem kd_W_law_1397 : decode kc_W_law 1397 = .ok (.iconst 1, 1) := by decide +kernel
theorem kd_W_law_1398 : decode kc_W_law 1398 = .ok (.iadd, 1) := by decide +kernel
theorem kd_W_law_1399 : decode kc_W_law 1399 = .ok (.iaload, 1) := by decide +kernel
theorem kd_W_law_1400 : decode kc_W_law 1400 = .ok (.aload_n 3, 1) := by decide +kernel
theorem kd_W_law_1401 : decode kc_W_law 1401 = .ok (.invokestatic 191, 3) := by decide +kernel
theorem kd_W_law_1404 : decode kc_W_law 1404 = .ok (.istore 5, 2) := by decide +kernel
theorem kd_W_law_1406 : decode kc_W_law 1406 = .ok (.aload_n 2, 1) := by decide +kernel
theorem kd_W_law_1407 : decode kc_W_law 1407 = .ok (.aload_n 0, 1) := by decide +kernel
theorem kd_W_law_1408 : decode kc_W_law 1408 = .ok (.iload 4, 2) := by decide +kernel
theorem kd_W_law_1410 : decode kc_W_law 1410 = .ok (.iconst 1, 1) := by decide +kernel
theorem kd_W_law_1411 : decode kc_W_law 1411 = .ok (.iadd, 1) := by decide +kernel
theorem kd_W_law_1412 : decode kc_W_law 1412 = .ok (.iaload, 1) := by decide +kernel
theorem kd_W_law_1413 : decode kc_W_law 1413 = .ok (.invokevirtual 193, 3) := by decide +kernel
theorem kd_W_law_1416 : decode kc_W_law 1416 = .ok (.lstore 6, 2) := by decide +kernel
theorem kd_W_law_1418 : decode kc_W_law 1418 = .ok (.goto 3, 3) := by decide +kernel
theorem kd_W_law_1421 : decode kc_W_law 1421 = .ok (.iinc 4 8, 3) := by decide +kernel
theorem kd_W_law_1424 : decode kc_W_law 1424 = .ok (.goto (-1401), 3) := by decide +kernel
theorem kd_W_law_1427 : decode kc_W_law 1427 = .ok (.iconst 1, 1) := by decide +kernel
theorem kd_W_law_1428 : decode kc_W_law 1428 = .ok (.ireturn, 1) := by decide +kernel
