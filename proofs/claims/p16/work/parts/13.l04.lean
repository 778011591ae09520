theorem kd_W_law_1154 : decode kc_W_law 1154 = .ok (.iload 4, 2) := by decide +kernel
theorem kd_W_law_1156 : decode kc_W_law 1156 = .ok (.iconst 1, 1) := by decide +kernel
theorem kd_W_law_1157 : decode kc_W_law 1157 = .ok (.iadd, 1) := by decide +kernel
theorem kd_W_law_1158 : decode kc_W_law 1158 = .ok (.iaload, 1) := by decide +kernel
theorem kd_W_law_1159 : decode kc_W_law 1159 = .ok (.aload_n 0, 1) := by decide +kernel
theorem kd_W_law_1160 : decode kc_W_law 1160 = .ok (.iload 4, 2) := by decide +kernel
theorem kd_W_law_1162 : decode kc_W_law 1162 = .ok (.iconst 2, 1) := by decide +kernel
theorem kd_W_law_1163 : decode kc_W_law 1163 = .ok (.iadd, 1) := by decide +kernel
theorem kd_W_law_1164 : decode kc_W_law 1164 = .ok (.iaload, 1) := by decide +kernel
theorem kd_W_law_1165 : decode kc_W_law 1165 = .ok (.aload_n 3, 1) := by decide +kernel
theorem kd_W_law_1166 : decode kc_W_law 1166 = .ok (.invokestatic 176, 3) := by decide +kernel
theorem kd_W_law_1169 : decode kc_W_law 1169 = .ok (.istore 5, 2) := by decide +kernel
theorem kd_W_law_1171 : decode kc_W_law 1171 = .ok (.aload_n 2, 1) := by decide +kernel
theorem kd_W_law_1172 : decode kc_W_law 1172 = .ok (.aload_n 0, 1) := by decide +kernel
theorem kd_W_law_1173 : decode kc_W_law 1173 = .ok (.iload 4, 2) := by decide +kernel
theorem kd_W_law_1175 : decode kc_W_law 1175 = .ok (.iconst 1, 1) := by decide +kernel
theorem kd_W_law_1176 : decode kc_W_law 1176 = .ok (.iadd, 1) := by decide +kernel
theorem kd_W_law_1177 : decode kc_W_law 1177 = .ok (.iaload, 1) := by decide +kernel
theorem kd_W_law_1178 : decode kc_W_law 1178 = .ok (.aload_n 0, 1) := by decide +kernel
theorem kd_W_law_1179 : decode kc_W_law 1179 = .ok (.iload 4, 2) := by decide +kernel
theorem kd_W_law_1181 : decode kc_W_law 1181 = .ok (.iconst 2, 1) := by decide +kernel
theorem kd_W_law_1182 : decode kc_W_law 1182 = .ok (.iadd, 1) := by decide +kernel
theorem kd_W_law_1183 : decode kc_W_law 1183 = .ok (.iaload, 1) := by decide +kernel
theorem kd_W_law_1184 : decode kc_W_law 1184 = .ok (.invokevirtual 178, 3) := by decide +kernel
theorem kd_W_law_1187 : decode kc_W_law 1187 = .ok (.lstore 6, 2) := by decide +kernel
theorem kd_W_law_1189 : decode kc_W_law 1189 = .ok (.goto 215, 3) := by decide +kernel
theorem kd_W_law_1192 : decode kc_W_law 1192 = .ok (.aload_n 1, 1) := by decide +kernel
theorem kd_W_law_1193 : decode kc_W_law 1193 = .ok (.aload_n 0, 1) := by decide +kernel
theorem kd_W_law_1194 : decode kc_W_law 1194 = .ok (.iload 4, 2) := by decide +kernel
theorem kd_W_law_1196 : decode kc_W_law 1196 = .ok (.iconst 1, 1) := by decide +kernel
theorem kd_W_law_1197 : decode kc_W_law 1197 = .ok (.iadd, 1) := by decide +kernel
theorem kd_W_law_1198 : decode kc_W_law 1198 = .ok (.iaload, 1) := by decide +kernel
theorem kd_W_law_1199 : decode kc_W_law 1199 = .ok (.aload_n 0, 1) := by decide +kernel
theorem kd_W_law_1200 : decode kc_W_law 1200 = .ok (.iload 4, 2) := by decide +kernel
theorem kd_W_law_1202 : decode kc_W_law 1202 = .ok (.iconst 2, 1) := by decide +kernel
theorem kd_W_law_1203 : decode kc_W_law 1203 = .ok (.iadd, 1) := by decide +kernel
theorem kd_W_law_1204 : decode kc_W_law 1204 = .ok (.iaload, 1) := by decide +kernel
theorem kd_W_law_1205 : decode kc_W_law 1205 = .ok (.aload_n 3, 1) := by decide +kernel
theorem kd_W_law_1206 : decode kc_W_law 1206 = .ok (.invokestatic 179, 3) := by decide +kernel
theorem kd_W_law_1209 : decode kc_W_law 1209 = .ok (.istore 5, 2) := by decide +kernel
theorem kd_W_law_1211 : decode kc_W_law 1211 = .ok (.aload_n 2, 1) := by decide +kernel
theorem kd_W_law_1212 : decode kc_W_law 1212 = .ok (.aload_n 0, 1) := by decide +kernel
theorem kd_W_law_1213 : decode kc_W_law 1213 = .ok (.iload 4, 2) := by decide +kernel
theorem kd_W_law_1215 : decode kc_W_law 1215 = .ok (.iconst 1, 1) := by decide +kernel
theorem kd_W_law_1216 : decode kc_W_law 1216 = .ok (.iadd, 1) := by decide +kernel
theorem kd_W_law_1217 : decode kc_W_law 1217 = .ok (.iaload, 1) := by decide +kernel
theorem kd_W_law_1218 : decode kc_W_law 1218 = .ok (.aload_n 0, 1) := by decide +kernel
theorem kd_W_law_1219 : decode kc_W_law 1219 = .ok (.iload 4, 2) := by decide +kernel
theorem kd_W_law_1221 : decode kc_W_law 1221 = .ok (.iconst 2, 1) := by decide +kernel
theorem kd_W_law_1222 : decode kc_W_law 1222 = .ok (.iadd, 1) := by decide +kernel
theorem kd_W_law_1223 : decode kc_W_law 1223 = .ok (.iaload, 1) := by decide +kernel
theorem kd_W_law_1224 : decode kc_W_law 1224 = .ok (.invokevirtual 181, 3) := by decide +kernel
theorem kd_W_law_1227 : decode kc_W_law 1227 = .ok (.lstore 6, 2) := by decide +kernel
theorem kd_W_law_1229 : decode kc_W_law 1229 = .ok (.goto 175, 3) := by decide +kernel
theorem kd_W_law_1232 : decode kc_W_law 1232 = .ok (.aload_n 1, 1) := by decide +kernel
theorem kd_W_law_1233 : decode kc_W_law 1233 = .ok (.aload_n 0, 1) := by decide +kernel
theorem kd_W_law_1234 : decode kc_W_law 1234 = .ok (.iload 4, 2) := by decide +kernel
theorem kd_W_law_1236 : decode kc_W_law 1236 = .ok (.iconst 1, 1) := by decide +kernel
theorem kd_W_law_1237 : decode kc_W_law 1237 = .ok (.iadd, 1) := by decide +kernel
theorem kd_W_law_1238 : decode kc_W_law 1238 = .ok (.iaload, 1) := by decide +kernel
theorem kd_W_law_1239 : decode kc_W_law 1239 = .ok (.aload_n 0, 1) := by decide +kernel
theorem kd_W_law_1240 : decode kc_W_law 1240 = .ok (.iload 4, 2) := by decide +kernel
theorem kd_W_law_1242 : decode kc_W_law 1242 = .ok (.iconst 2, 1) := by decide +kernel
theorem kd_W_law_1243 : decode kc_W_law 1243 = .ok (.iadd, 1) := by decide +kernel
theorem kd_W_law_1244 : decode kc_W_law 1244 = .ok (.iaload, 1) := by decide +kernel
theorem kd_W_law_1245 : decode kc_W_law 1245 = .ok (.aload_n 0, 1) := by decide +kernel
theorem kd_W_law_1246 : decode kc_W_law 1246 = .ok (.iload 4, 2) := by decide +kernel
theorem kd_W_law_1248 : decode kc_W_law 1248 = .ok (.iconst 3, 1) := by decide +kernel
theorem kd_W_law_1249 : decode kc_W_law 1249 = .ok (.iadd, 1) := by decide +kernel
theorem kd_W_law_1250 : decode kc_W_law 1250 = .ok (.iaload, 1) := by decide +kernel
theorem kd_W_law_1251 : decode kc_W_law 1251 = .ok (.aload_n 0, 1) := by decide +kernel
theorem kd_W_law_1252 : decode kc_W_law 1252 = .ok (.iload 4, 2) := by decide +kernel
theorem kd_W_law_1254 : decode kc_W_law 1254 = .ok (.iconst 4, 1) := by decide +kernel
theorem kd_W_law_1255 : decode kc_W_law 1255 = .ok (.iadd, 1) := by decide +kernel
theorem kd_W_law_1256 : decode kc_W_law 1256 = .ok (.iaload, 1) := by decide +kernel
theorem kd_W_law_1257 : decode kc_W_law 1257 = .ok (.aload_n 3, 1) := by decide +kernel
theorem kd_W_law_1258 : decode kc_W_law 1258 = .ok (.invokestatic 182, 3) := by decide +kernel
theorem kd_W_law_1261 : decode kc_W_law 1261 = .ok (.istore 5, 2) := by decide +kernel
theorem kd_W_law_1263 : decode kc_W_law 1263 = .ok (.aload_n 2, 1) := by decide +kernel
theorem kd_W_law_1264 : decode kc_W_law 1264 = .ok (.aload_n 0, 1) := by decide +kernel
theorem kd_W_law_1265 : decode kc_W_law 1265 = .ok (.iload 4, 2) := by decide +kernel
theorem kd_W_law_1267 : decode kc_W_law 1267 = .ok (.iconst 1, 1) := by decide +kernel
theorem kd_W_law_1268 : decode kc_W_law 1268 = .ok (.iadd, 1) := by decide +kernel
theorem kd_W_law_1269 : decode kc_W_law 1269 = .ok (.iaload, 1) := by decide +kernel
theorem kd_W_law_1270 : decode kc_W_law 1270 = .ok (.aload_n 0, 1) := by decide +kernel
theorem kd_W_law_1271 : decode kc_W_law 1271 = .ok (.iload 4, 2) := by decide +kernel
theorem kd_W_law_1273 : decode kc_W_law 1273 = .ok (.iconst 2, 1) := by decide +kernel
theorem kd_W_law_1274 : decode kc_W_law 1274 = .ok (.iadd, 1) := by decide +kernel
theorem kd_W_law_1275 : decode kc_W_law 1275 = .ok (.iaload, 1) := by decide +kernel
theorem kd_W_law_1276 : decode kc_W_law 1276 = .ok (.aload_n 0, 1) := by decide +kernel
theorem kd_W_law_1277 : decode kc_W_law 1277 = .ok (.iload 4, 2) := by decide +kernel
theorem kd_W_law_1279 : decode kc_W_law 1279 = .ok (.iconst 3, 1) := by decide +kernel
theorem kd_W_law_1280 : decode kc_W_law 1280 = .ok (.iadd, 1) := by decide +kernel
theorem kd_W_law_1281 : decode kc_W_law 1281 = .ok (.iaload, 1) := by decide +kernel
theorem kd_W_law_1282 : decode kc_W_law 1282 = .ok (.aload_n 0, 1) := by decide +kernel
theorem kd_W_law_1283 : decode kc_W_law 1283 = .ok (.iload 4, 2) := by decide +kernel
theorem kd_W_law_1285 : decode kc_W_law 1285 = .ok (.iconst 4, 1) := by decide +kernel
theorem kd_W_law_1286 : decode kc_W_law 1286 = .ok (.iadd, 1) := by decide +kernel
theorem kd_W_law_1287 : decode kc_W_law 1287 = .ok (.iaload, 1) := by decide +kernel
theorem kd_W_law_1288 : decode kc_W_law 1288 = .ok (.invokevirtual 184, 3) := by decide +kernel
theorem kd_W_law_1291 : decode kc_W_law 1291 = .ok (.istore 6, 2) := by decide +kernel
theorem kd_W_law_1293 : decode kc_W_law 1293 = .ok (.goto 111, 3) := by decide +kernel
theorem kd_W_law_1296 : decode kc_W_law 1296 = .ok (.aload_n 1, 1) := by decide +kernel
theorem kd_W_law_1297 : decode kc_W_law 1297 = .ok (.aload_n 0, 1) := by decide +kernel
theorem kd_W_law_1298 : decode kc_W_law 1298 = .ok (.iload 4, 2) := by decide +kernel
theorem kd_W_law_1300 : decode kc_W_law 1300 = .ok (.iconst 1, 1) := by decide +kernel
theorem kd_W_law_1301 : decode kc_W_law 1301 = .ok (.iadd, 1) := by decide +kernel
theorem kd_W_law_1302 : decode kc_W_law 1302 = .ok (.iaload, 1) := by decide +kernel
theorem kd_W_law_1303 : decode kc_W_law 1303 = .ok (.aload_n 0, 1) := by decide +kernel
theorem kd_W_law_1304 : decode kc_W_law 1304 = .ok (.iload 4, 2) := by decide +kernel
theorem kd_W_law_1306 : decode kc_W_law 1306 = .ok (.iconst 2, 1) := by decide +kernel
theorem kd_W_law_1307 : decode kc_W_law 1307 = .ok (.iadd, 1) := by decide +kernel
theorem kd_W_law_1308 : decode kc_W_law 1308 = .ok (.iaload, 1) := by decide +kernel
theorem kd_W_law_1309 : decode kc_W_law 1309 = .ok (.aload_n 3, 1) := by decide +kernel
theorem kd_W_law_1310 : decode kc_W_law 1310 = .ok (.invokestatic 185, 3) := by decide +kernel
theorem kd_W_law_1313 : decode kc_W_law 1313 = .ok (.istore 5, 2) := by decide +kernel
theorem kd_W_law_1315 : decode kc_W_law 1315 = .ok (.aload_n 2, 1) := by decide +kernel
theorem kd_W_law_1316 : decode kc_W_law 1316 = .ok (.aload_n 0, 1) := by decide +kernel
theorem kd_W_law_1317 : decode kc_W_law 1317 = .ok (.iload 4, 2) := by decide +kernel
theorem kd_W_law_1319 : decode kc_W_law 1319 = .ok (.iconst 1, 1) := by decide +kernel
theorem kd_W_law_1320 : decode kc_W_law 1320 = .ok (.iadd, 1) := by decide +kernel
theorem kd_W_law_1321 : decode kc_W_law 1321 = .ok (.iaload, 1) := by decide +kernel
theorem kd_W_law_1322 : decode kc_W_law 1322 = .ok (.aload_n 0, 1) := by decide +kernel
theorem kd_W_law_1323 : decode kc_W_law 1323 = .ok (.iload 4, 2) := by decide +kernel
theorem kd_W_law_1325 : decode kc_W_law 1325 = .ok (.iconst 2, 1) := by decide +kernel
theorem kd_W_law_1326 : decode kc_W_law 1326 = .ok (.iadd, 1) := by decide +kernel
theorem kd_W_law_1327 : decode kc_W_law 1327 = .ok (.iaload, 1) := by decide +kernel
theorem kd_W_law_1328 : decode kc_W_law 1328 = .ok (.invokevirtual 187, 3) := by decide +kernel
theorem kd_W_law_1331 : decode kc_W_law 1331 = .ok (.lstore 6, 2) := by decide +kernel
theorem kd_W_law_1333 : decode kc_W_law 1333 = .ok (.goto 71, 3) := by decide +kernel
theorem kd_W_law_1336 : decode kc_W_law 1336 = .ok (.aload_n 1, 1) := by decide +kernel
theorem kd_W_law_1337 : decode kc_W_law 1337 = .ok (.aload_n 0, 1) := by decide +kernel
theorem kd_W_law_1338 : decode kc_W_law 1338 = .ok (.iload 4, 2) := by decide +kernel
theorem kd_W_law_1340 : decode kc_W_law 1340 = .ok (.iconst 1, 1) := by decide +kernel
theorem kd_W_law_1341 : decode kc_W_law 1341 = .ok (.iadd, 1) := by decide +kernel
theorem kd_W_law_1342 : decode kc_W_law 1342 = .ok (.iaload, 1) := by decide +kernel
theorem kd_W_law_1343 : decode kc_W_law 1343 = .ok (.aload_n 0, 1) := by decide +kernel
theorem kd_W_law_1344 : decode kc_W_law 1344 = .ok (.iload 4, 2) := by decide +kernel
theorem kd_W_law_1346 : decode kc_W_law 1346 = .ok (.iconst 2, 1) := by decide +kernel
theorem kd_W_law_1347 : decode kc_W_law 1347 = .ok (.iadd, 1) := by decide +kernel
theorem kd_W_law_1348 : decode kc_W_law 1348 = .ok (.iaload, 1) := by decide +kernel
theorem kd_W_law_1349 : decode kc_W_law 1349 = .ok (.aload_n 3, 1) := by decide +kernel
theorem kd_W_law_1350 : decode kc_W_law 1350 = .ok (.invokestatic 188, 3) := by decide +kernel
theorem kd_W_law_1353 : decode kc_W_law 1353 = .ok (.istore 5, 2) := by decide +kernel
theorem kd_W_law_1355 : decode kc_W_law 1355 = .ok (.aload_n 2, 1) := by decide +kernel
theorem kd_W_law_1356 : decode kc_W_law 1356 = .ok (.aload_n 0, 1) := by decide +kernel
theorem kd_W_law_1357 : decode kc_W_law 1357 = .ok (.iload 4, 2) := by decide +kernel
theorem kd_W_law_1359 : decode kc_W_law 1359 = .ok (.iconst 1, 1) := by decide +kernel
theorem kd_W_law_1360 : decode kc_W_law 1360 = .ok (.iadd, 1) := by decide +kernel
theorem kd_W_law_1361 : decode kc_W_law 1361 = .ok (.iaload, 1) := by decide +kernel
theorem kd_W_law_1362 : decode kc_W_law 1362 = .ok (.aload_n 0, 1) := by decide +kernel
theorem kd_W_law_1363 : decode kc_W_law 1363 = .ok (.iload 4, 2) := by decide +kernel
theorem kd_W_law_1365 : decode kc_W_law 1365 = .ok (.iconst 2, 1) := by decide +kernel
theorem kd_W_law_1366 : decode kc_W_law 1366 = .ok (.iadd, 1) := by decide +kernel
theorem kd_W_law_1367 : decode kc_W_law 1367 = .ok (.iaload, 1) := by decide +kernel
theorem kd_W_law_1368 : decode kc_W_law 1368 = .ok (.invokevirtual 190, 3) := by decide +kernel
theorem kd_W_law_1371 : decode kc_W_law 1371 = .ok (.lstore 6, 2) := by decide +kernel
theorem kd_W_law_1373 : decode kc_W_law 1373 = .ok (.goto 31, 3) := by decide +kernel
theorem kd_W_law_1376 : decode kc_W_law 1376 = .ok (.aload_n 1, 1) := by decide +kernel
theorem kd_W_law_1377 : decode kc_W_law 1377 = .ok (.aload_n 0, 1) := by decide +kernel
theorem kd_W_law_1378 : decode kc_W_law 1378 = .ok (.iload 4, 2) := by decide +kernel
theorem kd_W_law_1380 : decode kc_W_law 1380 = .ok (.iconst 1, 1) := by decide +kernel
theorem kd_W_law_1381 : decode kc_W_law 1381 = .ok (.iadd, 1) := by decide +kernel
theorem kd_W_law_1382 : decode kc_W_law 1382 = .ok (.iaload, 1) := by decide +kernel
theorem kd_W_law_1383 : decode kc_W_law 1383 = .ok (.aload_n 3, 1) := by decide +kernel
theorem kd_W_law_1384 : decode kc_W_law 1384 = .ok (.invokestatic 191, 3) := by decide +kernel
theorem kd_W_law_1387 : decode kc_W_law 1387 = .ok (.istore 5, 2) := by decide +kernel
theorem kd_W_law_1389 : decode kc_W_law 1389 = .ok (.aload_n 2, 1) := by decide +kernel
theorem kd_W_law_1390 : decode kc_W_law 1390 = .ok (.aload_n 0, 1) := by decide +kernel
theorem kd_W_law_1391 : decode kc_W_law 1391 = .ok (.iload 4, 2) := by decide +kernel
theorem kd_W_law_1393 : decode kc_W_law 1393 = .ok (.iconst 1, 1) := by decide +kernel
theorem kd_W_law_1394 : decode kc_W_law 1394 = .ok (.iadd, 1) := by decide +kernel
theorem kd_W_law_1395 : decode kc_W_law 1395 = .ok (.iaload, 1) := by decide +kernel
theorem kd_W_law_1396 : decode kc_W_law 1396 = .ok (.invokevirtual 193, 3) := by decide +kernel
theorem kd_W_law_1399 : decode kc_W_law 1399 = .ok (.lstore 6, 2) := by decide +kernel
theorem kd_W_law_1401 : decode kc_W_law 1401 = .ok (.goto 3, 3) := by decide +kernel
theorem kd_W_law_1404 : decode kc_W_law 1404 = .ok (.iinc 4 8, 3) := by decide +kernel
theorem kd_W_law_1407 : decode kc_W_law 1407 = .ok (.goto (-1384), 3) := by decide +kernel
theorem kd_W_law_1410 : decode kc_W_law 1410 = .ok (.iconst 1, 1) := by decide +kernel
theorem kd_W_law_1411 : decode kc_W_law 1411 = .ok (.ireturn, 1) := by decide +kernel
