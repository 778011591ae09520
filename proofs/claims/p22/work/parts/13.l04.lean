theorem kd_W_law_1151 : decode kc_W_law 1151 = .ok (.iconst 2, 1) := by decide +kernel
theorem kd_W_law_1152 : decode kc_W_law 1152 = .ok (.iadd, 1) := by decide +kernel
theorem kd_W_law_1153 : decode kc_W_law 1153 = .ok (.iaload, 1) := by decide +kernel
theorem kd_W_law_1154 : decode kc_W_law 1154 = .ok (.aload_n 3, 1) := by decide +kernel
theorem kd_W_law_1155 : decode kc_W_law 1155 = .ok (.invokestatic 172, 3) := by decide +kernel
theorem kd_W_law_1158 : decode kc_W_law 1158 = .ok (.istore 5, 2) := by decide +kernel
theorem kd_W_law_1160 : decode kc_W_law 1160 = .ok (.aload_n 2, 1) := by decide +kernel
theorem kd_W_law_1161 : decode kc_W_law 1161 = .ok (.aload_n 0, 1) := by decide +kernel
theorem kd_W_law_1162 : decode kc_W_law 1162 = .ok (.iload 4, 2) := by decide +kernel
theorem kd_W_law_1164 : decode kc_W_law 1164 = .ok (.iconst 1, 1) := by decide +kernel
theorem kd_W_law_1165 : decode kc_W_law 1165 = .ok (.iadd, 1) := by decide +kernel
theorem kd_W_law_1166 : decode kc_W_law 1166 = .ok (.iaload, 1) := by decide +kernel
theorem kd_W_law_1167 : decode kc_W_law 1167 = .ok (.aload_n 0, 1) := by decide +kernel
theorem kd_W_law_1168 : decode kc_W_law 1168 = .ok (.iload 4, 2) := by decide +kernel
theorem kd_W_law_1170 : decode kc_W_law 1170 = .ok (.iconst 2, 1) := by decide +kernel
theorem kd_W_law_1171 : decode kc_W_law 1171 = .ok (.iadd, 1) := by decide +kernel
theorem kd_W_law_1172 : decode kc_W_law 1172 = .ok (.iaload, 1) := by decide +kernel
theorem kd_W_law_1173 : decode kc_W_law 1173 = .ok (.invokevirtual 174, 3) := by decide +kernel
theorem kd_W_law_1176 : decode kc_W_law 1176 = .ok (.lstore 6, 2) := by decide +kernel
theorem kd_W_law_1178 : decode kc_W_law 1178 = .ok (.goto 243, 3) := by decide +kernel
theorem kd_W_law_1181 : decode kc_W_law 1181 = .ok (.aload_n 1, 1) := by decide +kernel
theorem kd_W_law_1182 : decode kc_W_law 1182 = .ok (.aload_n 0, 1) := by decide +kernel
theorem kd_W_law_1183 : decode kc_W_law 1183 = .ok (.iload 4, 2) := by decide +kernel
theorem kd_W_law_1185 : decode kc_W_law 1185 = .ok (.iconst 1, 1) := by decide +kernel
theorem kd_W_law_1186 : decode kc_W_law 1186 = .ok (.iadd, 1) := by decide +kernel
theorem kd_W_law_1187 : decode kc_W_law 1187 = .ok (.iaload, 1) := by decide +kernel
theorem kd_W_law_1188 : decode kc_W_law 1188 = .ok (.aload_n 0, 1) := by decide +kernel
theorem kd_W_law_1189 : decode kc_W_law 1189 = .ok (.iload 4, 2) := by decide +kernel
theorem kd_W_law_1191 : decode kc_W_law 1191 = .ok (.iconst 2, 1) := by decide +kernel
theorem kd_W_law_1192 : decode kc_W_law 1192 = .ok (.iadd, 1) := by decide +kernel
theorem kd_W_law_1193 : decode kc_W_law 1193 = .ok (.iaload, 1) := by decide +kernel
theorem kd_W_law_1194 : decode kc_W_law 1194 = .ok (.aload_n 3, 1) := by decide +kernel
theorem kd_W_law_1195 : decode kc_W_law 1195 = .ok (.invokestatic 175, 3) := by decide +kernel
theorem kd_W_law_1198 : decode kc_W_law 1198 = .ok (.istore 5, 2) := by decide +kernel
theorem kd_W_law_1200 : decode kc_W_law 1200 = .ok (.aload_n 2, 1) := by decide +kernel
theorem kd_W_law_1201 : decode kc_W_law 1201 = .ok (.aload_n 0, 1) := by decide +kernel
theorem kd_W_law_1202 : decode kc_W_law 1202 = .ok (.iload 4, 2) := by decide +kernel
theorem kd_W_law_1204 : decode kc_W_law 1204 = .ok (.iconst 1, 1) := by decide +kernel
theorem kd_W_law_1205 : decode kc_W_law 1205 = .ok (.iadd, 1) := by decide +kernel
theorem kd_W_law_1206 : decode kc_W_law 1206 = .ok (.iaload, 1) := by decide +kernel
theorem kd_W_law_1207 : decode kc_W_law 1207 = .ok (.aload_n 0, 1) := by decide +kernel
theorem kd_W_law_1208 : decode kc_W_law 1208 = .ok (.iload 4, 2) := by decide +kernel
theorem kd_W_law_1210 : decode kc_W_law 1210 = .ok (.iconst 2, 1) := by decide +kernel
theorem kd_W_law_1211 : decode kc_W_law 1211 = .ok (.iadd, 1) := by decide +kernel
theorem kd_W_law_1212 : decode kc_W_law 1212 = .ok (.iaload, 1) := by decide +kernel
theorem kd_W_law_1213 : decode kc_W_law 1213 = .ok (.invokevirtual 177, 3) := by decide +kernel
theorem kd_W_law_1216 : decode kc_W_law 1216 = .ok (.lstore 6, 2) := by decide +kernel
theorem kd_W_law_1218 : decode kc_W_law 1218 = .ok (.goto 203, 3) := by decide +kernel
theorem kd_W_law_1221 : decode kc_W_law 1221 = .ok (.aload_n 1, 1) := by decide +kernel
theorem kd_W_law_1222 : decode kc_W_law 1222 = .ok (.aload_n 0, 1) := by decide +kernel
theorem kd_W_law_1223 : decode kc_W_law 1223 = .ok (.iload 4, 2) := by decide +kernel
theorem kd_W_law_1225 : decode kc_W_law 1225 = .ok (.iconst 1, 1) := by decide +kernel
theorem kd_W_law_1226 : decode kc_W_law 1226 = .ok (.iadd, 1) := by decide +kernel
theorem kd_W_law_1227 : decode kc_W_law 1227 = .ok (.iaload, 1) := by decide +kernel
theorem kd_W_law_1228 : decode kc_W_law 1228 = .ok (.aload_n 0, 1) := by decide +kernel
theorem kd_W_law_1229 : decode kc_W_law 1229 = .ok (.iload 4, 2) := by decide +kernel
theorem kd_W_law_1231 : decode kc_W_law 1231 = .ok (.iconst 2, 1) := by decide +kernel
theorem kd_W_law_1232 : decode kc_W_law 1232 = .ok (.iadd, 1) := by decide +kernel
theorem kd_W_law_1233 : decode kc_W_law 1233 = .ok (.iaload, 1) := by decide +kernel
theorem kd_W_law_1234 : decode kc_W_law 1234 = .ok (.aload_n 0, 1) := by decide +kernel
theorem kd_W_law_1235 : decode kc_W_law 1235 = .ok (.iload 4, 2) := by decide +kernel
theorem kd_W_law_1237 : decode kc_W_law 1237 = .ok (.iconst 3, 1) := by decide +kernel
theorem kd_W_law_1238 : decode kc_W_law 1238 = .ok (.iadd, 1) := by decide +kernel
theorem kd_W_law_1239 : decode kc_W_law 1239 = .ok (.iaload, 1) := by decide +kernel
theorem kd_W_law_1240 : decode kc_W_law 1240 = .ok (.aload_n 0, 1) := by decide +kernel
theorem kd_W_law_1241 : decode kc_W_law 1241 = .ok (.iload 4, 2) := by decide +kernel
theorem kd_W_law_1243 : decode kc_W_law 1243 = .ok (.iconst 4, 1) := by decide +kernel
theorem kd_W_law_1244 : decode kc_W_law 1244 = .ok (.iadd, 1) := by decide +kernel
theorem kd_W_law_1245 : decode kc_W_law 1245 = .ok (.iaload, 1) := by decide +kernel
theorem kd_W_law_1246 : decode kc_W_law 1246 = .ok (.aload_n 3, 1) := by decide +kernel
theorem kd_W_law_1247 : decode kc_W_law 1247 = .ok (.invokestatic 178, 3) := by decide +kernel
theorem kd_W_law_1250 : decode kc_W_law 1250 = .ok (.istore 5, 2) := by decide +kernel
theorem kd_W_law_1252 : decode kc_W_law 1252 = .ok (.aload_n 2, 1) := by decide +kernel
theorem kd_W_law_1253 : decode kc_W_law 1253 = .ok (.aload_n 0, 1) := by decide +kernel
theorem kd_W_law_1254 : decode kc_W_law 1254 = .ok (.iload 4, 2) := by decide +kernel
theorem kd_W_law_1256 : decode kc_W_law 1256 = .ok (.iconst 1, 1) := by decide +kernel
theorem kd_W_law_1257 : decode kc_W_law 1257 = .ok (.iadd, 1) := by decide +kernel
theorem kd_W_law_1258 : decode kc_W_law 1258 = .ok (.iaload, 1) := by decide +kernel
theorem kd_W_law_1259 : decode kc_W_law 1259 = .ok (.aload_n 0, 1) := by decide +kernel
theorem kd_W_law_1260 : decode kc_W_law 1260 = .ok (.iload 4, 2) := by decide +kernel
theorem kd_W_law_1262 : decode kc_W_law 1262 = .ok (.iconst 2, 1) := by decide +kernel
theorem kd_W_law_1263 : decode kc_W_law 1263 = .ok (.iadd, 1) := by decide +kernel
theorem kd_W_law_1264 : decode kc_W_law 1264 = .ok (.iaload, 1) := by decide +kernel
theorem kd_W_law_1265 : decode kc_W_law 1265 = .ok (.aload_n 0, 1) := by decide +kernel
theorem kd_W_law_1266 : decode kc_W_law 1266 = .ok (.iload 4, 2) := by decide +kernel
theorem kd_W_law_1268 : decode kc_W_law 1268 = .ok (.iconst 3, 1) := by decide +kernel
theorem kd_W_law_1269 : decode kc_W_law 1269 = .ok (.iadd, 1) := by decide +kernel
theorem kd_W_law_1270 : decode kc_W_law 1270 = .ok (.iaload, 1) := by decide +kernel
theorem kd_W_law_1271 : decode kc_W_law 1271 = .ok (.aload_n 0, 1) := by decide +kernel
theorem kd_W_law_1272 : decode kc_W_law 1272 = .ok (.iload 4, 2) := by decide +kernel
theorem kd_W_law_1274 : decode kc_W_law 1274 = .ok (.iconst 4, 1) := by decide +kernel
theorem kd_W_law_1275 : decode kc_W_law 1275 = .ok (.iadd, 1) := by decide +kernel
theorem kd_W_law_1276 : decode kc_W_law 1276 = .ok (.iaload, 1) := by decide +kernel
theorem kd_W_law_1277 : decode kc_W_law 1277 = .ok (.invokevirtual 180, 3) := by decide +kernel
theorem kd_W_law_1280 : decode kc_W_law 1280 = .ok (.istore 6, 2) := by decide +kernel
theorem kd_W_law_1282 : decode kc_W_law 1282 = .ok (.aload_n 2, 1) := by decide +kernel
theorem kd_W_law_1283 : decode kc_W_law 1283 = .ok (.invokevirtual 181, 3) := by decide +kernel
theorem kd_W_law_1286 : decode kc_W_law 1286 = .ok (.iload 5, 2) := by decide +kernel
theorem kd_W_law_1288 : decode kc_W_law 1288 = .ok (.if_icmp .eq 5, 3) := by decide +kernel
theorem kd_W_law_1291 : decode kc_W_law 1291 = .ok (.iconst 0, 1) := by decide +kernel
theorem kd_W_law_1292 : decode kc_W_law 1292 = .ok (.ireturn, 1) := by decide +kernel
theorem kd_W_law_1293 : decode kc_W_law 1293 = .ok (.iload 5, 2) := by decide +kernel
theorem kd_W_law_1295 : decode kc_W_law 1295 = .ok (.ifCond .ne 15, 3) := by decide +kernel
theorem kd_W_law_1298 : decode kc_W_law 1298 = .ok (.aload_n 3, 1) := by decide +kernel
theorem kd_W_law_1299 : decode kc_W_law 1299 = .ok (.iconst 0, 1) := by decide +kernel
theorem kd_W_law_1300 : decode kc_W_law 1300 = .ok (.laload, 1) := by decide +kernel
theorem kd_W_law_1301 : decode kc_W_law 1301 = .ok (.iload 6, 2) := by decide +kernel
theorem kd_W_law_1303 : decode kc_W_law 1303 = .ok (.i2l, 1) := by decide +kernel
theorem kd_W_law_1304 : decode kc_W_law 1304 = .ok (.lcmp, 1) := by decide +kernel
theorem kd_W_law_1305 : decode kc_W_law 1305 = .ok (.ifCond .eq 5, 3) := by decide +kernel
theorem kd_W_law_1308 : decode kc_W_law 1308 = .ok (.iconst 0, 1) := by decide +kernel
theorem kd_W_law_1309 : decode kc_W_law 1309 = .ok (.ireturn, 1) := by decide +kernel
theorem kd_W_law_1310 : decode kc_W_law 1310 = .ok (.goto 111, 3) := by decide +kernel
theorem kd_W_law_1313 : decode kc_W_law 1313 = .ok (.aload_n 1, 1) := by decide +kernel
theorem kd_W_law_1314 : decode kc_W_law 1314 = .ok (.aload_n 0, 1) := by decide +kernel
theorem kd_W_law_1315 : decode kc_W_law 1315 = .ok (.iload 4, 2) := by decide +kernel
theorem kd_W_law_1317 : decode kc_W_law 1317 = .ok (.iconst 1, 1) := by decide +kernel
theorem kd_W_law_1318 : decode kc_W_law 1318 = .ok (.iadd, 1) := by decide +kernel
theorem kd_W_law_1319 : decode kc_W_law 1319 = .ok (.iaload, 1) := by decide +kernel
theorem kd_W_law_1320 : decode kc_W_law 1320 = .ok (.aload_n 0, 1) := by decide +kernel
theorem kd_W_law_1321 : decode kc_W_law 1321 = .ok (.iload 4, 2) := by decide +kernel
theorem kd_W_law_1323 : decode kc_W_law 1323 = .ok (.iconst 2, 1) := by decide +kernel
theorem kd_W_law_1324 : decode kc_W_law 1324 = .ok (.iadd, 1) := by decide +kernel
theorem kd_W_law_1325 : decode kc_W_law 1325 = .ok (.iaload, 1) := by decide +kernel
theorem kd_W_law_1326 : decode kc_W_law 1326 = .ok (.aload_n 3, 1) := by decide +kernel
theorem kd_W_law_1327 : decode kc_W_law 1327 = .ok (.invokestatic 185, 3) := by decide +kernel
theorem kd_W_law_1330 : decode kc_W_law 1330 = .ok (.istore 5, 2) := by decide +kernel
theorem kd_W_law_1332 : decode kc_W_law 1332 = .ok (.aload_n 2, 1) := by decide +kernel
theorem kd_W_law_1333 : decode kc_W_law 1333 = .ok (.aload_n 0, 1) := by decide +kernel
theorem kd_W_law_1334 : decode kc_W_law 1334 = .ok (.iload 4, 2) := by decide +kernel
theorem kd_W_law_1336 : decode kc_W_law 1336 = .ok (.iconst 1, 1) := by decide +kernel
theorem kd_W_law_1337 : decode kc_W_law 1337 = .ok (.iadd, 1) := by decide +kernel
theorem kd_W_law_1338 : decode kc_W_law 1338 = .ok (.iaload, 1) := by decide +kernel
theorem kd_W_law_1339 : decode kc_W_law 1339 = .ok (.aload_n 0, 1) := by decide +kernel
theorem kd_W_law_1340 : decode kc_W_law 1340 = .ok (.iload 4, 2) := by decide +kernel
theorem kd_W_law_1342 : decode kc_W_law 1342 = .ok (.iconst 2, 1) := by decide +kernel
theorem kd_W_law_1343 : decode kc_W_law 1343 = .ok (.iadd, 1) := by decide +kernel
theorem kd_W_law_1344 : decode kc_W_law 1344 = .ok (.iaload, 1) := by decide +kernel
theorem kd_W_law_1345 : decode kc_W_law 1345 = .ok (.invokevirtual 187, 3) := by decide +kernel
theorem kd_W_law_1348 : decode kc_W_law 1348 = .ok (.lstore 6, 2) := by decide +kernel
theorem kd_W_law_1350 : decode kc_W_law 1350 = .ok (.goto 71, 3) := by decide +kernel
theorem kd_W_law_1353 : decode kc_W_law 1353 = .ok (.aload_n 1, 1) := by decide +kernel
theorem kd_W_law_1354 : decode kc_W_law 1354 = .ok (.aload_n 0, 1) := by decide +kernel
theorem kd_W_law_1355 : decode kc_W_law 1355 = .ok (.iload 4, 2) := by decide +kernel
theorem kd_W_law_1357 : decode kc_W_law 1357 = .ok (.iconst 1, 1) := by decide +kernel
theorem kd_W_law_1358 : decode kc_W_law 1358 = .ok (.iadd, 1) := by decide +kernel
theorem kd_W_law_1359 : decode kc_W_law 1359 = .ok (.iaload, 1) := by decide +kernel
theorem kd_W_law_1360 : decode kc_W_law 1360 = .ok (.aload_n 0, 1) := by decide +kernel
theorem kd_W_law_1361 : decode kc_W_law 1361 = .ok (.iload 4, 2) := by decide +kernel
theorem kd_W_law_1363 : decode kc_W_law 1363 = .ok (.iconst 2, 1) := by decide +kernel
theorem kd_W_law_1364 : decode kc_W_law 1364 = .ok (.iadd, 1) := by decide +kernel
theorem kd_W_law_1365 : decode kc_W_law 1365 = .ok (.iaload, 1) := by decide +kernel
theorem kd_W_law_1366 : decode kc_W_law 1366 = .ok (.aload_n 3, 1) := by decide +kernel
theorem kd_W_law_1367 : decode kc_W_law 1367 = .ok (.invokestatic 188, 3) := by decide +kernel
theorem kd_W_law_1370 : decode kc_W_law 1370 = .ok (.istore 5, 2) := by decide +kernel
theorem kd_W_law_1372 : decode kc_W_law 1372 = .ok (.aload_n 2, 1) := by decide +kernel
theorem kd_W_law_1373 : decode kc_W_law 1373 = .ok (.aload_n 0, 1) := by decide +kernel
theorem kd_W_law_1374 : decode kc_W_law 1374 = .ok (.iload 4, 2) := by decide +kernel
theorem kd_W_law_1376 : decode kc_W_law 1376 = .ok (.iconst 1, 1) := by decide +kernel
theorem kd_W_law_1377 : decode kc_W_law 1377 = .ok (.iadd, 1) := by decide +kernel
theorem kd_W_law_1378 : decode kc_W_law 1378 = .ok (.iaload, 1) := by decide +kernel
theorem kd_W_law_1379 : decode kc_W_law 1379 = .ok (.aload_n 0, 1) := by decide +kernel
theorem kd_W_law_1380 : decode kc_W_law 1380 = .ok (.iload 4, 2) := by decide +kernel
theorem kd_W_law_1382 : decode kc_W_law 1382 = .ok (.iconst 2, 1) := by decide +kernel
theorem kd_W_law_1383 : decode kc_W_law 1383 = .ok (.iadd, 1) := by decide +kernel
theorem kd_W_law_1384 : decode kc_W_law 1384 = .ok (.iaload, 1) := by decide +kernel
theorem kd_W_law_1385 : decode kc_W_law 1385 = .ok (.invokevirtual 190, 3) := by decide +kernel
theorem kd_W_law_1388 : decode kc_W_law 1388 = .ok (.lstore 6, 2) := by decide +kernel
theorem kd_W_law_1390 : decode kc_W_law 1390 = .ok (.goto 31, 3) := by decide +kernel
theorem kd_W_law_1393 : decode kc_W_law 1393 = .ok (.aload_n 1, 1) := by decide +kernel
theorem kd_W_law_1394 : decode kc_W_law 1394 = .ok (.aload_n 0, 1) := by decide +kernel
theorem kd_W_law_1395 : decode kc_W_law 1395 = .ok (.iload 4, 2) := by decide +kernel
theorem kd_W_law_1397 : decode kc_W_law 1397 = .ok (.iconst 1, 1) := by decide +kernel
theorem kd_W_law_1398 : decode kc_W_law 1398 = .ok (.iadd, 1) := by decide +kernel
theorem kd_W_law_1399 : decode kc_W_law 1399 = .ok (.iaload, 1) := by decide +kernel
theorem kd_W_law_1400 : decode kc_W_law 1400 = .ok (.aload_n 3, 1) := by decide +kernel
theorem kd_W_law_1401 : decode kc_W_law 1401 = .ok (.invokestatic 191, 3) := by decide +kernel
theorem kd_W_law_1404 : decode kc_W_law 1404 = .ok (.istore 5, 2) := by decide +kernel
theorem kd_W_law_1406 : decode kc_W_law 1406 = .ok (.aload_n 2, 1) := by decide +kernel
theorem kd_W_law_1407 : decode kc_W_law 1407 = .ok (.aload_n 0, 1) := by decide +kernel
theorem kd_W_law_1408 : decode kc_W_law 1408 = .ok (.iload 4, 2) := by decide +kernel
theorem kd_W_law_1410 : decode kc_W_law 1410 = .ok (.iconst 1, 1) := by decide +kernel
theorem kd_W_law_1411 : decode kc_W_law 1411 = .ok (.iadd, 1) := by decide +kernel
theorem kd_W_law_1412 : decode kc_W_law 1412 = .ok (.iaload, 1) := by decide +kernel
theorem kd_W_law_1413 : decode kc_W_law 1413 = .ok (.invokevirtual 193, 3) := by decide +kernel
theorem kd_W_law_1416 : decode kc_W_law 1416 = .ok (.lstore 6, 2) := by decide +kernel
theorem kd_W_law_1418 : decode kc_W_law 1418 = .ok (.goto 3, 3) := by decide +kernel
theorem kd_W_law_1421 : decode kc_W_law 1421 = .ok (.iinc 4 8, 3) := by decide +kernel
theorem kd_W_law_1424 : decode kc_W_law 1424 = .ok (.goto (-1401), 3) := by decide +kernel
theorem kd_W_law_1427 : decode kc_W_law 1427 = .ok (.iconst 1, 1) := by decide +kernel
theorem kd_W_law_1428 : decode kc_W_law 1428 = .ok (.ireturn, 1) := by decide +kernel
