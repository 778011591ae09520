theorem kd_W_law_1151 : decode kc_W_law 1151 = .ok (.iconst 2, 1) := by decide +kernel
theorem kd_W_law_1152 : decode kc_W_law 1152 = .ok (.iadd, 1) := by decide +kernel
theorem kd_W_law_1153 : decode kc_W_law 1153 = .ok (.iaload, 1) := by decide +kernel
theorem kd_W_law_1154 : decode kc_W_law 1154 = .ok (.aload_n 3, 1) := by decide +kernel
theorem kd_W_law_1155 : decode kc_W_law 1155 = .ok (.invokestatic 172, 3) := by decide +kernel
theorem kd_W_law_1158 : decode kc_W_law 1158 = .ok (.istore 5, 2) := by decide +kernel
theorem kd_W_law_1160 : decode kc_W_law 1160 = .ok (.aload_n 2, 1) := by decide +kernel
theorem kd_W_law_1161 : decode kc_W_law 1161 = .ok (.aload_n 0, 1) := by decide +kernel
theorem kd_W_law_1162 : decode kc_W_law 1162 = .ok (.iload 4, 2) := by decide +kernel
theorem kd_W_law_1164 : decode kc_W_law 1164 = .ok (.iconst 1, 1) := by decide +kernel
theorem kd_W_law_1165 : decode kc_W_law 1165 = .ok (.iadd, 1) := by decide +kernel
theorem kd_W_law_1166 : decode kc_W_law 1166 = .ok (.iaload, 1) := by decide +kernel
theorem kd_W_law_1167 : decode kc_W_law 1167 = .ok (.aload_n 0, 1) := by decide +kernel
theorem kd_W_law_1168 : decode kc_W_law 1168 = .ok (.iload 4, 2) := by decide +kernel
theorem kd_W_law_1170 : decode kc_W_law 1170 = .ok (.iconst 2, 1) := by decide +kernel
theorem kd_W_law_1171 : decode kc_W_law 1171 = .ok (.iadd, 1) := by decide +kernel
theorem kd_W_law_1172 : decode kc_W_law 1172 = .ok (.iaload, 1) := by decide +kernel
theorem kd_W_law_1173 : decode kc_W_law 1173 = .ok (.invokevirtual 174, 3) := by decide +kernel
theorem kd_W_law_1176 : decode kc_W_law 1176 = .ok (.lstore 6, 2) := by decide +kernel
theorem kd_W_law_1178 : decode kc_W_law 1178 = .ok (.goto 242, 3) := by decide +kernel
theorem kd_W_law_1181 : decode kc_W_law 1181 = .ok (.aload_n 1, 1) := by decide +kernel
theorem kd_W_law_1182 : decode kc_W_law 1182 = .ok (.aload_n 0, 1) := by decide +kernel
theorem kd_W_law_1183 : decode kc_W_law 1183 = .ok (.iload 4, 2) := by decide +kernel
theorem kd_W_law_1185 : decode kc_W_law 1185 = .ok (.iconst 1, 1) := by decide +kernel
theorem kd_W_law_1186 : decode kc_W_law 1186 = .ok (.iadd, 1) := by decide +kernel
theorem kd_W_law_1187 : decode kc_W_law 1187 = .ok (.iaload, 1) := by decide +kernel
theorem kd_W_law_1188 : decode kc_W_law 1188 = .ok (.aload_n 0, 1) := by decide +kernel
theorem kd_W_law_1189 : decode kc_W_law 1189 = .ok (.iload 4, 2) := by decide +kernel
theorem kd_W_law_1191 : decode kc_W_law 1191 = .ok (.iconst 2, 1) := by decide +kernel
theorem kd_W_law_1192 : decode kc_W_law 1192 = .ok (.iadd, 1) := by decide +kernel
theorem kd_W_law_1193 : decode kc_W_law 1193 = .ok (.iaload, 1) := by decide +kernel
theorem kd_W_law_1194 : decode kc_W_law 1194 = .ok (.aload_n 3, 1) := by decide +kernel
theorem kd_W_law_1195 : decode kc_W_law 1195 = .ok (.invokestatic 175, 3) := by decide +kernel
theorem kd_W_law_1198 : decode kc_W_law 1198 = .ok (.istore 5, 2) := by decide +kernel
theorem kd_W_law_1200 : decode kc_W_law 1200 = .ok (.aload_n 2, 1) := by decide +kernel
theorem kd_W_law_1201 : decode kc_W_law 1201 = .ok (.aload_n 0, 1) := by decide +kernel
theorem kd_W_law_1202 : decode kc_W_law 1202 = .ok (.iload 4, 2) := by decide +kernel
theorem kd_W_law_1204 : decode kc_W_law 1204 = .ok (.iconst 1, 1) := by decide +kernel
theorem kd_W_law_1205 : decode kc_W_law 1205 = .ok (.iadd, 1) := by decide +kernel
theorem kd_W_law_1206 : decode kc_W_law 1206 = .ok (.iaload, 1) := by decide +kernel
theorem kd_W_law_1207 : decode kc_W_law 1207 = .ok (.aload_n 0, 1) := by decide +kernel
theorem kd_W_law_1208 : decode kc_W_law 1208 = .ok (.iload 4, 2) := by decide +kernel
theorem kd_W_law_1210 : decode kc_W_law 1210 = .ok (.iconst 2, 1) := by decide +kernel
theorem kd_W_law_1211 : decode kc_W_law 1211 = .ok (.iadd, 1) := by decide +kernel
theorem kd_W_law_1212 : decode kc_W_law 1212 = .ok (.iaload, 1) := by decide +kernel
theorem kd_W_law_1213 : decode kc_W_law 1213 = .ok (.invokevirtual 177, 3) := by decide +kernel
theorem kd_W_law_1216 : decode kc_W_law 1216 = .ok (.lstore 6, 2) := by decide +kernel
theorem kd_W_law_1218 : decode kc_W_law 1218 = .ok (.goto 202, 3) := by decide +kernel
theorem kd_W_law_1221 : decode kc_W_law 1221 = .ok (.aload_n 1, 1) := by decide +kernel
theorem kd_W_law_1222 : decode kc_W_law 1222 = .ok (.aload_n 0, 1) := by decide +kernel
theorem kd_W_law_1223 : decode kc_W_law 1223 = .ok (.iload 4, 2) := by decide +kernel
theorem kd_W_law_1225 : decode kc_W_law 1225 = .ok (.iconst 1, 1) := by decide +kernel
theorem kd_W_law_1226 : decode kc_W_law 1226 = .ok (.iadd, 1) := by decide +kernel
theorem kd_W_law_1227 : decode kc_W_law 1227 = .ok (.iaload, 1) := by decide +kernel
theorem kd_W_law_1228 : decode kc_W_law 1228 = .ok (.aload_n 0, 1) := by decide +kernel
theorem kd_W_law_1229 : decode kc_W_law 1229 = .ok (.iload 4, 2) := by decide +kernel
theorem kd_W_law_1231 : decode kc_W_law 1231 = .ok (.iconst 2, 1) := by decide +kernel
theorem kd_W_law_1232 : decode kc_W_law 1232 = .ok (.iadd, 1) := by decide +kernel
theorem kd_W_law_1233 : decode kc_W_law 1233 = .ok (.iaload, 1) := by decide +kernel
theorem kd_W_law_1234 : decode kc_W_law 1234 = .ok (.aload_n 0, 1) := by decide +kernel
theorem kd_W_law_1235 : decode kc_W_law 1235 = .ok (.iload 4, 2) := by decide +kernel
theorem kd_W_law_1237 : decode kc_W_law 1237 = .ok (.iconst 3, 1) := by decide +kernel
theorem kd_W_law_1238 : decode kc_W_law 1238 = .ok (.iadd, 1) := by decide +kernel
theorem kd_W_law_1239 : decode kc_W_law 1239 = .ok (.iaload, 1) := by decide +kernel
theorem kd_W_law_1240 : decode kc_W_law 1240 = .ok (.aload_n 0, 1) := by decide +kernel
theorem kd_W_law_1241 : decode kc_W_law 1241 = .ok (.iload 4, 2) := by decide +kernel
theorem kd_W_law_1243 : decode kc_W_law 1243 = .ok (.iconst 4, 1) := by decide +kernel
theorem kd_W_law_1244 : decode kc_W_law 1244 = .ok (.iadd, 1) := by decide +kernel
theorem kd_W_law_1245 : decode kc_W_law 1245 = .ok (.iaload, 1) := by decide +kernel
theorem kd_W_law_1246 : decode kc_W_law 1246 = .ok (.aload_n 3, 1) := by decide +kernel
theorem kd_W_law_1247 : decode kc_W_law 1247 = .ok (.invokestatic 178, 3) := by decide +kernel
theorem kd_W_law_1250 : decode kc_W_law 1250 = .ok (.istore 5, 2) := by decide +kernel
theorem kd_W_law_1252 : decode kc_W_law 1252 = .ok (.aload_n 2, 1) := by decide +kernel
theorem kd_W_law_1253 : decode kc_W_law 1253 = .ok (.aload_n 0, 1) := by decide +kernel
theorem kd_W_law_1254 : decode kc_W_law 1254 = .ok (.iload 4, 2) := by decide +kernel
theorem kd_W_law_1256 : decode kc_W_law 1256 = .ok (.iconst 1, 1) := by decide +kernel
theorem kd_W_law_1257 : decode kc_W_law 1257 = .ok (.iadd, 1) := by decide +kernel
theorem kd_W_law_1258 : decode kc_W_law 1258 = .ok (.iaload, 1) := by decide +kernel
theorem kd_W_law_1259 : decode kc_W_law 1259 = .ok (.aload_n 0, 1) := by decide +kernel
theorem kd_W_law_1260 : decode kc_W_law 1260 = .ok (.iload 4, 2) := by decide +kernel
theorem kd_W_law_1262 : decode kc_W_law 1262 = .ok (.iconst 2, 1) := by decide +kernel
theorem kd_W_law_1263 : decode kc_W_law 1263 = .ok (.iadd, 1) := by decide +kernel
theorem kd_W_law_1264 : decode kc_W_law 1264 = .ok (.iaload, 1) := by decide +kernel
theorem kd_W_law_1265 : decode kc_W_law 1265 = .ok (.aload_n 0, 1) := by decide +kernel
theorem kd_W_law_1266 : decode kc_W_law 1266 = .ok (.iload 4, 2) := by decide +kernel
theorem kd_W_law_1268 : decode kc_W_law 1268 = .ok (.iconst 3, 1) := by decide +kernel
theorem kd_W_law_1269 : decode kc_W_law 1269 = .ok (.iadd, 1) := by decide +kernel
theorem kd_W_law_1270 : decode kc_W_law 1270 = .ok (.iaload, 1) := by decide +kernel
theorem kd_W_law_1271 : decode kc_W_law 1271 = .ok (.aload_n 0, 1) := by decide +kernel
theorem kd_W_law_1272 : decode kc_W_law 1272 = .ok (.iload 4, 2) := by decide +kernel
theorem kd_W_law_1274 : decode kc_W_law 1274 = .ok (.iconst 4, 1) := by decide +kernel
theorem kd_W_law_1275 : decode kc_W_law 1275 = .ok (.iadd, 1) := by decide +kernel
theorem kd_W_law_1276 : decode kc_W_law 1276 = .ok (.iaload, 1) := by decide +kernel
theorem kd_W_law_1277 : decode kc_W_law 1277 = .ok (.invokevirtual 180, 3) := by decide +kernel
theorem kd_W_law_1280 : decode kc_W_law 1280 = .ok (.istore 6, 2) := by decide +kernel
theorem kd_W_law_1282 : decode kc_W_law 1282 = .ok (.goto 138, 3) := by decide +kernel
theorem kd_W_law_1285 : decode kc_W_law 1285 = .ok (.aload_n 1, 1) := by decide +kernel
theorem kd_W_law_1286 : decode kc_W_law 1286 = .ok (.aload_n 0, 1) := by decide +kernel
theorem kd_W_law_1287 : decode kc_W_law 1287 = .ok (.iload 4, 2) := by decide +kernel
theorem kd_W_law_1289 : decode kc_W_law 1289 = .ok (.iconst 1, 1) := by decide +kernel
theorem kd_W_law_1290 : decode kc_W_law 1290 = .ok (.iadd, 1) := by decide +kernel
theorem kd_W_law_1291 : decode kc_W_law 1291 = .ok (.iaload, 1) := by decide +kernel
theorem kd_W_law_1292 : decode kc_W_law 1292 = .ok (.aload_n 0, 1) := by decide +kernel
theorem kd_W_law_1293 : decode kc_W_law 1293 = .ok (.iload 4, 2) := by decide +kernel
theorem kd_W_law_1295 : decode kc_W_law 1295 = .ok (.iconst 2, 1) := by decide +kernel
theorem kd_W_law_1296 : decode kc_W_law 1296 = .ok (.iadd, 1) := by decide +kernel
theorem kd_W_law_1297 : decode kc_W_law 1297 = .ok (.iaload, 1) := by decide +kernel
theorem kd_W_law_1298 : decode kc_W_law 1298 = .ok (.aload_n 3, 1) := by decide +kernel
theorem kd_W_law_1299 : decode kc_W_law 1299 = .ok (.invokestatic 181, 3) := by decide +kernel
theorem kd_W_law_1302 : decode kc_W_law 1302 = .ok (.istore 5, 2) := by decide +kernel
theorem kd_W_law_1304 : decode kc_W_law 1304 = .ok (.aload_n 2, 1) := by decide +kernel
theorem kd_W_law_1305 : decode kc_W_law 1305 = .ok (.aload_n 0, 1) := by decide +kernel
theorem kd_W_law_1306 : decode kc_W_law 1306 = .ok (.iload 4, 2) := by decide +kernel
theorem kd_W_law_1308 : decode kc_W_law 1308 = .ok (.iconst 1, 1) := by decide +kernel
theorem kd_W_law_1309 : decode kc_W_law 1309 = .ok (.iadd, 1) := by decide +kernel
theorem kd_W_law_1310 : decode kc_W_law 1310 = .ok (.iaload, 1) := by decide +kernel
theorem kd_W_law_1311 : decode kc_W_law 1311 = .ok (.aload_n 0, 1) := by decide +kernel
theorem kd_W_law_1312 : decode kc_W_law 1312 = .ok (.iload 4, 2) := by decide +kernel
theorem kd_W_law_1314 : decode kc_W_law 1314 = .ok (.iconst 2, 1) := by decide +kernel
theorem kd_W_law_1315 : decode kc_W_law 1315 = .ok (.iadd, 1) := by decide +kernel
theorem kd_W_law_1316 : decode kc_W_law 1316 = .ok (.iaload, 1) := by decide +kernel
theorem kd_W_law_1317 : decode kc_W_law 1317 = .ok (.invokevirtual 183, 3) := by decide +kernel
theorem kd_W_law_1320 : decode kc_W_law 1320 = .ok (.lstore 6, 2) := by decide +kernel
theorem kd_W_law_1322 : decode kc_W_law 1322 = .ok (.goto 98, 3) := by decide +kernel
theorem kd_W_law_1325 : decode kc_W_law 1325 = .ok (.aload_n 1, 1) := by decide +kernel
theorem kd_W_law_1326 : decode kc_W_law 1326 = .ok (.aload_n 0, 1) := by decide +kernel
theorem kd_W_law_1327 : decode kc_W_law 1327 = .ok (.iload 4, 2) := by decide +kernel
theorem kd_W_law_1329 : decode kc_W_law 1329 = .ok (.iconst 1, 1) := by decide +kernel
theorem kd_W_law_1330 : decode kc_W_law 1330 = .ok (.iadd, 1) := by decide +kernel
theorem kd_W_law_1331 : decode kc_W_law 1331 = .ok (.iaload, 1) := by decide +kernel
theorem kd_W_law_1332 : decode kc_W_law 1332 = .ok (.aload_n 0, 1) := by decide +kernel
theorem kd_W_law_1333 : decode kc_W_law 1333 = .ok (.iload 4, 2) := by decide +kernel
theorem kd_W_law_1335 : decode kc_W_law 1335 = .ok (.iconst 2, 1) := by decide +kernel
theorem kd_W_law_1336 : decode kc_W_law 1336 = .ok (.iadd, 1) := by decide +kernel
theorem kd_W_law_1337 : decode kc_W_law 1337 = .ok (.iaload, 1) := by decide +kernel
theorem kd_W_law_1338 : decode kc_W_law 1338 = .ok (.aload_n 3, 1) := by decide +kernel
theorem kd_W_law_1339 : decode kc_W_law 1339 = .ok (.invokestatic 184, 3) := by decide +kernel
theorem kd_W_law_1342 : decode kc_W_law 1342 = .ok (.istore 5, 2) := by decide +kernel
theorem kd_W_law_1344 : decode kc_W_law 1344 = .ok (.aload_n 2, 1) := by decide +kernel
theorem kd_W_law_1345 : decode kc_W_law 1345 = .ok (.aload_n 0, 1) := by decide +kernel
theorem kd_W_law_1346 : decode kc_W_law 1346 = .ok (.iload 4, 2) := by decide +kernel
theorem kd_W_law_1348 : decode kc_W_law 1348 = .ok (.iconst 1, 1) := by decide +kernel
theorem kd_W_law_1349 : decode kc_W_law 1349 = .ok (.iadd, 1) := by decide +kernel
theorem kd_W_law_1350 : decode kc_W_law 1350 = .ok (.iaload, 1) := by decide +kernel
theorem kd_W_law_1351 : decode kc_W_law 1351 = .ok (.aload_n 0, 1) := by decide +kernel
theorem kd_W_law_1352 : decode kc_W_law 1352 = .ok (.iload 4, 2) := by decide +kernel
theorem kd_W_law_1354 : decode kc_W_law 1354 = .ok (.iconst 2, 1) := by decide +kernel
theorem kd_W_law_1355 : decode kc_W_law 1355 = .ok (.iadd, 1) := by decide +kernel
theorem kd_W_law_1356 : decode kc_W_law 1356 = .ok (.iaload, 1) := by decide +kernel
theorem kd_W_law_1357 : decode kc_W_law 1357 = .ok (.invokevirtual 186, 3) := by decide +kernel
theorem kd_W_law_1360 : decode kc_W_law 1360 = .ok (.lstore 6, 2) := by decide +kernel
theorem kd_W_law_1362 : decode kc_W_law 1362 = .ok (.aload_n 2, 1) := by decide +kernel
theorem kd_W_law_1363 : decode kc_W_law 1363 = .ok (.invokevirtual 187, 3) := by decide +kernel
theorem kd_W_law_1366 : decode kc_W_law 1366 = .ok (.iload 5, 2) := by decide +kernel
theorem kd_W_law_1368 : decode kc_W_law 1368 = .ok (.if_icmp .eq 5, 3) := by decide +kernel
theorem kd_W_law_1371 : decode kc_W_law 1371 = .ok (.iconst 0, 1) := by decide +kernel
theorem kd_W_law_1372 : decode kc_W_law 1372 = .ok (.ireturn, 1) := by decide +kernel
theorem kd_W_law_1373 : decode kc_W_law 1373 = .ok (.iload 5, 2) := by decide +kernel
theorem kd_W_law_1375 : decode kc_W_law 1375 = .ok (.ifCond .ne 14, 3) := by decide +kernel
theorem kd_W_law_1378 : decode kc_W_law 1378 = .ok (.aload_n 3, 1) := by decide +kernel
theorem kd_W_law_1379 : decode kc_W_law 1379 = .ok (.iconst 0, 1) := by decide +kernel
theorem kd_W_law_1380 : decode kc_W_law 1380 = .ok (.laload, 1) := by decide +kernel
theorem kd_W_law_1381 : decode kc_W_law 1381 = .ok (.lload 6, 2) := by decide +kernel
theorem kd_W_law_1383 : decode kc_W_law 1383 = .ok (.lcmp, 1) := by decide +kernel
theorem kd_W_law_1384 : decode kc_W_law 1384 = .ok (.ifCond .eq 5, 3) := by decide +kernel
theorem kd_W_law_1387 : decode kc_W_law 1387 = .ok (.iconst 0, 1) := by decide +kernel
theorem kd_W_law_1388 : decode kc_W_law 1388 = .ok (.ireturn, 1) := by decide +kernel
theorem kd_W_law_1389 : decode kc_W_law 1389 = .ok (.goto 31, 3) := by decide +kernel
theorem kd_W_law_1392 : decode kc_W_law 1392 = .ok (.aload_n 1, 1) := by decide +kernel
theorem kd_W_law_1393 : decode kc_W_law 1393 = .ok (.aload_n 0, 1) := by decide +kernel
theorem kd_W_law_1394 : decode kc_W_law 1394 = .ok (.iload 4, 2) := by decide +kernel
theorem kd_W_law_1396 : decode kc_W_law 1396 = .ok (.iconst 1, 1) := by decide +kernel
theorem kd_W_law_1397 : decode kc_W_law 1397 = .ok (.iadd, 1) := by decide +kernel
theorem kd_W_law_1398 : decode kc_W_law 1398 = .ok (.iaload, 1) := by decide +kernel
theorem kd_W_law_1399 : decode kc_W_law 1399 = .ok (.aload_n 3, 1) := by decide +kernel
theorem kd_W_law_1400 : decode kc_W_law 1400 = .ok (.invokestatic 191, 3) := by decide +kernel
theorem kd_W_law_1403 : decode kc_W_law 1403 = .ok (.istore 5, 2) := by decide +kernel
theorem kd_W_law_1405 : decode kc_W_law 1405 = .ok (.aload_n 2, 1) := by decide +kernel
theorem kd_W_law_1406 : decode kc_W_law 1406 = .ok (.aload_n 0, 1) := by decide +kernel
theorem kd_W_law_1407 : decode kc_W_law 1407 = .ok (.iload 4, 2) := by decide +kernel
theorem kd_W_law_1409 : decode kc_W_law 1409 = .ok (.iconst 1, 1) := by decide +kernel
theorem kd_W_law_1410 : decode kc_W_law 1410 = .ok (.iadd, 1) := by decide +kernel
theorem kd_W_law_1411 : decode kc_W_law 1411 = .ok (.iaload, 1) := by decide +kernel
theorem kd_W_law_1412 : decode kc_W_law 1412 = .ok (.invokevirtual 193, 3) := by decide +kernel
theorem kd_W_law_1415 : decode kc_W_law 1415 = .ok (.lstore 6, 2) := by decide +kernel
theorem kd_W_law_1417 : decode kc_W_law 1417 = .ok (.goto 3, 3) := by decide +kernel
theorem kd_W_law_1420 : decode kc_W_law 1420 = .ok (.iinc 4 8, 3) := by decide +kernel
theorem kd_W_law_1423 : decode kc_W_law 1423 = .ok (.goto (-1400), 3) := by decide +kernel
theorem kd_W_law_1426 : decode kc_W_law 1426 = .ok (.iconst 1, 1) := by decide +kernel
theorem kd_W_law_1427 : decode kc_W_law 1427 = .ok (.ireturn, 1) := by decide +kernel
