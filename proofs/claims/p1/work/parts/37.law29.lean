set_option maxRecDepth 20000 in
theorem dL_law_1196 : decode cL_law 1196 = .ok (.aload_n 1, 1) := by decide +kernel
set_option maxRecDepth 20000 in
theorem dL_law_1197 : decode cL_law 1197 = .ok (.aload_n 0, 1) := by decide +kernel
set_option maxRecDepth 20000 in
theorem dL_law_1198 : decode cL_law 1198 = .ok (.iload 4, 2) := by decide +kernel
set_option maxRecDepth 20000 in
theorem dL_law_1200 : decode cL_law 1200 = .ok (.iconst 1, 1) := by decide +kernel
set_option maxRecDepth 20000 in
theorem dL_law_1201 : decode cL_law 1201 = .ok (.iadd, 1) := by decide +kernel
set_option maxRecDepth 20000 in
theorem dL_law_1202 : decode cL_law 1202 = .ok (.iaload, 1) := by decide +kernel
set_option maxRecDepth 20000 in
theorem dL_law_1203 : decode cL_law 1203 = .ok (.aload_n 0, 1) := by decide +kernel
set_option maxRecDepth 20000 in
theorem dL_law_1204 : decode cL_law 1204 = .ok (.iload 4, 2) := by decide +kernel
set_option maxRecDepth 20000 in
theorem dL_law_1206 : decode cL_law 1206 = .ok (.iconst 2, 1) := by decide +kernel
set_option maxRecDepth 20000 in
theorem dL_law_1207 : decode cL_law 1207 = .ok (.iadd, 1) := by decide +kernel
set_option maxRecDepth 20000 in
theorem dL_law_1208 : decode cL_law 1208 = .ok (.iaload, 1) := by decide +kernel
set_option maxRecDepth 20000 in
theorem dL_law_1209 : decode cL_law 1209 = .ok (.invokevirtual 148, 3) := by decide +kernel
set_option maxRecDepth 20000 in
theorem dL_law_1212 : decode cL_law 1212 = .ok (.aload_n 2, 1) := by decide +kernel
set_option maxRecDepth 20000 in
theorem dL_law_1213 : decode cL_law 1213 = .ok (.aload_n 0, 1) := by decide +kernel
set_option maxRecDepth 20000 in
theorem dL_law_1214 : decode cL_law 1214 = .ok (.iload 4, 2) := by decide +kernel
set_option maxRecDepth 20000 in
theorem dL_law_1216 : decode cL_law 1216 = .ok (.iconst 1, 1) := by decide +kernel
set_option maxRecDepth 20000 in
theorem dL_law_1217 : decode cL_law 1217 = .ok (.iadd, 1) := by decide +kernel
set_option maxRecDepth 20000 in
theorem dL_law_1218 : decode cL_law 1218 = .ok (.iaload, 1) := by decide +kernel
set_option maxRecDepth 20000 in
theorem dL_law_1219 : decode cL_law 1219 = .ok (.aload_n 0, 1) := by decide +kernel
set_option maxRecDepth 20000 in
theorem dL_law_1220 : decode cL_law 1220 = .ok (.iload 4, 2) := by decide +kernel
set_option maxRecDepth 20000 in
theorem dL_law_1222 : decode cL_law 1222 = .ok (.iconst 2, 1) := by decide +kernel
set_option maxRecDepth 20000 in
theorem dL_law_1223 : decode cL_law 1223 = .ok (.iadd, 1) := by decide +kernel
set_option maxRecDepth 20000 in
theorem dL_law_1224 : decode cL_law 1224 = .ok (.iaload, 1) := by decide +kernel
set_option maxRecDepth 20000 in
theorem dL_law_1225 : decode cL_law 1225 = .ok (.invokevirtual 151, 3) := by decide +kernel
set_option maxRecDepth 20000 in
theorem dL_law_1228 : decode cL_law 1228 = .ok (.if_icmp .eq 401, 3) := by decide +kernel
set_option maxRecDepth 20000 in
theorem dL_law_1233 : decode cL_law 1233 = .ok (.aload_n 1, 1) := by decide +kernel
set_option maxRecDepth 20000 in
theorem dL_law_1234 : decode cL_law 1234 = .ok (.aload_n 0, 1) := by decide +kernel
set_option maxRecDepth 20000 in
theorem dL_law_1235 : decode cL_law 1235 = .ok (.iload 4, 2) := by decide +kernel
set_option maxRecDepth 20000 in
theorem dL_law_1237 : decode cL_law 1237 = .ok (.iconst 1, 1) := by decide +kernel
set_option maxRecDepth 20000 in
theorem dL_law_1238 : decode cL_law 1238 = .ok (.iadd, 1) := by decide +kernel
set_option maxRecDepth 20000 in
theorem dL_law_1239 : decode cL_law 1239 = .ok (.iaload, 1) := by decide +kernel
set_option maxRecDepth 20000 in
theorem dL_law_1240 : decode cL_law 1240 = .ok (.aload_n 0, 1) := by decide +kernel
set_option maxRecDepth 20000 in
theorem dL_law_1241 : decode cL_law 1241 = .ok (.iload 4, 2) := by decide +kernel
set_option maxRecDepth 20000 in
theorem dL_law_1243 : decode cL_law 1243 = .ok (.iconst 2, 1) := by decide +kernel
set_option maxRecDepth 20000 in
theorem dL_law_1244 : decode cL_law 1244 = .ok (.iadd, 1) := by decide +kernel
set_option maxRecDepth 20000 in
theorem dL_law_1245 : decode cL_law 1245 = .ok (.iaload, 1) := by decide +kernel
set_option maxRecDepth 20000 in
theorem dL_law_1246 : decode cL_law 1246 = .ok (.invokevirtual 152, 3) := by decide +kernel
set_option maxRecDepth 20000 in
theorem dL_law_1249 : decode cL_law 1249 = .ok (.aload_n 2, 1) := by decide +kernel
set_option maxRecDepth 20000 in
theorem dL_law_1250 : decode cL_law 1250 = .ok (.aload_n 0, 1) := by decide +kernel
set_option maxRecDepth 20000 in
theorem dL_law_1251 : decode cL_law 1251 = .ok (.iload 4, 2) := by decide +kernel
set_option maxRecDepth 20000 in
theorem dL_law_1253 : decode cL_law 1253 = .ok (.iconst 1, 1) := by decide +kernel
set_option maxRecDepth 20000 in
theorem dL_law_1254 : decode cL_law 1254 = .ok (.iadd, 1) := by decide +kernel
set_option maxRecDepth 20000 in
theorem dL_law_1255 : decode cL_law 1255 = .ok (.iaload, 1) := by decide +kernel
set_option maxRecDepth 20000 in
theorem dL_law_1256 : decode cL_law 1256 = .ok (.aload_n 0, 1) := by decide +kernel
set_option maxRecDepth 20000 in
theorem dL_law_1257 : decode cL_law 1257 = .ok (.iload 4, 2) := by decide +kernel
set_option maxRecDepth 20000 in
theorem dL_law_1259 : decode cL_law 1259 = .ok (.iconst 2, 1) := by decide +kernel
set_option maxRecDepth 20000 in
theorem dL_law_1260 : decode cL_law 1260 = .ok (.iadd, 1) := by decide +kernel
set_option maxRecDepth 20000 in
theorem dL_law_1261 : decode cL_law 1261 = .ok (.iaload, 1) := by decide +kernel
set_option maxRecDepth 20000 in
theorem dL_law_1262 : decode cL_law 1262 = .ok (.invokevirtual 155, 3) := by decide +kernel
set_option maxRecDepth 20000 in
theorem dL_law_1265 : decode cL_law 1265 = .ok (.if_icmp .eq 364, 3) := by decide +kernel
set_option maxRecDepth 20000 in
theorem dL_law_1270 : decode cL_law 1270 = .ok (.aload_n 1, 1) := by decide +kernel
set_option maxRecDepth 20000 in
theorem dL_law_1271 : decode cL_law 1271 = .ok (.aload_n 0, 1) := by decide +kernel
set_option maxRecDepth 20000 in
theorem dL_law_1272 : decode cL_law 1272 = .ok (.iload 4, 2) := by decide +kernel
set_option maxRecDepth 20000 in
theorem dL_law_1274 : decode cL_law 1274 = .ok (.iconst 1, 1) := by decide +kernel
set_option maxRecDepth 20000 in
theorem dL_law_1275 : decode cL_law 1275 = .ok (.iadd, 1) := by decide +kernel
set_option maxRecDepth 20000 in
theorem dL_law_1276 : decode cL_law 1276 = .ok (.iaload, 1) := by decide +kernel
set_option maxRecDepth 20000 in
theorem dL_law_1277 : decode cL_law 1277 = .ok (.invokevirtual 156, 3) := by decide +kernel
set_option maxRecDepth 20000 in
theorem dL_law_1280 : decode cL_law 1280 = .ok (.aload_n 2, 1) := by decide +kernel
set_option maxRecDepth 20000 in
theorem dL_law_1281 : decode cL_law 1281 = .ok (.aload_n 0, 1) := by decide +kernel
set_option maxRecDepth 20000 in
theorem dL_law_1282 : decode cL_law 1282 = .ok (.iload 4, 2) := by decide +kernel
set_option maxRecDepth 20000 in
theorem dL_law_1284 : decode cL_law 1284 = .ok (.iconst 1, 1) := by decide +kernel
set_option maxRecDepth 20000 in
theorem dL_law_1285 : decode cL_law 1285 = .ok (.iadd, 1) := by decide +kernel
set_option maxRecDepth 20000 in
theorem dL_law_1286 : decode cL_law 1286 = .ok (.iaload, 1) := by decide +kernel
set_option maxRecDepth 20000 in
theorem dL_law_1287 : decode cL_law 1287 = .ok (.invokevirtual 159, 3) := by decide +kernel
set_option maxRecDepth 20000 in
theorem dL_law_1290 : decode cL_law 1290 = .ok (.if_icmp .eq 339, 3) := by decide +kernel
set_option maxRecDepth 20000 in
theorem dL_law_1295 : decode cL_law 1295 = .ok (.aload_n 1, 1) := by decide +kernel
set_option maxRecDepth 20000 in
theorem dL_law_1296 : decode cL_law 1296 = .ok (.aload_n 0, 1) := by decide +kernel
set_option maxRecDepth 20000 in
theorem dL_law_1297 : decode cL_law 1297 = .ok (.iload 4, 2) := by decide +kernel
set_option maxRecDepth 20000 in
theorem dL_law_1299 : decode cL_law 1299 = .ok (.iconst 1, 1) := by decide +kernel
set_option maxRecDepth 20000 in
theorem dL_law_1300 : decode cL_law 1300 = .ok (.iadd, 1) := by decide +kernel
set_option maxRecDepth 20000 in
theorem dL_law_1301 : decode cL_law 1301 = .ok (.iaload, 1) := by decide +kernel
set_option maxRecDepth 20000 in
theorem dL_law_1302 : decode cL_law 1302 = .ok (.invokevirtual 160, 3) := by decide +kernel
set_option maxRecDepth 20000 in
theorem dL_law_1305 : decode cL_law 1305 = .ok (.aload_n 2, 1) := by decide +kernel
set_option maxRecDepth 20000 in
theorem dL_law_1306 : decode cL_law 1306 = .ok (.aload_n 0, 1) := by decide +kernel
set_option maxRecDepth 20000 in
theorem dL_law_1307 : decode cL_law 1307 = .ok (.iload 4, 2) := by decide +kernel
set_option maxRecDepth 20000 in
theorem dL_law_1309 : decode cL_law 1309 = .ok (.iconst 1, 1) := by decide +kernel
set_option maxRecDepth 20000 in
theorem dL_law_1310 : decode cL_law 1310 = .ok (.iadd, 1) := by decide +kernel
set_option maxRecDepth 20000 in
theorem dL_law_1311 : decode cL_law 1311 = .ok (.iaload, 1) := by decide +kernel
set_option maxRecDepth 20000 in
theorem dL_law_1312 : decode cL_law 1312 = .ok (.invokevirtual 163, 3) := by decide +kernel
set_option maxRecDepth 20000 in
theorem dL_law_1315 : decode cL_law 1315 = .ok (.if_icmp .eq 314, 3) := by decide +kernel
set_option maxRecDepth 20000 in
theorem dL_law_1320 : decode cL_law 1320 = .ok (.aload_n 1, 1) := by decide +kernel
set_option maxRecDepth 20000 in
theorem dL_law_1321 : decode cL_law 1321 = .ok (.aload_n 0, 1) := by decide +kernel
set_option maxRecDepth 20000 in
theorem dL_law_1322 : decode cL_law 1322 = .ok (.iload 4, 2) := by decide +kernel
set_option maxRecDepth 20000 in
theorem dL_law_1324 : decode cL_law 1324 = .ok (.iconst 1, 1) := by decide +kernel
set_option maxRecDepth 20000 in
theorem dL_law_1325 : decode cL_law 1325 = .ok (.iadd, 1) := by decide +kernel
set_option maxRecDepth 20000 in
theorem dL_law_1326 : decode cL_law 1326 = .ok (.iaload, 1) := by decide +kernel
set_option maxRecDepth 20000 in
theorem dL_law_1327 : decode cL_law 1327 = .ok (.aload_n 0, 1) := by decide +kernel
set_option maxRecDepth 20000 in
theorem dL_law_1328 : decode cL_law 1328 = .ok (.iload 4, 2) := by decide +kernel
set_option maxRecDepth 20000 in
theorem dL_law_1330 : decode cL_law 1330 = .ok (.iconst 2, 1) := by decide +kernel
set_option maxRecDepth 20000 in
theorem dL_law_1331 : decode cL_law 1331 = .ok (.iadd, 1) := by decide +kernel
set_option maxRecDepth 20000 in
theorem dL_law_1332 : decode cL_law 1332 = .ok (.iaload, 1) := by decide +kernel
set_option maxRecDepth 20000 in
theorem dL_law_1333 : decode cL_law 1333 = .ok (.aload_n 0, 1) := by decide +kernel
set_option maxRecDepth 20000 in
theorem dL_law_1334 : decode cL_law 1334 = .ok (.iload 4, 2) := by decide +kernel
set_option maxRecDepth 20000 in
theorem dL_law_1336 : decode cL_law 1336 = .ok (.iconst 3, 1) := by decide +kernel
set_option maxRecDepth 20000 in
theorem dL_law_1337 : decode cL_law 1337 = .ok (.iadd, 1) := by decide +kernel
set_option maxRecDepth 20000 in
theorem dL_law_1338 : decode cL_law 1338 = .ok (.iaload, 1) := by decide +kernel
set_option maxRecDepth 20000 in
theorem dL_law_1339 : decode cL_law 1339 = .ok (.aload_n 0, 1) := by decide +kernel
set_option maxRecDepth 20000 in
theorem dL_law_1340 : decode cL_law 1340 = .ok (.iload 4, 2) := by decide +kernel
set_option maxRecDepth 20000 in
theorem dL_law_1342 : decode cL_law 1342 = .ok (.iconst 4, 1) := by decide +kernel
set_option maxRecDepth 20000 in
theorem dL_law_1343 : decode cL_law 1343 = .ok (.iadd, 1) := by decide +kernel
set_option maxRecDepth 20000 in
theorem dL_law_1344 : decode cL_law 1344 = .ok (.iaload, 1) := by decide +kernel
set_option maxRecDepth 20000 in
theorem dL_law_1345 : decode cL_law 1345 = .ok (.aload_n 0, 1) := by decide +kernel
set_option maxRecDepth 20000 in
theorem dL_law_1346 : decode cL_law 1346 = .ok (.iload 4, 2) := by decide +kernel
set_option maxRecDepth 20000 in
theorem dL_law_1348 : decode cL_law 1348 = .ok (.iconst 5, 1) := by decide +kernel
set_option maxRecDepth 20000 in
theorem dL_law_1349 : decode cL_law 1349 = .ok (.iadd, 1) := by decide +kernel
set_option maxRecDepth 20000 in
theorem dL_law_1350 : decode cL_law 1350 = .ok (.iaload, 1) := by decide +kernel
set_option maxRecDepth 20000 in
theorem dL_law_1351 : decode cL_law 1351 = .ok (.invokevirtual 164, 3) := by decide +kernel
set_option maxRecDepth 20000 in
theorem dL_law_1354 : decode cL_law 1354 = .ok (.aload_n 2, 1) := by decide +kernel
set_option maxRecDepth 20000 in
theorem dL_law_1355 : decode cL_law 1355 = .ok (.aload_n 0, 1) := by decide +kernel
set_option maxRecDepth 20000 in
theorem dL_law_1356 : decode cL_law 1356 = .ok (.iload 4, 2) := by decide +kernel
set_option maxRecDepth 20000 in
theorem dL_law_1358 : decode cL_law 1358 = .ok (.iconst 1, 1) := by decide +kernel
set_option maxRecDepth 20000 in
theorem dL_law_1359 : decode cL_law 1359 = .ok (.iadd, 1) := by decide +kernel
set_option maxRecDepth 20000 in
theorem dL_law_1360 : decode cL_law 1360 = .ok (.iaload, 1) := by decide +kernel
set_option maxRecDepth 20000 in
theorem dL_law_1361 : decode cL_law 1361 = .ok (.aload_n 0, 1) := by decide +kernel
set_option maxRecDepth 20000 in
theorem dL_law_1362 : decode cL_law 1362 = .ok (.iload 4, 2) := by decide +kernel
set_option maxRecDepth 20000 in
theorem dL_law_1364 : decode cL_law 1364 = .ok (.iconst 2, 1) := by decide +kernel
set_option maxRecDepth 20000 in
theorem dL_law_1365 : decode cL_law 1365 = .ok (.iadd, 1) := by decide +kernel
set_option maxRecDepth 20000 in
theorem dL_law_1366 : decode cL_law 1366 = .ok (.iaload, 1) := by decide +kernel
set_option maxRecDepth 20000 in
theorem dL_law_1367 : decode cL_law 1367 = .ok (.aload_n 0, 1) := by decide +kernel
set_option maxRecDepth 20000 in
theorem dL_law_1368 : decode cL_law 1368 = .ok (.iload 4, 2) := by decide +kernel
set_option maxRecDepth 20000 in
theorem dL_law_1370 : decode cL_law 1370 = .ok (.iconst 3, 1) := by decide +kernel
set_option maxRecDepth 20000 in
theorem dL_law_1371 : decode cL_law 1371 = .ok (.iadd, 1) := by decide +kernel
set_option maxRecDepth 20000 in
theorem dL_law_1372 : decode cL_law 1372 = .ok (.iaload, 1) := by decide +kernel
set_option maxRecDepth 20000 in
theorem dL_law_1373 : decode cL_law 1373 = .ok (.aload_n 0, 1) := by decide +kernel
set_option maxRecDepth 20000 in
theorem dL_law_1374 : decode cL_law 1374 = .ok (.iload 4, 2) := by decide +kernel
set_option maxRecDepth 20000 in
theorem dL_law_1376 : decode cL_law 1376 = .ok (.iconst 4, 1) := by decide +kernel
set_option maxRecDepth 20000 in
theorem dL_law_1377 : decode cL_law 1377 = .ok (.iadd, 1) := by decide +kernel
set_option maxRecDepth 20000 in
theorem dL_law_1378 : decode cL_law 1378 = .ok (.iaload, 1) := by decide +kernel
set_option maxRecDepth 20000 in
theorem dL_law_1379 : decode cL_law 1379 = .ok (.aload_n 0, 1) := by decide +kernel
set_option maxRecDepth 20000 in
theorem dL_law_1380 : decode cL_law 1380 = .ok (.iload 4, 2) := by decide +kernel
set_option maxRecDepth 20000 in
theorem dL_law_1382 : decode cL_law 1382 = .ok (.iconst 5, 1) := by decide +kernel
set_option maxRecDepth 20000 in
theorem dL_law_1383 : decode cL_law 1383 = .ok (.iadd, 1) := by decide +kernel
set_option maxRecDepth 20000 in
theorem dL_law_1384 : decode cL_law 1384 = .ok (.iaload, 1) := by decide +kernel
set_option maxRecDepth 20000 in
theorem dL_law_1385 : decode cL_law 1385 = .ok (.invokevirtual 167, 3) := by decide +kernel
set_option maxRecDepth 20000 in
theorem dL_law_1388 : decode cL_law 1388 = .ok (.if_icmp .eq 241, 3) := by decide +kernel
set_option maxRecDepth 20000 in
theorem dL_law_1393 : decode cL_law 1393 = .ok (.aload_n 1, 1) := by decide +kernel
set_option maxRecDepth 20000 in
theorem dL_law_1394 : decode cL_law 1394 = .ok (.aload_n 0, 1) := by decide +kernel
set_option maxRecDepth 20000 in
theorem dL_law_1395 : decode cL_law 1395 = .ok (.iload 4, 2) := by decide +kernel
set_option maxRecDepth 20000 in
theorem dL_law_1397 : decode cL_law 1397 = .ok (.iconst 1, 1) := by decide +kernel
set_option maxRecDepth 20000 in
theorem dL_law_1398 : decode cL_law 1398 = .ok (.iadd, 1) := by decide +kernel
set_option maxRecDepth 20000 in
theorem dL_law_1399 : decode cL_law 1399 = .ok (.iaload, 1) := by decide +kernel
set_option maxRecDepth 20000 in
theorem dL_law_1400 : decode cL_law 1400 = .ok (.aload_n 0, 1) := by decide +kernel
set_option maxRecDepth 20000 in
theorem dL_law_1401 : decode cL_law 1401 = .ok (.iload 4, 2) := by decide +kernel
set_option maxRecDepth 20000 in
theorem dL_law_1403 : decode cL_law 1403 = .ok (.iconst 2, 1) := by decide +kernel
set_option maxRecDepth 20000 in
theorem dL_law_1404 : decode cL_law 1404 = .ok (.iadd, 1) := by decide +kernel
set_option maxRecDepth 20000 in
theorem dL_law_1405 : decode cL_law 1405 = .ok (.iaload, 1) := by decide +kernel
set_option maxRecDepth 20000 in
theorem dL_law_1406 : decode cL_law 1406 = .ok (.aload_n 0, 1) := by decide +kernel
set_option maxRecDepth 20000 in
theorem dL_law_1407 : decode cL_law 1407 = .ok (.iload 4, 2) := by decide +kernel
set_option maxRecDepth 20000 in
theorem dL_law_1409 : decode cL_law 1409 = .ok (.iconst 3, 1) := by decide +kernel
set_option maxRecDepth 20000 in
theorem dL_law_1410 : decode cL_law 1410 = .ok (.iadd, 1) := by decide +kernel
set_option maxRecDepth 20000 in
theorem dL_law_1411 : decode cL_law 1411 = .ok (.iaload, 1) := by decide +kernel
set_option maxRecDepth 20000 in
theorem dL_law_1412 : decode cL_law 1412 = .ok (.invokevirtual 168, 3) := by decide +kernel
set_option maxRecDepth 20000 in
theorem dL_law_1415 : decode cL_law 1415 = .ok (.aload_n 2, 1) := by decide +kernel
set_option maxRecDepth 20000 in
theorem dL_law_1416 : decode cL_law 1416 = .ok (.aload_n 0, 1) := by decide +kernel
set_option maxRecDepth 20000 in
theorem dL_law_1417 : decode cL_law 1417 = .ok (.iload 4, 2) := by decide +kernel
set_option maxRecDepth 20000 in
theorem dL_law_1419 : decode cL_law 1419 = .ok (.iconst 1, 1) := by decide +kernel
set_option maxRecDepth 20000 in
theorem dL_law_1420 : decode cL_law 1420 = .ok (.iadd, 1) := by decide +kernel
set_option maxRecDepth 20000 in
theorem dL_law_1421 : decode cL_law 1421 = .ok (.iaload, 1) := by decide +kernel
set_option maxRecDepth 20000 in
theorem dL_law_1422 : decode cL_law 1422 = .ok (.aload_n 0, 1) := by decide +kernel
set_option maxRecDepth 20000 in
theorem dL_law_1423 : decode cL_law 1423 = .ok (.iload 4, 2) := by decide +kernel
set_option maxRecDepth 20000 in
theorem dL_law_1425 : decode cL_law 1425 = .ok (.iconst 2, 1) := by decide +kernel
set_option maxRecDepth 20000 in
theorem dL_law_1426 : decode cL_law 1426 = .ok (.iadd, 1) := by decide +kernel
set_option maxRecDepth 20000 in
theorem dL_law_1427 : decode cL_law 1427 = .ok (.iaload, 1) := by decide +kernel
set_option maxRecDepth 20000 in
theorem dL_law_1428 : decode cL_law 1428 = .ok (.aload_n 0, 1) := by decide +kernel
set_option maxRecDepth 20000 in
theorem dL_law_1429 : decode cL_law 1429 = .ok (.iload 4, 2) := by decide +kernel
set_option maxRecDepth 20000 in
theorem dL_law_1431 : decode cL_law 1431 = .ok (.iconst 3, 1) := by decide +kernel
set_option maxRecDepth 20000 in
theorem dL_law_1432 : decode cL_law 1432 = .ok (.iadd, 1) := by decide +kernel
set_option maxRecDepth 20000 in
theorem dL_law_1433 : decode cL_law 1433 = .ok (.iaload, 1) := by decide +kernel
set_option maxRecDepth 20000 in
theorem dL_law_1434 : decode cL_law 1434 = .ok (.invokevirtual 172, 3) := by decide +kernel
set_option maxRecDepth 20000 in
theorem dL_law_1437 : decode cL_law 1437 = .ok (.if_icmp .eq 192, 3) := by decide +kernel
set_option maxRecDepth 20000 in
theorem dL_law_1442 : decode cL_law 1442 = .ok (.aload_n 1, 1) := by decide +kernel
set_option maxRecDepth 20000 in
theorem dL_law_1443 : decode cL_law 1443 = .ok (.aload_n 0, 1) := by decide +kernel
set_option maxRecDepth 20000 in
theorem dL_law_1444 : decode cL_law 1444 = .ok (.iload 4, 2) := by decide +kernel
set_option maxRecDepth 20000 in
theorem dL_law_1446 : decode cL_law 1446 = .ok (.iconst 1, 1) := by decide +kernel
set_option maxRecDepth 20000 in
theorem dL_law_1447 : decode cL_law 1447 = .ok (.iadd, 1) := by decide +kernel
set_option maxRecDepth 20000 in
theorem dL_law_1448 : decode cL_law 1448 = .ok (.iaload, 1) := by decide +kernel
set_option maxRecDepth 20000 in
theorem dL_law_1449 : decode cL_law 1449 = .ok (.aload_n 0, 1) := by decide +kernel
set_option maxRecDepth 20000 in
theorem dL_law_1450 : decode cL_law 1450 = .ok (.iload 4, 2) := by decide +kernel
set_option maxRecDepth 20000 in
theorem dL_law_1452 : decode cL_law 1452 = .ok (.iconst 2, 1) := by decide +kernel
set_option maxRecDepth 20000 in
theorem dL_law_1453 : decode cL_law 1453 = .ok (.iadd, 1) := by decide +kernel
set_option maxRecDepth 20000 in
theorem dL_law_1454 : decode cL_law 1454 = .ok (.iaload, 1) := by decide +kernel
set_option maxRecDepth 20000 in
theorem dL_law_1455 : decode cL_law 1455 = .ok (.invokevirtual 173, 3) := by decide +kernel
set_option maxRecDepth 20000 in
theorem dL_law_1458 : decode cL_law 1458 = .ok (.aload_n 2, 1) := by decide +kernel
set_option maxRecDepth 20000 in
theorem dL_law_1459 : decode cL_law 1459 = .ok (.aload_n 0, 1) := by decide +kernel
set_option maxRecDepth 20000 in
theorem dL_law_1460 : decode cL_law 1460 = .ok (.iload 4, 2) := by decide +kernel
set_option maxRecDepth 20000 in
theorem dL_law_1462 : decode cL_law 1462 = .ok (.iconst 1, 1) := by decide +kernel
set_option maxRecDepth 20000 in
theorem dL_law_1463 : decode cL_law 1463 = .ok (.iadd, 1) := by decide +kernel
set_option maxRecDepth 20000 in
theorem dL_law_1464 : decode cL_law 1464 = .ok (.iaload, 1) := by decide +kernel
set_option maxRecDepth 20000 in
theorem dL_law_1465 : decode cL_law 1465 = .ok (.aload_n 0, 1) := by decide +kernel
set_option maxRecDepth 20000 in
theorem dL_law_1466 : decode cL_law 1466 = .ok (.iload 4, 2) := by decide +kernel
set_option maxRecDepth 20000 in
theorem dL_law_1468 : decode cL_law 1468 = .ok (.iconst 2, 1) := by decide +kernel
set_option maxRecDepth 20000 in
theorem dL_law_1469 : decode cL_law 1469 = .ok (.iadd, 1) := by decide +kernel
set_option maxRecDepth 20000 in
theorem dL_law_1470 : decode cL_law 1470 = .ok (.iaload, 1) := by decide +kernel
set_option maxRecDepth 20000 in
theorem dL_law_1471 : decode cL_law 1471 = .ok (.invokevirtual 176, 3) := by decide +kernel
set_option maxRecDepth 20000 in
theorem dL_law_1474 : decode cL_law 1474 = .ok (.if_icmp .eq 155, 3) := by decide +kernel
set_option maxHeartbeats 4000000 in
set_option maxRecDepth 100000 in
theorem lc_29 {p : Program} {l : Launch} {e : Env} {s : State} {m : MethodId} {below : List Frame} {meth : Method} {c : Code} {b : Nat} {xs : Nat → Int32} {H : Heap} {locs : List Loc} {ls : Array Slot} {dC : Nat → ClassId} {dI : Nat → Nat → Nat} {sk sv : Nat → Nat} {s2 tz s3 : Nat} (q r : Nat → Nat) (kB : ClassId) (kR : ClassId) (kT : ClassId) (kU : ClassId) (kL : ClassId) (kN : ClassId) (fB fT : Nat → Int32) (qo : Nat) (hlt : l.stackTraces = false) (C0 : lw_At p s m meth c b 6 xs) (hG : gxP s) (hE : exP sk sv s2 tz (fun q : Nat => s.heap.size ≤ q) s s.heap) (hT : tP s3 (fun q : Nat => s.heap.size ≤ q) s s.heap) (hK : va_K (dC, dI) vwCl [(kB, .int), (kR, .int), (kT, .byte), (kU, .int), (kL, .int), (kN, .int)] s) (hP : va_P (dC, dI) vwCl (fwL q r kB kR kT kU kL kN fB fT) H) (hD : va_D (fun q : Nat => s.heap.size ≤ q) (fwL q r kB kR kT kU kL kN fB fT)) (hS : va_S (fun q : Nat => s.heap.size ≤ q) s.heap H locs) (hl : lv_has ls 7 [(0, .ref b), (1, .ref (q 15)), (2, .ref (r 100)), (3, .ref qo), (4, .int 0)]) : W p l e room_1 s m #[Value.ref b] below meth c H locs 335 33214 (lw_Z below #[Value.ref b] s) (F0 m 1196 ls []) := by
  obtain ⟨hx, hb, hr, hml, hown0, hts, hX, hbl, hlocks, hgv⟩ := id C0
  have hown : s.vm.findClass RL = some m.cls := hown0
  have hA : ∀ q : Nat, s.heap.size ≤ q → (fun q : Nat => s.heap.size ≤ q) q := fun _ h => h
  have hbA : ¬ (fun q : Nat => s.heap.size ≤ q) b := Nat.not_le.mpr hbl
  have hiX11 : ∀ w ∈ u_ws RX11 TX11 17, w ∈ lw_tbl := in_X11
  have hiX12 : ∀ w ∈ u_ws RX12 TX12 54, w ∈ lw_tbl := in_X12
  refine lv_aload_n hx hb dL_law_1196 rfl (lv_at hl 1 rfl) ?_
  refine lv_aload_n hx hb dL_law_1197 rfl (lv_at hl 0 rfl) ?_
  refine lv_iload hx hb dL_law_1198 (lv_at hl 4 rfl) ?_
  refine lv_iconst (v := 1) hx hb dL_law_1200 (by decide) ?_
  refine lv_iadd hx hb dL_law_1201 ?_
  refine lv_topi (fun v_1 e_1 => ?_)
  obtain rfl : v_1 = 1 := by rw [e_1]; decide
  refine va_sld hx hb hX hbl hbA hS (i := 1) (vp_in_nI (n := 1) (by decide) (by decide)) dL_law_1202 ?_
  refine lv_topi (fun v_2 e_2 => ?_)
  obtain rfl : v_2 = xs 1 := by rw [e_2]; exact congrArg xs (by decide)
  refine lv_aload_n hx hb dL_law_1203 rfl (lv_at hl 0 rfl) ?_
  refine lv_iload hx hb dL_law_1204 (lv_at hl 4 rfl) ?_
  refine lv_iconst (v := 2) hx hb dL_law_1206 (by decide) ?_
  refine lv_iadd hx hb dL_law_1207 ?_
  refine lv_topi (fun v_3 e_3 => ?_)
  obtain rfl : v_3 = 2 := by rw [e_3]; decide
  refine va_sld hx hb hX hbl hbA hS (i := 2) (vp_in_nI (n := 2) (by decide) (by decide)) dL_law_1208 ?_
  refine lv_topi (fun v_4 e_4 => ?_)
  obtain rfl : v_4 = xs 2 := by rw [e_4]; exact congrArg xs (by decide)
  have hPc := hP.sub (ws' := [((q 15), .inr (11, xF q 0 1)), ((q 1), .inr (5, [.int 0, .int 0, .int 0, .int 0, .ref (q 20), .ref (q 21), .ref (q 22), .ref (q 23)]))]) [0, 3] rfl
  have hDc := hD.sub (ws' := [((q 15), .inr (11, xF q 0 1)), ((q 1), .inr (5, [.int 0, .int 0, .int 0, .int 0, .ref (q 20), .ref (q 21), .ref (q 22), .ref (q 23)]))]) [0, 3] (by decide) rfl
  have hKc := hK.sub (tys' := []) [] rfl
  have hFc := va_free (wc := [((q 15), .inr (11, xF q 0 1)), ((q 1), .inr (5, [.int 0, .int 0, .int 0, .int 0, .ref (q 20), .ref (q 21), .ref (q 22), .ref (q 23)]))]) hD hS hA [0, 3] rfl
  refine va_calli (va_runV (As := [.int (xs 1), .int (xs 2)]) (rest := []) ⟨hx, hb, hml, hown, hts⟩ (f_X11_parted l dC dI H.size q ((xs 1)) ((xs 2))) (cwV 2 hts g_f_L_law_f_X11_parted rfl rfl rfl (by decide +kernel) ⟨Nat.le_of_ble_eq_true rfl, Nat.le_of_ble_eq_true rfl⟩) ⟨cW_blind, va_recv hKc hPc (ci := 11) (q0 := 0) rfl rfl, fun U hU hW => ⟨rfl, cW_use hU hW hPc hKc hDc hG⟩⟩ rfl rfl hl.1 rfl (lv_room (Nat.le_of_ble_eq_true rfl)) dL_law_1209 ⟨Nat.le_of_ble_eq_true rfl, Nat.le_of_ble_eq_true rfl⟩) hS (fun q _ h => hFc q h) hFc (fun r_5 u t H1 locs ht hvm hw hB hz1 hk1 hS => ?_)
  obtain ⟨hP, hD⟩ := va_join (wr := [((r 100), .inr (12, mF r 0 0 0 0 0 0 0 0 0 0 0 0 0 (-1) 1)), ((r 1), .inl (kT, 240, .inl fT)), ((r 18), .inl (kU, 2, .inl (fun _ => 0))), ((r 24), .inl (kL, 5, .inl (fun _ => 0))), ((r 32), .inl (kN, 208, .inl (fun _ => 0)))]) (w1 := []) hP hD [0, 3] [12, 13, 14, 15, 16] rfl rfl (by decide) (by decide) hk1 hFc (va_P_nil H1) va_D_nil
  generalize H1 = H at hP hS ⊢
  have hP : va_P (dC, dI) vwCl [((r 100), .inr (12, mF r 0 0 0 0 0 0 0 0 0 0 0 0 0 (-1) 1)), ((r 1), .inl (kT, 240, .inl fT)), ((r 18), .inl (kU, 2, .inl (fun _ => 0))), ((r 24), .inl (kL, 5, .inl (fun _ => 0))), ((r 32), .inl (kN, 208, .inl (fun _ => 0)))] H := hP
  have hD : va_D (fun q : Nat => s.heap.size ≤ q) [((r 100), .inr (12, mF r 0 0 0 0 0 0 0 0 0 0 0 0 0 (-1) 1)), ((r 1), .inl (kT, 240, .inl fT)), ((r 18), .inl (kU, 2, .inl (fun _ => 0))), ((r 24), .inl (kL, 5, .inl (fun _ => 0))), ((r 32), .inl (kN, 208, .inl (fun _ => 0)))] := hD
  refine W.widen (k := 335) (n := 33214) (Nat.le_of_ble_eq_true rfl) (Nat.le_of_ble_eq_true rfl) ?_
  obtain rfl : r_5 = (-1) := hw
  refine lv_aload_n hx hb dL_law_1212 rfl (lv_at hl 2 rfl) ?_
  refine lv_aload_n hx hb dL_law_1213 rfl (lv_at hl 0 rfl) ?_
  refine lv_iload hx hb dL_law_1214 (lv_at hl 4 rfl) ?_
  refine lv_iconst (v := 1) hx hb dL_law_1216 (by decide) ?_
  refine lv_iadd hx hb dL_law_1217 ?_
  refine lv_topi (fun v_6 e_6 => ?_)
  obtain rfl : v_6 = 1 := by rw [e_6]; decide
  refine va_sld hx hb hX hbl hbA hS (i := 1) (vp_in_nI (n := 1) (by decide) (by decide)) dL_law_1218 ?_
  refine lv_topi (fun v_7 e_7 => ?_)
  obtain rfl : v_7 = xs 1 := by rw [e_7]; exact congrArg xs (by decide)
  refine lv_aload_n hx hb dL_law_1219 rfl (lv_at hl 0 rfl) ?_
  refine lv_iload hx hb dL_law_1220 (lv_at hl 4 rfl) ?_
  refine lv_iconst (v := 2) hx hb dL_law_1222 (by decide) ?_
  refine lv_iadd hx hb dL_law_1223 ?_
  refine lv_topi (fun v_8 e_8 => ?_)
  obtain rfl : v_8 = 2 := by rw [e_8]; decide
  refine va_sld hx hb hX hbl hbA hS (i := 2) (vp_in_nI (n := 2) (by decide) (by decide)) dL_law_1224 ?_
  refine lv_topi (fun v_9 e_9 => ?_)
  obtain rfl : v_9 = xs 2 := by rw [e_9]; exact congrArg xs (by decide)
  have hPc := hP.sub (ws' := [((r 100), .inr (12, mF r 0 0 0 0 0 0 0 0 0 0 0 0 0 (-1) 1))]) [0] rfl
  have hDc := hD.sub (ws' := [((r 100), .inr (12, mF r 0 0 0 0 0 0 0 0 0 0 0 0 0 (-1) 1))]) [0] (by decide) rfl
  have hKc := hK.sub (tys' := []) [] rfl
  have hFc := va_free (wc := [((r 100), .inr (12, mF r 0 0 0 0 0 0 0 0 0 0 0 0 0 (-1) 1))]) hD hS hA [0] rfl
  refine va_calli (va_runV (As := [.int (xs 1), .int (xs 2)]) (rest := [.int (-1)]) ⟨hx, hb, hml, hown, hts⟩ (f_X12_parted l dC dI H.size r ((xs 1)) ((xs 2))) (cwV 2 hts g_f_L_law_f_X12_parted rfl rfl rfl (by decide +kernel) ⟨Nat.le_of_ble_eq_true rfl, Nat.le_of_ble_eq_true rfl⟩) ⟨cW_blind, va_recv hKc hPc (ci := 12) (q0 := 0) rfl rfl, fun U hU hW => ⟨rfl, cW_use hU hW hPc hKc hDc hG⟩⟩ rfl rfl hl.1 rfl (lv_room (Nat.le_of_ble_eq_true rfl)) dL_law_1225 ⟨Nat.le_of_ble_eq_true rfl, Nat.le_of_ble_eq_true rfl⟩) hS (fun q _ h => hFc q h) hFc (fun r_10 u t H1 locs ht hvm hw hB hz1 hk1 hS => ?_)
  obtain ⟨hP, hD⟩ := va_join (wr := [((r 1), .inl (kT, 240, .inl fT)), ((r 18), .inl (kU, 2, .inl (fun _ => 0))), ((r 24), .inl (kL, 5, .inl (fun _ => 0))), ((r 32), .inl (kN, 208, .inl (fun _ => 0)))]) (w1 := []) hP hD [0] [1, 2, 3, 4] rfl rfl (by decide) (by decide) hk1 hFc (va_P_nil H1) va_D_nil
  generalize H1 = H at hP hS ⊢
  have hP : va_P (dC, dI) vwCl [((r 1), .inl (kT, 240, .inl fT)), ((r 18), .inl (kU, 2, .inl (fun _ => 0))), ((r 24), .inl (kL, 5, .inl (fun _ => 0))), ((r 32), .inl (kN, 208, .inl (fun _ => 0)))] H := hP
  have hD : va_D (fun q : Nat => s.heap.size ≤ q) [((r 1), .inl (kT, 240, .inl fT)), ((r 18), .inl (kU, 2, .inl (fun _ => 0))), ((r 24), .inl (kL, 5, .inl (fun _ => 0))), ((r 32), .inl (kN, 208, .inl (fun _ => 0)))] := hD
  refine W.widen (k := 335) (n := 33214) (Nat.le_of_ble_eq_true rfl) (Nat.le_of_ble_eq_true rfl) ?_
  obtain rfl : r_10 = (-1) := hw
  refine lv_icmp_eq (tgt := 1629) hx hb dL_law_1228 (by decide) (fun c_11 => ?_) (fun c_11 => absurd (by decide) c_11)
  exact lc_exit C0 hS (by decide) (by decide) ls (lv_sub hl [0, 4] rfl)
set_option maxHeartbeats 4000000 in
set_option maxRecDepth 100000 in
theorem lc_30 {p : Program} {l : Launch} {e : Env} {s : State} {m : MethodId} {below : List Frame} {meth : Method} {c : Code} {b : Nat} {xs : Nat → Int32} {H : Heap} {locs : List Loc} {ls : Array Slot} {dC : Nat → ClassId} {dI : Nat → Nat → Nat} {sk sv : Nat → Nat} {s2 tz s3 : Nat} (q r : Nat → Nat) (kB : ClassId) (kR : ClassId) (kT : ClassId) (kU : ClassId) (kL : ClassId) (kN : ClassId) (fB fT : Nat → Int32) (qo : Nat) (hlt : l.stackTraces = false) (C0 : lw_At p s m meth c b 6 xs) (hG : gxP s) (hE : exP sk sv s2 tz (fun q : Nat => s.heap.size ≤ q) s s.heap) (hT : tP s3 (fun q : Nat => s.heap.size ≤ q) s s.heap) (hK : va_K (dC, dI) vwCl [(kB, .int), (kR, .int), (kT, .byte), (kU, .int), (kL, .int), (kN, .int)] s) (hP : va_P (dC, dI) vwCl (fwL q r kB kR kT kU kL kN fB fT) H) (hD : va_D (fun q : Nat => s.heap.size ≤ q) (fwL q r kB kR kT kU kL kN fB fT)) (hS : va_S (fun q : Nat => s.heap.size ≤ q) s.heap H locs) (hl : lv_has ls 7 [(0, .ref b), (1, .ref (q 15)), (2, .ref (r 100)), (3, .ref qo), (4, .int 0)]) : W p l e room_1 s m #[Value.ref b] below meth c H locs 335 33214 (lw_Z below #[Value.ref b] s) (F0 m 1233 ls []) := by
  obtain ⟨hx, hb, hr, hml, hown0, hts, hX, hbl, hlocks, hgv⟩ := id C0
  have hown : s.vm.findClass RL = some m.cls := hown0
  have hA : ∀ q : Nat, s.heap.size ≤ q → (fun q : Nat => s.heap.size ≤ q) q := fun _ h => h
  have hbA : ¬ (fun q : Nat => s.heap.size ≤ q) b := Nat.not_le.mpr hbl
  have hiX11 : ∀ w ∈ u_ws RX11 TX11 17, w ∈ lw_tbl := in_X11
  have hiX12 : ∀ w ∈ u_ws RX12 TX12 54, w ∈ lw_tbl := in_X12
  refine lv_aload_n hx hb dL_law_1233 rfl (lv_at hl 1 rfl) ?_
  refine lv_aload_n hx hb dL_law_1234 rfl (lv_at hl 0 rfl) ?_
  refine lv_iload hx hb dL_law_1235 (lv_at hl 4 rfl) ?_
  refine lv_iconst (v := 1) hx hb dL_law_1237 (by decide) ?_
  refine lv_iadd hx hb dL_law_1238 ?_
  refine lv_topi (fun v_1 e_1 => ?_)
  obtain rfl : v_1 = 1 := by rw [e_1]; decide
  refine va_sld hx hb hX hbl hbA hS (i := 1) (vp_in_nI (n := 1) (by decide) (by decide)) dL_law_1239 ?_
  refine lv_topi (fun v_2 e_2 => ?_)
  obtain rfl : v_2 = xs 1 := by rw [e_2]; exact congrArg xs (by decide)
  refine lv_aload_n hx hb dL_law_1240 rfl (lv_at hl 0 rfl) ?_
  refine lv_iload hx hb dL_law_1241 (lv_at hl 4 rfl) ?_
  refine lv_iconst (v := 2) hx hb dL_law_1243 (by decide) ?_
  refine lv_iadd hx hb dL_law_1244 ?_
  refine lv_topi (fun v_3 e_3 => ?_)
  obtain rfl : v_3 = 2 := by rw [e_3]; decide
  refine va_sld hx hb hX hbl hbA hS (i := 2) (vp_in_nI (n := 2) (by decide) (by decide)) dL_law_1245 ?_
  refine lv_topi (fun v_4 e_4 => ?_)
  obtain rfl : v_4 = xs 2 := by rw [e_4]; exact congrArg xs (by decide)
  have hPc := hP.sub (ws' := [((q 15), .inr (11, xF q 0 1)), ((q 1), .inr (5, [.int 0, .int 0, .int 0, .int 0, .ref (q 20), .ref (q 21), .ref (q 22), .ref (q 23)]))]) [0, 3] rfl
  have hDc := hD.sub (ws' := [((q 15), .inr (11, xF q 0 1)), ((q 1), .inr (5, [.int 0, .int 0, .int 0, .int 0, .ref (q 20), .ref (q 21), .ref (q 22), .ref (q 23)]))]) [0, 3] (by decide) rfl
  have hKc := hK.sub (tys' := []) [] rfl
  have hFc := va_free (wc := [((q 15), .inr (11, xF q 0 1)), ((q 1), .inr (5, [.int 0, .int 0, .int 0, .int 0, .ref (q 20), .ref (q 21), .ref (q 22), .ref (q 23)]))]) hD hS hA [0, 3] rfl
  refine va_calli (va_runV (As := [.int (xs 1), .int (xs 2)]) (rest := []) ⟨hx, hb, hml, hown, hts⟩ (f_X11_draws l dC dI H.size q ((xs 1)) ((xs 2))) (cwV 2 hts g_f_L_law_f_X11_draws rfl rfl rfl (by decide +kernel) ⟨Nat.le_of_ble_eq_true rfl, Nat.le_of_ble_eq_true rfl⟩) ⟨cW_blind, va_recv hKc hPc (ci := 11) (q0 := 0) rfl rfl, fun U hU hW => ⟨rfl, cW_use hU hW hPc hKc hDc hG⟩⟩ rfl rfl hl.1 rfl (lv_room (Nat.le_of_ble_eq_true rfl)) dL_law_1246 ⟨Nat.le_of_ble_eq_true rfl, Nat.le_of_ble_eq_true rfl⟩) hS (fun q _ h => hFc q h) hFc (fun r_5 u t H1 locs ht hvm hw hB hz1 hk1 hS => ?_)
  obtain ⟨hP, hD⟩ := va_join (wr := [((r 100), .inr (12, mF r 0 0 0 0 0 0 0 0 0 0 0 0 0 (-1) 1)), ((r 1), .inl (kT, 240, .inl fT)), ((r 18), .inl (kU, 2, .inl (fun _ => 0))), ((r 24), .inl (kL, 5, .inl (fun _ => 0))), ((r 32), .inl (kN, 208, .inl (fun _ => 0)))]) (w1 := []) hP hD [0, 3] [12, 13, 14, 15, 16] rfl rfl (by decide) (by decide) hk1 hFc (va_P_nil H1) va_D_nil
  generalize H1 = H at hP hS ⊢
  have hP : va_P (dC, dI) vwCl [((r 100), .inr (12, mF r 0 0 0 0 0 0 0 0 0 0 0 0 0 (-1) 1)), ((r 1), .inl (kT, 240, .inl fT)), ((r 18), .inl (kU, 2, .inl (fun _ => 0))), ((r 24), .inl (kL, 5, .inl (fun _ => 0))), ((r 32), .inl (kN, 208, .inl (fun _ => 0)))] H := hP
  have hD : va_D (fun q : Nat => s.heap.size ≤ q) [((r 100), .inr (12, mF r 0 0 0 0 0 0 0 0 0 0 0 0 0 (-1) 1)), ((r 1), .inl (kT, 240, .inl fT)), ((r 18), .inl (kU, 2, .inl (fun _ => 0))), ((r 24), .inl (kL, 5, .inl (fun _ => 0))), ((r 32), .inl (kN, 208, .inl (fun _ => 0)))] := hD
  refine W.widen (k := 335) (n := 33214) (Nat.le_of_ble_eq_true rfl) (Nat.le_of_ble_eq_true rfl) ?_
  obtain rfl : r_5 = (-1000000) := hw
  refine lv_aload_n hx hb dL_law_1249 rfl (lv_at hl 2 rfl) ?_
  refine lv_aload_n hx hb dL_law_1250 rfl (lv_at hl 0 rfl) ?_
  refine lv_iload hx hb dL_law_1251 (lv_at hl 4 rfl) ?_
  refine lv_iconst (v := 1) hx hb dL_law_1253 (by decide) ?_
  refine lv_iadd hx hb dL_law_1254 ?_
  refine lv_topi (fun v_6 e_6 => ?_)
  obtain rfl : v_6 = 1 := by rw [e_6]; decide
  refine va_sld hx hb hX hbl hbA hS (i := 1) (vp_in_nI (n := 1) (by decide) (by decide)) dL_law_1255 ?_
  refine lv_topi (fun v_7 e_7 => ?_)
  obtain rfl : v_7 = xs 1 := by rw [e_7]; exact congrArg xs (by decide)
  refine lv_aload_n hx hb dL_law_1256 rfl (lv_at hl 0 rfl) ?_
  refine lv_iload hx hb dL_law_1257 (lv_at hl 4 rfl) ?_
  refine lv_iconst (v := 2) hx hb dL_law_1259 (by decide) ?_
  refine lv_iadd hx hb dL_law_1260 ?_
  refine lv_topi (fun v_8 e_8 => ?_)
  obtain rfl : v_8 = 2 := by rw [e_8]; decide
  refine va_sld hx hb hX hbl hbA hS (i := 2) (vp_in_nI (n := 2) (by decide) (by decide)) dL_law_1261 ?_
  refine lv_topi (fun v_9 e_9 => ?_)
  obtain rfl : v_9 = xs 2 := by rw [e_9]; exact congrArg xs (by decide)
  have hPc := hP.sub (ws' := [((r 100), .inr (12, mF r 0 0 0 0 0 0 0 0 0 0 0 0 0 (-1) 1))]) [0] rfl
  have hDc := hD.sub (ws' := [((r 100), .inr (12, mF r 0 0 0 0 0 0 0 0 0 0 0 0 0 (-1) 1))]) [0] (by decide) rfl
  have hKc := hK.sub (tys' := []) [] rfl
  have hFc := va_free (wc := [((r 100), .inr (12, mF r 0 0 0 0 0 0 0 0 0 0 0 0 0 (-1) 1))]) hD hS hA [0] rfl
  refine va_calli (va_runV (As := [.int (xs 1), .int (xs 2)]) (rest := [.int (-1000000)]) ⟨hx, hb, hml, hown, hts⟩ (f_X12_draws l dC dI H.size r ((xs 1)) ((xs 2))) (cwV 2 hts g_f_L_law_f_X12_draws rfl rfl rfl (by decide +kernel) ⟨Nat.le_of_ble_eq_true rfl, Nat.le_of_ble_eq_true rfl⟩) ⟨cW_blind, va_recv hKc hPc (ci := 12) (q0 := 0) rfl rfl, fun U hU hW => ⟨rfl, cW_use hU hW hPc hKc hDc hG⟩⟩ rfl rfl hl.1 rfl (lv_room (Nat.le_of_ble_eq_true rfl)) dL_law_1262 ⟨Nat.le_of_ble_eq_true rfl, Nat.le_of_ble_eq_true rfl⟩) hS (fun q _ h => hFc q h) hFc (fun r_10 u t H1 locs ht hvm hw hB hz1 hk1 hS => ?_)
  obtain ⟨hP, hD⟩ := va_join (wr := [((r 1), .inl (kT, 240, .inl fT)), ((r 18), .inl (kU, 2, .inl (fun _ => 0))), ((r 24), .inl (kL, 5, .inl (fun _ => 0))), ((r 32), .inl (kN, 208, .inl (fun _ => 0)))]) (w1 := []) hP hD [0] [1, 2, 3, 4] rfl rfl (by decide) (by decide) hk1 hFc (va_P_nil H1) va_D_nil
  generalize H1 = H at hP hS ⊢
  have hP : va_P (dC, dI) vwCl [((r 1), .inl (kT, 240, .inl fT)), ((r 18), .inl (kU, 2, .inl (fun _ => 0))), ((r 24), .inl (kL, 5, .inl (fun _ => 0))), ((r 32), .inl (kN, 208, .inl (fun _ => 0)))] H := hP
  have hD : va_D (fun q : Nat => s.heap.size ≤ q) [((r 1), .inl (kT, 240, .inl fT)), ((r 18), .inl (kU, 2, .inl (fun _ => 0))), ((r 24), .inl (kL, 5, .inl (fun _ => 0))), ((r 32), .inl (kN, 208, .inl (fun _ => 0)))] := hD
  refine W.widen (k := 335) (n := 33214) (Nat.le_of_ble_eq_true rfl) (Nat.le_of_ble_eq_true rfl) ?_
  obtain rfl : r_10 = (-1000000) := hw
  refine lv_icmp_eq (tgt := 1629) hx hb dL_law_1265 (by decide) (fun c_11 => ?_) (fun c_11 => absurd (by decide) c_11)
  exact lc_exit C0 hS (by decide) (by decide) ls (lv_sub hl [0, 4] rfl)
set_option maxHeartbeats 4000000 in
set_option maxRecDepth 100000 in
theorem lc_31 {p : Program} {l : Launch} {e : Env} {s : State} {m : MethodId} {below : List Frame} {meth : Method} {c : Code} {b : Nat} {xs : Nat → Int32} {H : Heap} {locs : List Loc} {ls : Array Slot} {dC : Nat → ClassId} {dI : Nat → Nat → Nat} {sk sv : Nat → Nat} {s2 tz s3 : Nat} (q r : Nat → Nat) (kB : ClassId) (kR : ClassId) (kT : ClassId) (kU : ClassId) (kL : ClassId) (kN : ClassId) (fB fT : Nat → Int32) (qo : Nat) (hlt : l.stackTraces = false) (C0 : lw_At p s m meth c b 6 xs) (hG : gxP s) (hE : exP sk sv s2 tz (fun q : Nat => s.heap.size ≤ q) s s.heap) (hT : tP s3 (fun q : Nat => s.heap.size ≤ q) s s.heap) (hK : va_K (dC, dI) vwCl [(kB, .int), (kR, .int), (kT, .byte), (kU, .int), (kL, .int), (kN, .int)] s) (hP : va_P (dC, dI) vwCl (fwL q r kB kR kT kU kL kN fB fT) H) (hD : va_D (fun q : Nat => s.heap.size ≤ q) (fwL q r kB kR kT kU kL kN fB fT)) (hS : va_S (fun q : Nat => s.heap.size ≤ q) s.heap H locs) (hl : lv_has ls 7 [(0, .ref b), (1, .ref (q 15)), (2, .ref (r 100)), (3, .ref qo), (4, .int 0)]) : W p l e room_1 s m #[Value.ref b] below meth c H locs 335 33214 (lw_Z below #[Value.ref b] s) (F0 m 1270 ls []) := by
  obtain ⟨hx, hb, hr, hml, hown0, hts, hX, hbl, hlocks, hgv⟩ := id C0
  have hown : s.vm.findClass RL = some m.cls := hown0
  have hA : ∀ q : Nat, s.heap.size ≤ q → (fun q : Nat => s.heap.size ≤ q) q := fun _ h => h
  have hbA : ¬ (fun q : Nat => s.heap.size ≤ q) b := Nat.not_le.mpr hbl
  have hiX11 : ∀ w ∈ u_ws RX11 TX11 17, w ∈ lw_tbl := in_X11
  have hiX12 : ∀ w ∈ u_ws RX12 TX12 54, w ∈ lw_tbl := in_X12
  refine lv_aload_n hx hb dL_law_1270 rfl (lv_at hl 1 rfl) ?_
  refine lv_aload_n hx hb dL_law_1271 rfl (lv_at hl 0 rfl) ?_
  refine lv_iload hx hb dL_law_1272 (lv_at hl 4 rfl) ?_
  refine lv_iconst (v := 1) hx hb dL_law_1274 (by decide) ?_
  refine lv_iadd hx hb dL_law_1275 ?_
  refine lv_topi (fun v_1 e_1 => ?_)
  obtain rfl : v_1 = 1 := by rw [e_1]; decide
  refine va_sld hx hb hX hbl hbA hS (i := 1) (vp_in_nI (n := 1) (by decide) (by decide)) dL_law_1276 ?_
  refine lv_topi (fun v_2 e_2 => ?_)
  obtain rfl : v_2 = xs 1 := by rw [e_2]; exact congrArg xs (by decide)
  have hPc := hP.sub (ws' := [((q 15), .inr (11, xF q 0 1)), ((q 1), .inr (5, [.int 0, .int 0, .int 0, .int 0, .ref (q 20), .ref (q 21), .ref (q 22), .ref (q 23)]))]) [0, 3] rfl
  have hDc := hD.sub (ws' := [((q 15), .inr (11, xF q 0 1)), ((q 1), .inr (5, [.int 0, .int 0, .int 0, .int 0, .ref (q 20), .ref (q 21), .ref (q 22), .ref (q 23)]))]) [0, 3] (by decide) rfl
  have hKc := hK.sub (tys' := []) [] rfl
  have hFc := va_free (wc := [((q 15), .inr (11, xF q 0 1)), ((q 1), .inr (5, [.int 0, .int 0, .int 0, .int 0, .ref (q 20), .ref (q 21), .ref (q 22), .ref (q 23)]))]) hD hS hA [0, 3] rfl
  refine va_calli (va_runV (As := [.int (xs 1)]) (rest := []) ⟨hx, hb, hml, hown, hts⟩ (f_X11_goes l dC dI H.size q ((xs 1))) (cwV 1 hts g_f_L_law_f_X11_goes rfl rfl rfl (by decide +kernel) ⟨Nat.le_of_ble_eq_true rfl, Nat.le_of_ble_eq_true rfl⟩) ⟨cW_blind, va_recv hKc hPc (ci := 11) (q0 := 0) rfl rfl, fun U hU hW => ⟨rfl, cW_use hU hW hPc hKc hDc hG⟩⟩ rfl rfl hl.1 rfl (lv_room (Nat.le_of_ble_eq_true rfl)) dL_law_1277 ⟨Nat.le_of_ble_eq_true rfl, Nat.le_of_ble_eq_true rfl⟩) hS (fun q _ h => hFc q h) hFc (fun r_3 u t H1 locs ht hvm hw hB hz1 hk1 hS => ?_)
  obtain ⟨hP, hD⟩ := va_join (wr := [((r 100), .inr (12, mF r 0 0 0 0 0 0 0 0 0 0 0 0 0 (-1) 1)), ((r 1), .inl (kT, 240, .inl fT)), ((r 18), .inl (kU, 2, .inl (fun _ => 0))), ((r 24), .inl (kL, 5, .inl (fun _ => 0))), ((r 32), .inl (kN, 208, .inl (fun _ => 0)))]) (w1 := []) hP hD [0, 3] [12, 13, 14, 15, 16] rfl rfl (by decide) (by decide) hk1 hFc (va_P_nil H1) va_D_nil
  generalize H1 = H at hP hS ⊢
  have hP : va_P (dC, dI) vwCl [((r 100), .inr (12, mF r 0 0 0 0 0 0 0 0 0 0 0 0 0 (-1) 1)), ((r 1), .inl (kT, 240, .inl fT)), ((r 18), .inl (kU, 2, .inl (fun _ => 0))), ((r 24), .inl (kL, 5, .inl (fun _ => 0))), ((r 32), .inl (kN, 208, .inl (fun _ => 0)))] H := hP
  have hD : va_D (fun q : Nat => s.heap.size ≤ q) [((r 100), .inr (12, mF r 0 0 0 0 0 0 0 0 0 0 0 0 0 (-1) 1)), ((r 1), .inl (kT, 240, .inl fT)), ((r 18), .inl (kU, 2, .inl (fun _ => 0))), ((r 24), .inl (kL, 5, .inl (fun _ => 0))), ((r 32), .inl (kN, 208, .inl (fun _ => 0)))] := hD
  refine W.widen (k := 335) (n := 33214) (Nat.le_of_ble_eq_true rfl) (Nat.le_of_ble_eq_true rfl) ?_
  obtain rfl : r_3 = (-1) := hw
  refine lv_aload_n hx hb dL_law_1280 rfl (lv_at hl 2 rfl) ?_
  refine lv_aload_n hx hb dL_law_1281 rfl (lv_at hl 0 rfl) ?_
  refine lv_iload hx hb dL_law_1282 (lv_at hl 4 rfl) ?_
  refine lv_iconst (v := 1) hx hb dL_law_1284 (by decide) ?_
  refine lv_iadd hx hb dL_law_1285 ?_
  refine lv_topi (fun v_4 e_4 => ?_)
  obtain rfl : v_4 = 1 := by rw [e_4]; decide
  refine va_sld hx hb hX hbl hbA hS (i := 1) (vp_in_nI (n := 1) (by decide) (by decide)) dL_law_1286 ?_
  refine lv_topi (fun v_5 e_5 => ?_)
  obtain rfl : v_5 = xs 1 := by rw [e_5]; exact congrArg xs (by decide)
  have hPc := hP.sub (ws' := [((r 100), .inr (12, mF r 0 0 0 0 0 0 0 0 0 0 0 0 0 (-1) 1))]) [0] rfl
  have hDc := hD.sub (ws' := [((r 100), .inr (12, mF r 0 0 0 0 0 0 0 0 0 0 0 0 0 (-1) 1))]) [0] (by decide) rfl
  have hKc := hK.sub (tys' := []) [] rfl
  have hFc := va_free (wc := [((r 100), .inr (12, mF r 0 0 0 0 0 0 0 0 0 0 0 0 0 (-1) 1))]) hD hS hA [0] rfl
  refine va_calli (va_runV (As := [.int (xs 1)]) (rest := [.int (-1)]) ⟨hx, hb, hml, hown, hts⟩ (f_X12_goes l dC dI H.size r ((xs 1))) (cwV 1 hts g_f_L_law_f_X12_goes rfl rfl rfl (by decide +kernel) ⟨Nat.le_of_ble_eq_true rfl, Nat.le_of_ble_eq_true rfl⟩) ⟨cW_blind, va_recv hKc hPc (ci := 12) (q0 := 0) rfl rfl, fun U hU hW => ⟨rfl, cW_use hU hW hPc hKc hDc hG⟩⟩ rfl rfl hl.1 rfl (lv_room (Nat.le_of_ble_eq_true rfl)) dL_law_1287 ⟨Nat.le_of_ble_eq_true rfl, Nat.le_of_ble_eq_true rfl⟩) hS (fun q _ h => hFc q h) hFc (fun r_6 u t H1 locs ht hvm hw hB hz1 hk1 hS => ?_)
  obtain ⟨hP, hD⟩ := va_join (wr := [((r 1), .inl (kT, 240, .inl fT)), ((r 18), .inl (kU, 2, .inl (fun _ => 0))), ((r 24), .inl (kL, 5, .inl (fun _ => 0))), ((r 32), .inl (kN, 208, .inl (fun _ => 0)))]) (w1 := []) hP hD [0] [1, 2, 3, 4] rfl rfl (by decide) (by decide) hk1 hFc (va_P_nil H1) va_D_nil
  generalize H1 = H at hP hS ⊢
  have hP : va_P (dC, dI) vwCl [((r 1), .inl (kT, 240, .inl fT)), ((r 18), .inl (kU, 2, .inl (fun _ => 0))), ((r 24), .inl (kL, 5, .inl (fun _ => 0))), ((r 32), .inl (kN, 208, .inl (fun _ => 0)))] H := hP
  have hD : va_D (fun q : Nat => s.heap.size ≤ q) [((r 1), .inl (kT, 240, .inl fT)), ((r 18), .inl (kU, 2, .inl (fun _ => 0))), ((r 24), .inl (kL, 5, .inl (fun _ => 0))), ((r 32), .inl (kN, 208, .inl (fun _ => 0)))] := hD
  refine W.widen (k := 335) (n := 33214) (Nat.le_of_ble_eq_true rfl) (Nat.le_of_ble_eq_true rfl) ?_
  obtain rfl : r_6 = (-1) := hw
  refine lv_icmp_eq (tgt := 1629) hx hb dL_law_1290 (by decide) (fun c_7 => ?_) (fun c_7 => absurd (by decide) c_7)
  exact lc_exit C0 hS (by decide) (by decide) ls (lv_sub hl [0, 4] rfl)
set_option maxHeartbeats 4000000 in
set_option maxRecDepth 100000 in
theorem lc_32 {p : Program} {l : Launch} {e : Env} {s : State} {m : MethodId} {below : List Frame} {meth : Method} {c : Code} {b : Nat} {xs : Nat → Int32} {H : Heap} {locs : List Loc} {ls : Array Slot} {dC : Nat → ClassId} {dI : Nat → Nat → Nat} {sk sv : Nat → Nat} {s2 tz s3 : Nat} (q r : Nat → Nat) (kB : ClassId) (kR : ClassId) (kT : ClassId) (kU : ClassId) (kL : ClassId) (kN : ClassId) (fB fT : Nat → Int32) (qo : Nat) (hlt : l.stackTraces = false) (C0 : lw_At p s m meth c b 6 xs) (hG : gxP s) (hE : exP sk sv s2 tz (fun q : Nat => s.heap.size ≤ q) s s.heap) (hT : tP s3 (fun q : Nat => s.heap.size ≤ q) s s.heap) (hK : va_K (dC, dI) vwCl [(kB, .int), (kR, .int), (kT, .byte), (kU, .int), (kL, .int), (kN, .int)] s) (hP : va_P (dC, dI) vwCl (fwL q r kB kR kT kU kL kN fB fT) H) (hD : va_D (fun q : Nat => s.heap.size ≤ q) (fwL q r kB kR kT kU kL kN fB fT)) (hS : va_S (fun q : Nat => s.heap.size ≤ q) s.heap H locs) (hl : lv_has ls 7 [(0, .ref b), (1, .ref (q 15)), (2, .ref (r 100)), (3, .ref qo), (4, .int 0)]) : W p l e room_1 s m #[Value.ref b] below meth c H locs 335 33214 (lw_Z below #[Value.ref b] s) (F0 m 1295 ls []) := by
  obtain ⟨hx, hb, hr, hml, hown0, hts, hX, hbl, hlocks, hgv⟩ := id C0
  have hown : s.vm.findClass RL = some m.cls := hown0
  have hA : ∀ q : Nat, s.heap.size ≤ q → (fun q : Nat => s.heap.size ≤ q) q := fun _ h => h
  have hbA : ¬ (fun q : Nat => s.heap.size ≤ q) b := Nat.not_le.mpr hbl
  have hiX11 : ∀ w ∈ u_ws RX11 TX11 17, w ∈ lw_tbl := in_X11
  have hiX12 : ∀ w ∈ u_ws RX12 TX12 54, w ∈ lw_tbl := in_X12
  refine lv_aload_n hx hb dL_law_1295 rfl (lv_at hl 1 rfl) ?_
  refine lv_aload_n hx hb dL_law_1296 rfl (lv_at hl 0 rfl) ?_
  refine lv_iload hx hb dL_law_1297 (lv_at hl 4 rfl) ?_
  refine lv_iconst (v := 1) hx hb dL_law_1299 (by decide) ?_
  refine lv_iadd hx hb dL_law_1300 ?_
  refine lv_topi (fun v_1 e_1 => ?_)
  obtain rfl : v_1 = 1 := by rw [e_1]; decide
  refine va_sld hx hb hX hbl hbA hS (i := 1) (vp_in_nI (n := 1) (by decide) (by decide)) dL_law_1301 ?_
  refine lv_topi (fun v_2 e_2 => ?_)
  obtain rfl : v_2 = xs 1 := by rw [e_2]; exact congrArg xs (by decide)
  have hPc := hP.sub (ws' := [((q 15), .inr (11, xF q 0 1)), ((q 1), .inr (5, [.int 0, .int 0, .int 0, .int 0, .ref (q 20), .ref (q 21), .ref (q 22), .ref (q 23)]))]) [0, 3] rfl
  have hDc := hD.sub (ws' := [((q 15), .inr (11, xF q 0 1)), ((q 1), .inr (5, [.int 0, .int 0, .int 0, .int 0, .ref (q 20), .ref (q 21), .ref (q 22), .ref (q 23)]))]) [0, 3] (by decide) rfl
  have hKc := hK.sub (tys' := []) [] rfl
  have hFc := va_free (wc := [((q 15), .inr (11, xF q 0 1)), ((q 1), .inr (5, [.int 0, .int 0, .int 0, .int 0, .ref (q 20), .ref (q 21), .ref (q 22), .ref (q 23)]))]) hD hS hA [0, 3] rfl
  refine va_calli (va_runV (As := [.int (xs 1)]) (rest := []) ⟨hx, hb, hml, hown, hts⟩ (f_X11_goers l dC dI H.size q ((xs 1))) (cwV 1 hts g_f_L_law_f_X11_goers rfl rfl rfl (by decide +kernel) ⟨Nat.le_of_ble_eq_true rfl, Nat.le_of_ble_eq_true rfl⟩) ⟨cW_blind, va_recv hKc hPc (ci := 11) (q0 := 0) rfl rfl, fun U hU hW => ⟨rfl, cW_use hU hW hPc hKc hDc hG⟩⟩ rfl rfl hl.1 rfl (lv_room (Nat.le_of_ble_eq_true rfl)) dL_law_1302 ⟨Nat.le_of_ble_eq_true rfl, Nat.le_of_ble_eq_true rfl⟩) hS (fun q _ h => hFc q h) hFc (fun r_3 u t H1 locs ht hvm hw hB hz1 hk1 hS => ?_)
  obtain ⟨hP, hD⟩ := va_join (wr := [((r 100), .inr (12, mF r 0 0 0 0 0 0 0 0 0 0 0 0 0 (-1) 1)), ((r 1), .inl (kT, 240, .inl fT)), ((r 18), .inl (kU, 2, .inl (fun _ => 0))), ((r 24), .inl (kL, 5, .inl (fun _ => 0))), ((r 32), .inl (kN, 208, .inl (fun _ => 0)))]) (w1 := []) hP hD [0, 3] [12, 13, 14, 15, 16] rfl rfl (by decide) (by decide) hk1 hFc (va_P_nil H1) va_D_nil
  generalize H1 = H at hP hS ⊢
  have hP : va_P (dC, dI) vwCl [((r 100), .inr (12, mF r 0 0 0 0 0 0 0 0 0 0 0 0 0 (-1) 1)), ((r 1), .inl (kT, 240, .inl fT)), ((r 18), .inl (kU, 2, .inl (fun _ => 0))), ((r 24), .inl (kL, 5, .inl (fun _ => 0))), ((r 32), .inl (kN, 208, .inl (fun _ => 0)))] H := hP
  have hD : va_D (fun q : Nat => s.heap.size ≤ q) [((r 100), .inr (12, mF r 0 0 0 0 0 0 0 0 0 0 0 0 0 (-1) 1)), ((r 1), .inl (kT, 240, .inl fT)), ((r 18), .inl (kU, 2, .inl (fun _ => 0))), ((r 24), .inl (kL, 5, .inl (fun _ => 0))), ((r 32), .inl (kN, 208, .inl (fun _ => 0)))] := hD
  refine W.widen (k := 335) (n := 33214) (Nat.le_of_ble_eq_true rfl) (Nat.le_of_ble_eq_true rfl) ?_
  obtain rfl : r_3 = (-1) := hw
  refine lv_aload_n hx hb dL_law_1305 rfl (lv_at hl 2 rfl) ?_
  refine lv_aload_n hx hb dL_law_1306 rfl (lv_at hl 0 rfl) ?_
  refine lv_iload hx hb dL_law_1307 (lv_at hl 4 rfl) ?_
  refine lv_iconst (v := 1) hx hb dL_law_1309 (by decide) ?_
  refine lv_iadd hx hb dL_law_1310 ?_
  refine lv_topi (fun v_4 e_4 => ?_)
  obtain rfl : v_4 = 1 := by rw [e_4]; decide
  refine va_sld hx hb hX hbl hbA hS (i := 1) (vp_in_nI (n := 1) (by decide) (by decide)) dL_law_1311 ?_
  refine lv_topi (fun v_5 e_5 => ?_)
  obtain rfl : v_5 = xs 1 := by rw [e_5]; exact congrArg xs (by decide)
  have hPc := hP.sub (ws' := [((r 100), .inr (12, mF r 0 0 0 0 0 0 0 0 0 0 0 0 0 (-1) 1))]) [0] rfl
  have hDc := hD.sub (ws' := [((r 100), .inr (12, mF r 0 0 0 0 0 0 0 0 0 0 0 0 0 (-1) 1))]) [0] (by decide) rfl
  have hKc := hK.sub (tys' := []) [] rfl
  have hFc := va_free (wc := [((r 100), .inr (12, mF r 0 0 0 0 0 0 0 0 0 0 0 0 0 (-1) 1))]) hD hS hA [0] rfl
  refine va_calli (va_runV (As := [.int (xs 1)]) (rest := [.int (-1)]) ⟨hx, hb, hml, hown, hts⟩ (f_X12_goers l dC dI H.size r ((xs 1))) (cwV 1 hts g_f_L_law_f_X12_goers rfl rfl rfl (by decide +kernel) ⟨Nat.le_of_ble_eq_true rfl, Nat.le_of_ble_eq_true rfl⟩) ⟨cW_blind, va_recv hKc hPc (ci := 12) (q0 := 0) rfl rfl, fun U hU hW => ⟨rfl, cW_use hU hW hPc hKc hDc hG⟩⟩ rfl rfl hl.1 rfl (lv_room (Nat.le_of_ble_eq_true rfl)) dL_law_1312 ⟨Nat.le_of_ble_eq_true rfl, Nat.le_of_ble_eq_true rfl⟩) hS (fun q _ h => hFc q h) hFc (fun r_6 u t H1 locs ht hvm hw hB hz1 hk1 hS => ?_)
  obtain ⟨hP, hD⟩ := va_join (wr := [((r 1), .inl (kT, 240, .inl fT)), ((r 18), .inl (kU, 2, .inl (fun _ => 0))), ((r 24), .inl (kL, 5, .inl (fun _ => 0))), ((r 32), .inl (kN, 208, .inl (fun _ => 0)))]) (w1 := []) hP hD [0] [1, 2, 3, 4] rfl rfl (by decide) (by decide) hk1 hFc (va_P_nil H1) va_D_nil
  generalize H1 = H at hP hS ⊢
  have hP : va_P (dC, dI) vwCl [((r 1), .inl (kT, 240, .inl fT)), ((r 18), .inl (kU, 2, .inl (fun _ => 0))), ((r 24), .inl (kL, 5, .inl (fun _ => 0))), ((r 32), .inl (kN, 208, .inl (fun _ => 0)))] H := hP
  have hD : va_D (fun q : Nat => s.heap.size ≤ q) [((r 1), .inl (kT, 240, .inl fT)), ((r 18), .inl (kU, 2, .inl (fun _ => 0))), ((r 24), .inl (kL, 5, .inl (fun _ => 0))), ((r 32), .inl (kN, 208, .inl (fun _ => 0)))] := hD
  refine W.widen (k := 335) (n := 33214) (Nat.le_of_ble_eq_true rfl) (Nat.le_of_ble_eq_true rfl) ?_
  obtain rfl : r_6 = (-1) := hw
  refine lv_icmp_eq (tgt := 1629) hx hb dL_law_1315 (by decide) (fun c_7 => ?_) (fun c_7 => absurd (by decide) c_7)
  exact lc_exit C0 hS (by decide) (by decide) ls (lv_sub hl [0, 4] rfl)
set_option maxHeartbeats 4000000 in
set_option maxRecDepth 100000 in
theorem lc_33 {p : Program} {l : Launch} {e : Env} {s : State} {m : MethodId} {below : List Frame} {meth : Method} {c : Code} {b : Nat} {xs : Nat → Int32} {H : Heap} {locs : List Loc} {ls : Array Slot} {dC : Nat → ClassId} {dI : Nat → Nat → Nat} {sk sv : Nat → Nat} {s2 tz s3 : Nat} (q r : Nat → Nat) (kB : ClassId) (kR : ClassId) (kT : ClassId) (kU : ClassId) (kL : ClassId) (kN : ClassId) (fB fT : Nat → Int32) (qo : Nat) (hlt : l.stackTraces = false) (C0 : lw_At p s m meth c b 6 xs) (hG : gxP s) (hE : exP sk sv s2 tz (fun q : Nat => s.heap.size ≤ q) s s.heap) (hT : tP s3 (fun q : Nat => s.heap.size ≤ q) s s.heap) (hK : va_K (dC, dI) vwCl [(kB, .int), (kR, .int), (kT, .byte), (kU, .int), (kL, .int), (kN, .int)] s) (hP : va_P (dC, dI) vwCl (fwL q r kB kR kT kU kL kN fB fT) H) (hD : va_D (fun q : Nat => s.heap.size ≤ q) (fwL q r kB kR kT kU kL kN fB fT)) (hS : va_S (fun q : Nat => s.heap.size ≤ q) s.heap H locs) (hl : lv_has ls 7 [(0, .ref b), (1, .ref (q 15)), (2, .ref (r 100)), (3, .ref qo), (4, .int 0)]) : W p l e room_1 s m #[Value.ref b] below meth c H locs 335 33214 (lw_Z below #[Value.ref b] s) (F0 m 1320 ls []) := by
  obtain ⟨hx, hb, hr, hml, hown0, hts, hX, hbl, hlocks, hgv⟩ := id C0
  have hown : s.vm.findClass RL = some m.cls := hown0
  have hA : ∀ q : Nat, s.heap.size ≤ q → (fun q : Nat => s.heap.size ≤ q) q := fun _ h => h
  have hbA : ¬ (fun q : Nat => s.heap.size ≤ q) b := Nat.not_le.mpr hbl
  have hiX11 : ∀ w ∈ u_ws RX11 TX11 17, w ∈ lw_tbl := in_X11
  have hiX12 : ∀ w ∈ u_ws RX12 TX12 54, w ∈ lw_tbl := in_X12
  refine lv_aload_n hx hb dL_law_1320 rfl (lv_at hl 1 rfl) ?_
  refine lv_aload_n hx hb dL_law_1321 rfl (lv_at hl 0 rfl) ?_
  refine lv_iload hx hb dL_law_1322 (lv_at hl 4 rfl) ?_
  refine lv_iconst (v := 1) hx hb dL_law_1324 (by decide) ?_
  refine lv_iadd hx hb dL_law_1325 ?_
  refine lv_topi (fun v_1 e_1 => ?_)
  obtain rfl : v_1 = 1 := by rw [e_1]; decide
  refine va_sld hx hb hX hbl hbA hS (i := 1) (vp_in_nI (n := 1) (by decide) (by decide)) dL_law_1326 ?_
  refine lv_topi (fun v_2 e_2 => ?_)
  obtain rfl : v_2 = xs 1 := by rw [e_2]; exact congrArg xs (by decide)
  refine lv_aload_n hx hb dL_law_1327 rfl (lv_at hl 0 rfl) ?_
  refine lv_iload hx hb dL_law_1328 (lv_at hl 4 rfl) ?_
  refine lv_iconst (v := 2) hx hb dL_law_1330 (by decide) ?_
  refine lv_iadd hx hb dL_law_1331 ?_
  refine lv_topi (fun v_3 e_3 => ?_)
  obtain rfl : v_3 = 2 := by rw [e_3]; decide
  refine va_sld hx hb hX hbl hbA hS (i := 2) (vp_in_nI (n := 2) (by decide) (by decide)) dL_law_1332 ?_
  refine lv_topi (fun v_4 e_4 => ?_)
  obtain rfl : v_4 = xs 2 := by rw [e_4]; exact congrArg xs (by decide)
  refine lv_aload_n hx hb dL_law_1333 rfl (lv_at hl 0 rfl) ?_
  refine lv_iload hx hb dL_law_1334 (lv_at hl 4 rfl) ?_
  refine lv_iconst (v := 3) hx hb dL_law_1336 (by decide) ?_
  refine lv_iadd hx hb dL_law_1337 ?_
  refine lv_topi (fun v_5 e_5 => ?_)
  obtain rfl : v_5 = 3 := by rw [e_5]; decide
  refine va_sld hx hb hX hbl hbA hS (i := 3) (vp_in_nI (n := 3) (by decide) (by decide)) dL_law_1338 ?_
  refine lv_topi (fun v_6 e_6 => ?_)
  obtain rfl : v_6 = xs 3 := by rw [e_6]; exact congrArg xs (by decide)
  refine lv_aload_n hx hb dL_law_1339 rfl (lv_at hl 0 rfl) ?_
  refine lv_iload hx hb dL_law_1340 (lv_at hl 4 rfl) ?_
  refine lv_iconst (v := 4) hx hb dL_law_1342 (by decide) ?_
  refine lv_iadd hx hb dL_law_1343 ?_
  refine lv_topi (fun v_7 e_7 => ?_)
  obtain rfl : v_7 = 4 := by rw [e_7]; decide
  refine va_sld hx hb hX hbl hbA hS (i := 4) (vp_in_nI (n := 4) (by decide) (by decide)) dL_law_1344 ?_
  refine lv_topi (fun v_8 e_8 => ?_)
  obtain rfl : v_8 = xs 4 := by rw [e_8]; exact congrArg xs (by decide)
  refine lv_aload_n hx hb dL_law_1345 rfl (lv_at hl 0 rfl) ?_
  refine lv_iload hx hb dL_law_1346 (lv_at hl 4 rfl) ?_
  refine lv_iconst (v := 5) hx hb dL_law_1348 (by decide) ?_
  refine lv_iadd hx hb dL_law_1349 ?_
  refine lv_topi (fun v_9 e_9 => ?_)
  obtain rfl : v_9 = 5 := by rw [e_9]; decide
  refine va_sld hx hb hX hbl hbA hS (i := 5) (vp_in_nI (n := 5) (by decide) (by decide)) dL_law_1350 ?_
  refine lv_topi (fun v_10 e_10 => ?_)
  obtain rfl : v_10 = xs 5 := by rw [e_10]; exact congrArg xs (by decide)
  have hPc := hP.sub (ws' := [((q 15), .inr (11, xF q 0 1)), ((q 1), .inr (5, [.int 0, .int 0, .int 0, .int 0, .ref (q 20), .ref (q 21), .ref (q 22), .ref (q 23)]))]) [0, 3] rfl
  have hDc := hD.sub (ws' := [((q 15), .inr (11, xF q 0 1)), ((q 1), .inr (5, [.int 0, .int 0, .int 0, .int 0, .ref (q 20), .ref (q 21), .ref (q 22), .ref (q 23)]))]) [0, 3] (by decide) rfl
  have hKc := hK.sub (tys' := []) [] rfl
  have hFc := va_free (wc := [((q 15), .inr (11, xF q 0 1)), ((q 1), .inr (5, [.int 0, .int 0, .int 0, .int 0, .ref (q 20), .ref (q 21), .ref (q 22), .ref (q 23)]))]) hD hS hA [0, 3] rfl
  refine va_calli (va_runV (As := [.int (xs 1), .int (xs 2), .int (xs 3), .int (xs 4), .int (xs 5)]) (rest := []) ⟨hx, hb, hml, hown, hts⟩ (f_X11_game l dC dI H.size q ((xs 1)) ((xs 2)) ((xs 3)) ((xs 4)) ((xs 5))) (cwV 5 hts g_f_L_law_f_X11_game rfl rfl rfl (by decide +kernel) ⟨Nat.le_of_ble_eq_true rfl, Nat.le_of_ble_eq_true rfl⟩) ⟨cW_blind, va_recv hKc hPc (ci := 11) (q0 := 0) rfl rfl, fun U hU hW => ⟨rfl, cW_use hU hW hPc hKc hDc hG⟩⟩ rfl rfl hl.1 rfl (lv_room (Nat.le_of_ble_eq_true rfl)) dL_law_1351 ⟨Nat.le_of_ble_eq_true rfl, Nat.le_of_ble_eq_true rfl⟩) hS (fun q _ h => hFc q h) hFc (fun r_11 u t H1 locs ht hvm hw hB hz1 hk1 hS => ?_)
  obtain ⟨hP, hD⟩ := va_join (wr := [((r 100), .inr (12, mF r 0 0 0 0 0 0 0 0 0 0 0 0 0 (-1) 1)), ((r 1), .inl (kT, 240, .inl fT)), ((r 18), .inl (kU, 2, .inl (fun _ => 0))), ((r 24), .inl (kL, 5, .inl (fun _ => 0))), ((r 32), .inl (kN, 208, .inl (fun _ => 0)))]) (w1 := []) hP hD [0, 3] [12, 13, 14, 15, 16] rfl rfl (by decide) (by decide) hk1 hFc (va_P_nil H1) va_D_nil
  generalize H1 = H at hP hS ⊢
  have hP : va_P (dC, dI) vwCl [((r 100), .inr (12, mF r 0 0 0 0 0 0 0 0 0 0 0 0 0 (-1) 1)), ((r 1), .inl (kT, 240, .inl fT)), ((r 18), .inl (kU, 2, .inl (fun _ => 0))), ((r 24), .inl (kL, 5, .inl (fun _ => 0))), ((r 32), .inl (kN, 208, .inl (fun _ => 0)))] H := hP
  have hD : va_D (fun q : Nat => s.heap.size ≤ q) [((r 100), .inr (12, mF r 0 0 0 0 0 0 0 0 0 0 0 0 0 (-1) 1)), ((r 1), .inl (kT, 240, .inl fT)), ((r 18), .inl (kU, 2, .inl (fun _ => 0))), ((r 24), .inl (kL, 5, .inl (fun _ => 0))), ((r 32), .inl (kN, 208, .inl (fun _ => 0)))] := hD
  refine W.widen (k := 335) (n := 33214) (Nat.le_of_ble_eq_true rfl) (Nat.le_of_ble_eq_true rfl) ?_
  obtain rfl : r_11 = (-1000000) := hw
  refine lv_aload_n hx hb dL_law_1354 rfl (lv_at hl 2 rfl) ?_
  refine lv_aload_n hx hb dL_law_1355 rfl (lv_at hl 0 rfl) ?_
  refine lv_iload hx hb dL_law_1356 (lv_at hl 4 rfl) ?_
  refine lv_iconst (v := 1) hx hb dL_law_1358 (by decide) ?_
  refine lv_iadd hx hb dL_law_1359 ?_
  refine lv_topi (fun v_12 e_12 => ?_)
  obtain rfl : v_12 = 1 := by rw [e_12]; decide
  refine va_sld hx hb hX hbl hbA hS (i := 1) (vp_in_nI (n := 1) (by decide) (by decide)) dL_law_1360 ?_
  refine lv_topi (fun v_13 e_13 => ?_)
  obtain rfl : v_13 = xs 1 := by rw [e_13]; exact congrArg xs (by decide)
  refine lv_aload_n hx hb dL_law_1361 rfl (lv_at hl 0 rfl) ?_
  refine lv_iload hx hb dL_law_1362 (lv_at hl 4 rfl) ?_
  refine lv_iconst (v := 2) hx hb dL_law_1364 (by decide) ?_
  refine lv_iadd hx hb dL_law_1365 ?_
  refine lv_topi (fun v_14 e_14 => ?_)
  obtain rfl : v_14 = 2 := by rw [e_14]; decide
  refine va_sld hx hb hX hbl hbA hS (i := 2) (vp_in_nI (n := 2) (by decide) (by decide)) dL_law_1366 ?_
  refine lv_topi (fun v_15 e_15 => ?_)
  obtain rfl : v_15 = xs 2 := by rw [e_15]; exact congrArg xs (by decide)
  refine lv_aload_n hx hb dL_law_1367 rfl (lv_at hl 0 rfl) ?_
  refine lv_iload hx hb dL_law_1368 (lv_at hl 4 rfl) ?_
  refine lv_iconst (v := 3) hx hb dL_law_1370 (by decide) ?_
  refine lv_iadd hx hb dL_law_1371 ?_
  refine lv_topi (fun v_16 e_16 => ?_)
  obtain rfl : v_16 = 3 := by rw [e_16]; decide
  refine va_sld hx hb hX hbl hbA hS (i := 3) (vp_in_nI (n := 3) (by decide) (by decide)) dL_law_1372 ?_
  refine lv_topi (fun v_17 e_17 => ?_)
  obtain rfl : v_17 = xs 3 := by rw [e_17]; exact congrArg xs (by decide)
  refine lv_aload_n hx hb dL_law_1373 rfl (lv_at hl 0 rfl) ?_
  refine lv_iload hx hb dL_law_1374 (lv_at hl 4 rfl) ?_
  refine lv_iconst (v := 4) hx hb dL_law_1376 (by decide) ?_
  refine lv_iadd hx hb dL_law_1377 ?_
  refine lv_topi (fun v_18 e_18 => ?_)
  obtain rfl : v_18 = 4 := by rw [e_18]; decide
  refine va_sld hx hb hX hbl hbA hS (i := 4) (vp_in_nI (n := 4) (by decide) (by decide)) dL_law_1378 ?_
  refine lv_topi (fun v_19 e_19 => ?_)
  obtain rfl : v_19 = xs 4 := by rw [e_19]; exact congrArg xs (by decide)
  refine lv_aload_n hx hb dL_law_1379 rfl (lv_at hl 0 rfl) ?_
  refine lv_iload hx hb dL_law_1380 (lv_at hl 4 rfl) ?_
  refine lv_iconst (v := 5) hx hb dL_law_1382 (by decide) ?_
  refine lv_iadd hx hb dL_law_1383 ?_
  refine lv_topi (fun v_20 e_20 => ?_)
  obtain rfl : v_20 = 5 := by rw [e_20]; decide
  refine va_sld hx hb hX hbl hbA hS (i := 5) (vp_in_nI (n := 5) (by decide) (by decide)) dL_law_1384 ?_
  refine lv_topi (fun v_21 e_21 => ?_)
  obtain rfl : v_21 = xs 5 := by rw [e_21]; exact congrArg xs (by decide)
  have hPc := hP.sub (ws' := [((r 100), .inr (12, mF r 0 0 0 0 0 0 0 0 0 0 0 0 0 (-1) 1))]) [0] rfl
  have hDc := hD.sub (ws' := [((r 100), .inr (12, mF r 0 0 0 0 0 0 0 0 0 0 0 0 0 (-1) 1))]) [0] (by decide) rfl
  have hKc := hK.sub (tys' := []) [] rfl
  have hFc := va_free (wc := [((r 100), .inr (12, mF r 0 0 0 0 0 0 0 0 0 0 0 0 0 (-1) 1))]) hD hS hA [0] rfl
  refine va_calli (va_runV (As := [.int (xs 1), .int (xs 2), .int (xs 3), .int (xs 4), .int (xs 5)]) (rest := [.int (-1000000)]) ⟨hx, hb, hml, hown, hts⟩ (f_X12_game l dC dI H.size r ((xs 1)) ((xs 2)) ((xs 3)) ((xs 4)) ((xs 5))) (cwV 5 hts g_f_L_law_f_X12_game rfl rfl rfl (by decide +kernel) ⟨Nat.le_of_ble_eq_true rfl, Nat.le_of_ble_eq_true rfl⟩) ⟨cW_blind, va_recv hKc hPc (ci := 12) (q0 := 0) rfl rfl, fun U hU hW => ⟨rfl, cW_use hU hW hPc hKc hDc hG⟩⟩ rfl rfl hl.1 rfl (lv_room (Nat.le_of_ble_eq_true rfl)) dL_law_1385 ⟨Nat.le_of_ble_eq_true rfl, Nat.le_of_ble_eq_true rfl⟩) hS (fun q _ h => hFc q h) hFc (fun r_22 u t H1 locs ht hvm hw hB hz1 hk1 hS => ?_)
  obtain ⟨hP, hD⟩ := va_join (wr := [((r 1), .inl (kT, 240, .inl fT)), ((r 18), .inl (kU, 2, .inl (fun _ => 0))), ((r 24), .inl (kL, 5, .inl (fun _ => 0))), ((r 32), .inl (kN, 208, .inl (fun _ => 0)))]) (w1 := []) hP hD [0] [1, 2, 3, 4] rfl rfl (by decide) (by decide) hk1 hFc (va_P_nil H1) va_D_nil
  generalize H1 = H at hP hS ⊢
  have hP : va_P (dC, dI) vwCl [((r 1), .inl (kT, 240, .inl fT)), ((r 18), .inl (kU, 2, .inl (fun _ => 0))), ((r 24), .inl (kL, 5, .inl (fun _ => 0))), ((r 32), .inl (kN, 208, .inl (fun _ => 0)))] H := hP
  have hD : va_D (fun q : Nat => s.heap.size ≤ q) [((r 1), .inl (kT, 240, .inl fT)), ((r 18), .inl (kU, 2, .inl (fun _ => 0))), ((r 24), .inl (kL, 5, .inl (fun _ => 0))), ((r 32), .inl (kN, 208, .inl (fun _ => 0)))] := hD
  refine W.widen (k := 335) (n := 33214) (Nat.le_of_ble_eq_true rfl) (Nat.le_of_ble_eq_true rfl) ?_
  obtain rfl : r_22 = (-1000000) := hw
  refine lv_icmp_eq (tgt := 1629) hx hb dL_law_1388 (by decide) (fun c_23 => ?_) (fun c_23 => absurd (by decide) c_23)
  exact lc_exit C0 hS (by decide) (by decide) ls (lv_sub hl [0, 4] rfl)
set_option maxHeartbeats 4000000 in
set_option maxRecDepth 100000 in
theorem lc_34 {p : Program} {l : Launch} {e : Env} {s : State} {m : MethodId} {below : List Frame} {meth : Method} {c : Code} {b : Nat} {xs : Nat → Int32} {H : Heap} {locs : List Loc} {ls : Array Slot} {dC : Nat → ClassId} {dI : Nat → Nat → Nat} {sk sv : Nat → Nat} {s2 tz s3 : Nat} (q r : Nat → Nat) (kB : ClassId) (kR : ClassId) (kT : ClassId) (kU : ClassId) (kL : ClassId) (kN : ClassId) (fB fT : Nat → Int32) (qo : Nat) (hlt : l.stackTraces = false) (C0 : lw_At p s m meth c b 6 xs) (hG : gxP s) (hE : exP sk sv s2 tz (fun q : Nat => s.heap.size ≤ q) s s.heap) (hT : tP s3 (fun q : Nat => s.heap.size ≤ q) s s.heap) (hK : va_K (dC, dI) vwCl [(kB, .int), (kR, .int), (kT, .byte), (kU, .int), (kL, .int), (kN, .int)] s) (hP : va_P (dC, dI) vwCl (fwL q r kB kR kT kU kL kN fB fT) H) (hD : va_D (fun q : Nat => s.heap.size ≤ q) (fwL q r kB kR kT kU kL kN fB fT)) (hS : va_S (fun q : Nat => s.heap.size ≤ q) s.heap H locs) (hl : lv_has ls 7 [(0, .ref b), (1, .ref (q 15)), (2, .ref (r 100)), (3, .ref qo), (4, .int 0)]) : W p l e room_1 s m #[Value.ref b] below meth c H locs 335 33214 (lw_Z below #[Value.ref b] s) (F0 m 1393 ls []) := by
  obtain ⟨hx, hb, hr, hml, hown0, hts, hX, hbl, hlocks, hgv⟩ := id C0
  have hown : s.vm.findClass RL = some m.cls := hown0
  have hA : ∀ q : Nat, s.heap.size ≤ q → (fun q : Nat => s.heap.size ≤ q) q := fun _ h => h
  have hbA : ¬ (fun q : Nat => s.heap.size ≤ q) b := Nat.not_le.mpr hbl
  have hiX11 : ∀ w ∈ u_ws RX11 TX11 17, w ∈ lw_tbl := in_X11
  have hiX12 : ∀ w ∈ u_ws RX12 TX12 54, w ∈ lw_tbl := in_X12
  refine lv_aload_n hx hb dL_law_1393 rfl (lv_at hl 1 rfl) ?_
  refine lv_aload_n hx hb dL_law_1394 rfl (lv_at hl 0 rfl) ?_
  refine lv_iload hx hb dL_law_1395 (lv_at hl 4 rfl) ?_
  refine lv_iconst (v := 1) hx hb dL_law_1397 (by decide) ?_
  refine lv_iadd hx hb dL_law_1398 ?_
  refine lv_topi (fun v_1 e_1 => ?_)
  obtain rfl : v_1 = 1 := by rw [e_1]; decide
  refine va_sld hx hb hX hbl hbA hS (i := 1) (vp_in_nI (n := 1) (by decide) (by decide)) dL_law_1399 ?_
  refine lv_topi (fun v_2 e_2 => ?_)
  obtain rfl : v_2 = xs 1 := by rw [e_2]; exact congrArg xs (by decide)
  refine lv_aload_n hx hb dL_law_1400 rfl (lv_at hl 0 rfl) ?_
  refine lv_iload hx hb dL_law_1401 (lv_at hl 4 rfl) ?_
  refine lv_iconst (v := 2) hx hb dL_law_1403 (by decide) ?_
  refine lv_iadd hx hb dL_law_1404 ?_
  refine lv_topi (fun v_3 e_3 => ?_)
  obtain rfl : v_3 = 2 := by rw [e_3]; decide
  refine va_sld hx hb hX hbl hbA hS (i := 2) (vp_in_nI (n := 2) (by decide) (by decide)) dL_law_1405 ?_
  refine lv_topi (fun v_4 e_4 => ?_)
  obtain rfl : v_4 = xs 2 := by rw [e_4]; exact congrArg xs (by decide)
  refine lv_aload_n hx hb dL_law_1406 rfl (lv_at hl 0 rfl) ?_
  refine lv_iload hx hb dL_law_1407 (lv_at hl 4 rfl) ?_
  refine lv_iconst (v := 3) hx hb dL_law_1409 (by decide) ?_
  refine lv_iadd hx hb dL_law_1410 ?_
  refine lv_topi (fun v_5 e_5 => ?_)
  obtain rfl : v_5 = 3 := by rw [e_5]; decide
  refine va_sld hx hb hX hbl hbA hS (i := 3) (vp_in_nI (n := 3) (by decide) (by decide)) dL_law_1411 ?_
  refine lv_topi (fun v_6 e_6 => ?_)
  obtain rfl : v_6 = xs 3 := by rw [e_6]; exact congrArg xs (by decide)
  have hPc := hP.sub (ws' := [((q 15), .inr (11, xF q 0 1)), ((q 1), .inr (5, [.int 0, .int 0, .int 0, .int 0, .ref (q 20), .ref (q 21), .ref (q 22), .ref (q 23)]))]) [0, 3] rfl
  have hDc := hD.sub (ws' := [((q 15), .inr (11, xF q 0 1)), ((q 1), .inr (5, [.int 0, .int 0, .int 0, .int 0, .ref (q 20), .ref (q 21), .ref (q 22), .ref (q 23)]))]) [0, 3] (by decide) rfl
  have hKc := hK.sub (tys' := []) [] rfl
  have hFc := va_free (wc := [((q 15), .inr (11, xF q 0 1)), ((q 1), .inr (5, [.int 0, .int 0, .int 0, .int 0, .ref (q 20), .ref (q 21), .ref (q 22), .ref (q 23)]))]) hD hS hA [0, 3] rfl
  refine va_calli (va_runV (As := [.int (xs 1), .int (xs 2), .int (xs 3)]) (rest := []) ⟨hx, hb, hml, hown, hts⟩ (f_X11_rests l dC dI H.size q ((xs 1)) ((xs 2)) ((xs 3))) (cwV 3 hts g_f_L_law_f_X11_rests rfl rfl rfl (by decide +kernel) ⟨Nat.le_of_ble_eq_true rfl, Nat.le_of_ble_eq_true rfl⟩) ⟨cW_blind, va_recv hKc hPc (ci := 11) (q0 := 0) rfl rfl, fun U hU hW => ⟨rfl, cW_use hU hW hPc hKc hDc hG⟩⟩ rfl rfl hl.1 rfl (lv_room (Nat.le_of_ble_eq_true rfl)) dL_law_1412 ⟨Nat.le_of_ble_eq_true rfl, Nat.le_of_ble_eq_true rfl⟩) hS (fun q _ h => hFc q h) hFc (fun r_7 u t H1 locs ht hvm hw hB hz1 hk1 hS => ?_)
  obtain ⟨hP, hD⟩ := va_join (wr := [((r 100), .inr (12, mF r 0 0 0 0 0 0 0 0 0 0 0 0 0 (-1) 1)), ((r 1), .inl (kT, 240, .inl fT)), ((r 18), .inl (kU, 2, .inl (fun _ => 0))), ((r 24), .inl (kL, 5, .inl (fun _ => 0))), ((r 32), .inl (kN, 208, .inl (fun _ => 0)))]) (w1 := []) hP hD [0, 3] [12, 13, 14, 15, 16] rfl rfl (by decide) (by decide) hk1 hFc (va_P_nil H1) va_D_nil
  generalize H1 = H at hP hS ⊢
  have hP : va_P (dC, dI) vwCl [((r 100), .inr (12, mF r 0 0 0 0 0 0 0 0 0 0 0 0 0 (-1) 1)), ((r 1), .inl (kT, 240, .inl fT)), ((r 18), .inl (kU, 2, .inl (fun _ => 0))), ((r 24), .inl (kL, 5, .inl (fun _ => 0))), ((r 32), .inl (kN, 208, .inl (fun _ => 0)))] H := hP
  have hD : va_D (fun q : Nat => s.heap.size ≤ q) [((r 100), .inr (12, mF r 0 0 0 0 0 0 0 0 0 0 0 0 0 (-1) 1)), ((r 1), .inl (kT, 240, .inl fT)), ((r 18), .inl (kU, 2, .inl (fun _ => 0))), ((r 24), .inl (kL, 5, .inl (fun _ => 0))), ((r 32), .inl (kN, 208, .inl (fun _ => 0)))] := hD
  refine W.widen (k := 335) (n := 33214) (Nat.le_of_ble_eq_true rfl) (Nat.le_of_ble_eq_true rfl) ?_
  obtain rfl : r_7 = (-1) := hw
  refine lv_aload_n hx hb dL_law_1415 rfl (lv_at hl 2 rfl) ?_
  refine lv_aload_n hx hb dL_law_1416 rfl (lv_at hl 0 rfl) ?_
  refine lv_iload hx hb dL_law_1417 (lv_at hl 4 rfl) ?_
  refine lv_iconst (v := 1) hx hb dL_law_1419 (by decide) ?_
  refine lv_iadd hx hb dL_law_1420 ?_
  refine lv_topi (fun v_8 e_8 => ?_)
  obtain rfl : v_8 = 1 := by rw [e_8]; decide
  refine va_sld hx hb hX hbl hbA hS (i := 1) (vp_in_nI (n := 1) (by decide) (by decide)) dL_law_1421 ?_
  refine lv_topi (fun v_9 e_9 => ?_)
  obtain rfl : v_9 = xs 1 := by rw [e_9]; exact congrArg xs (by decide)
  refine lv_aload_n hx hb dL_law_1422 rfl (lv_at hl 0 rfl) ?_
  refine lv_iload hx hb dL_law_1423 (lv_at hl 4 rfl) ?_
  refine lv_iconst (v := 2) hx hb dL_law_1425 (by decide) ?_
  refine lv_iadd hx hb dL_law_1426 ?_
  refine lv_topi (fun v_10 e_10 => ?_)
  obtain rfl : v_10 = 2 := by rw [e_10]; decide
  refine va_sld hx hb hX hbl hbA hS (i := 2) (vp_in_nI (n := 2) (by decide) (by decide)) dL_law_1427 ?_
  refine lv_topi (fun v_11 e_11 => ?_)
  obtain rfl : v_11 = xs 2 := by rw [e_11]; exact congrArg xs (by decide)
  refine lv_aload_n hx hb dL_law_1428 rfl (lv_at hl 0 rfl) ?_
  refine lv_iload hx hb dL_law_1429 (lv_at hl 4 rfl) ?_
  refine lv_iconst (v := 3) hx hb dL_law_1431 (by decide) ?_
  refine lv_iadd hx hb dL_law_1432 ?_
  refine lv_topi (fun v_12 e_12 => ?_)
  obtain rfl : v_12 = 3 := by rw [e_12]; decide
  refine va_sld hx hb hX hbl hbA hS (i := 3) (vp_in_nI (n := 3) (by decide) (by decide)) dL_law_1433 ?_
  refine lv_topi (fun v_13 e_13 => ?_)
  obtain rfl : v_13 = xs 3 := by rw [e_13]; exact congrArg xs (by decide)
  have hPc := hP.sub (ws' := [((r 100), .inr (12, mF r 0 0 0 0 0 0 0 0 0 0 0 0 0 (-1) 1))]) [0] rfl
  have hDc := hD.sub (ws' := [((r 100), .inr (12, mF r 0 0 0 0 0 0 0 0 0 0 0 0 0 (-1) 1))]) [0] (by decide) rfl
  have hKc := hK.sub (tys' := []) [] rfl
  have hFc := va_free (wc := [((r 100), .inr (12, mF r 0 0 0 0 0 0 0 0 0 0 0 0 0 (-1) 1))]) hD hS hA [0] rfl
  refine va_calli (va_runV (As := [.int (xs 1), .int (xs 2), .int (xs 3)]) (rest := [.int (-1)]) ⟨hx, hb, hml, hown, hts⟩ (f_X12_rests l dC dI H.size r ((xs 1)) ((xs 2)) ((xs 3))) (cwV 3 hts g_f_L_law_f_X12_rests rfl rfl rfl (by decide +kernel) ⟨Nat.le_of_ble_eq_true rfl, Nat.le_of_ble_eq_true rfl⟩) ⟨cW_blind, va_recv hKc hPc (ci := 12) (q0 := 0) rfl rfl, fun U hU hW => ⟨rfl, cW_use hU hW hPc hKc hDc hG⟩⟩ rfl rfl hl.1 rfl (lv_room (Nat.le_of_ble_eq_true rfl)) dL_law_1434 ⟨Nat.le_of_ble_eq_true rfl, Nat.le_of_ble_eq_true rfl⟩) hS (fun q _ h => hFc q h) hFc (fun r_14 u t H1 locs ht hvm hw hB hz1 hk1 hS => ?_)
  obtain ⟨hP, hD⟩ := va_join (wr := [((r 1), .inl (kT, 240, .inl fT)), ((r 18), .inl (kU, 2, .inl (fun _ => 0))), ((r 24), .inl (kL, 5, .inl (fun _ => 0))), ((r 32), .inl (kN, 208, .inl (fun _ => 0)))]) (w1 := []) hP hD [0] [1, 2, 3, 4] rfl rfl (by decide) (by decide) hk1 hFc (va_P_nil H1) va_D_nil
  generalize H1 = H at hP hS ⊢
  have hP : va_P (dC, dI) vwCl [((r 1), .inl (kT, 240, .inl fT)), ((r 18), .inl (kU, 2, .inl (fun _ => 0))), ((r 24), .inl (kL, 5, .inl (fun _ => 0))), ((r 32), .inl (kN, 208, .inl (fun _ => 0)))] H := hP
  have hD : va_D (fun q : Nat => s.heap.size ≤ q) [((r 1), .inl (kT, 240, .inl fT)), ((r 18), .inl (kU, 2, .inl (fun _ => 0))), ((r 24), .inl (kL, 5, .inl (fun _ => 0))), ((r 32), .inl (kN, 208, .inl (fun _ => 0)))] := hD
  refine W.widen (k := 335) (n := 33214) (Nat.le_of_ble_eq_true rfl) (Nat.le_of_ble_eq_true rfl) ?_
  obtain rfl : r_14 = (-1) := hw
  refine lv_icmp_eq (tgt := 1629) hx hb dL_law_1437 (by decide) (fun c_15 => ?_) (fun c_15 => absurd (by decide) c_15)
  exact lc_exit C0 hS (by decide) (by decide) ls (lv_sub hl [0, 4] rfl)
set_option maxHeartbeats 4000000 in
set_option maxRecDepth 100000 in
theorem lc_35 {p : Program} {l : Launch} {e : Env} {s : State} {m : MethodId} {below : List Frame} {meth : Method} {c : Code} {b : Nat} {xs : Nat → Int32} {H : Heap} {locs : List Loc} {ls : Array Slot} {dC : Nat → ClassId} {dI : Nat → Nat → Nat} {sk sv : Nat → Nat} {s2 tz s3 : Nat} (q r : Nat → Nat) (kB : ClassId) (kR : ClassId) (kT : ClassId) (kU : ClassId) (kL : ClassId) (kN : ClassId) (fB fT : Nat → Int32) (qo : Nat) (hlt : l.stackTraces = false) (C0 : lw_At p s m meth c b 6 xs) (hG : gxP s) (hE : exP sk sv s2 tz (fun q : Nat => s.heap.size ≤ q) s s.heap) (hT : tP s3 (fun q : Nat => s.heap.size ≤ q) s s.heap) (hK : va_K (dC, dI) vwCl [(kB, .int), (kR, .int), (kT, .byte), (kU, .int), (kL, .int), (kN, .int)] s) (hP : va_P (dC, dI) vwCl (fwL q r kB kR kT kU kL kN fB fT) H) (hD : va_D (fun q : Nat => s.heap.size ≤ q) (fwL q r kB kR kT kU kL kN fB fT)) (hS : va_S (fun q : Nat => s.heap.size ≤ q) s.heap H locs) (hl : lv_has ls 7 [(0, .ref b), (1, .ref (q 15)), (2, .ref (r 100)), (3, .ref qo), (4, .int 0)]) : W p l e room_1 s m #[Value.ref b] below meth c H locs 335 33214 (lw_Z below #[Value.ref b] s) (F0 m 1442 ls []) := by
  obtain ⟨hx, hb, hr, hml, hown0, hts, hX, hbl, hlocks, hgv⟩ := id C0
  have hown : s.vm.findClass RL = some m.cls := hown0
  have hA : ∀ q : Nat, s.heap.size ≤ q → (fun q : Nat => s.heap.size ≤ q) q := fun _ h => h
  have hbA : ¬ (fun q : Nat => s.heap.size ≤ q) b := Nat.not_le.mpr hbl
  have hiX11 : ∀ w ∈ u_ws RX11 TX11 17, w ∈ lw_tbl := in_X11
  have hiX12 : ∀ w ∈ u_ws RX12 TX12 54, w ∈ lw_tbl := in_X12
  refine lv_aload_n hx hb dL_law_1442 rfl (lv_at hl 1 rfl) ?_
  refine lv_aload_n hx hb dL_law_1443 rfl (lv_at hl 0 rfl) ?_
  refine lv_iload hx hb dL_law_1444 (lv_at hl 4 rfl) ?_
  refine lv_iconst (v := 1) hx hb dL_law_1446 (by decide) ?_
  refine lv_iadd hx hb dL_law_1447 ?_
  refine lv_topi (fun v_1 e_1 => ?_)
  obtain rfl : v_1 = 1 := by rw [e_1]; decide
  refine va_sld hx hb hX hbl hbA hS (i := 1) (vp_in_nI (n := 1) (by decide) (by decide)) dL_law_1448 ?_
  refine lv_topi (fun v_2 e_2 => ?_)
  obtain rfl : v_2 = xs 1 := by rw [e_2]; exact congrArg xs (by decide)
  refine lv_aload_n hx hb dL_law_1449 rfl (lv_at hl 0 rfl) ?_
  refine lv_iload hx hb dL_law_1450 (lv_at hl 4 rfl) ?_
  refine lv_iconst (v := 2) hx hb dL_law_1452 (by decide) ?_
  refine lv_iadd hx hb dL_law_1453 ?_
  refine lv_topi (fun v_3 e_3 => ?_)
  obtain rfl : v_3 = 2 := by rw [e_3]; decide
  refine va_sld hx hb hX hbl hbA hS (i := 2) (vp_in_nI (n := 2) (by decide) (by decide)) dL_law_1454 ?_
  refine lv_topi (fun v_4 e_4 => ?_)
  obtain rfl : v_4 = xs 2 := by rw [e_4]; exact congrArg xs (by decide)
  have hPc := hP.sub (ws' := [((q 15), .inr (11, xF q 0 1)), ((q 1), .inr (5, [.int 0, .int 0, .int 0, .int 0, .ref (q 20), .ref (q 21), .ref (q 22), .ref (q 23)]))]) [0, 3] rfl
  have hDc := hD.sub (ws' := [((q 15), .inr (11, xF q 0 1)), ((q 1), .inr (5, [.int 0, .int 0, .int 0, .int 0, .ref (q 20), .ref (q 21), .ref (q 22), .ref (q 23)]))]) [0, 3] (by decide) rfl
  have hKc := hK.sub (tys' := []) [] rfl
  have hFc := va_free (wc := [((q 15), .inr (11, xF q 0 1)), ((q 1), .inr (5, [.int 0, .int 0, .int 0, .int 0, .ref (q 20), .ref (q 21), .ref (q 22), .ref (q 23)]))]) hD hS hA [0, 3] rfl
  refine va_calli (va_runV (As := [.int (xs 1), .int (xs 2)]) (rest := []) ⟨hx, hb, hml, hown, hts⟩ (f_X11_odds l dC dI H.size q ((xs 1)) ((xs 2))) (cwV 2 hts g_f_L_law_f_X11_odds rfl rfl rfl (by decide +kernel) ⟨Nat.le_of_ble_eq_true rfl, Nat.le_of_ble_eq_true rfl⟩) ⟨cW_blind, va_recv hKc hPc (ci := 11) (q0 := 0) rfl rfl, fun U hU hW => ⟨rfl, cW_use hU hW hPc hKc hDc hG⟩⟩ rfl rfl hl.1 rfl (lv_room (Nat.le_of_ble_eq_true rfl)) dL_law_1455 ⟨Nat.le_of_ble_eq_true rfl, Nat.le_of_ble_eq_true rfl⟩) hS (fun q _ h => hFc q h) hFc (fun r_5 u t H1 locs ht hvm hw hB hz1 hk1 hS => ?_)
  obtain ⟨hP, hD⟩ := va_join (wr := [((r 100), .inr (12, mF r 0 0 0 0 0 0 0 0 0 0 0 0 0 (-1) 1)), ((r 1), .inl (kT, 240, .inl fT)), ((r 18), .inl (kU, 2, .inl (fun _ => 0))), ((r 24), .inl (kL, 5, .inl (fun _ => 0))), ((r 32), .inl (kN, 208, .inl (fun _ => 0)))]) (w1 := []) hP hD [0, 3] [12, 13, 14, 15, 16] rfl rfl (by decide) (by decide) hk1 hFc (va_P_nil H1) va_D_nil
  generalize H1 = H at hP hS ⊢
  have hP : va_P (dC, dI) vwCl [((r 100), .inr (12, mF r 0 0 0 0 0 0 0 0 0 0 0 0 0 (-1) 1)), ((r 1), .inl (kT, 240, .inl fT)), ((r 18), .inl (kU, 2, .inl (fun _ => 0))), ((r 24), .inl (kL, 5, .inl (fun _ => 0))), ((r 32), .inl (kN, 208, .inl (fun _ => 0)))] H := hP
  have hD : va_D (fun q : Nat => s.heap.size ≤ q) [((r 100), .inr (12, mF r 0 0 0 0 0 0 0 0 0 0 0 0 0 (-1) 1)), ((r 1), .inl (kT, 240, .inl fT)), ((r 18), .inl (kU, 2, .inl (fun _ => 0))), ((r 24), .inl (kL, 5, .inl (fun _ => 0))), ((r 32), .inl (kN, 208, .inl (fun _ => 0)))] := hD
  refine W.widen (k := 335) (n := 33214) (Nat.le_of_ble_eq_true rfl) (Nat.le_of_ble_eq_true rfl) ?_
  obtain rfl : r_5 = (-1) := hw
  refine lv_aload_n hx hb dL_law_1458 rfl (lv_at hl 2 rfl) ?_
  refine lv_aload_n hx hb dL_law_1459 rfl (lv_at hl 0 rfl) ?_
  refine lv_iload hx hb dL_law_1460 (lv_at hl 4 rfl) ?_
  refine lv_iconst (v := 1) hx hb dL_law_1462 (by decide) ?_
  refine lv_iadd hx hb dL_law_1463 ?_
  refine lv_topi (fun v_6 e_6 => ?_)
  obtain rfl : v_6 = 1 := by rw [e_6]; decide
  refine va_sld hx hb hX hbl hbA hS (i := 1) (vp_in_nI (n := 1) (by decide) (by decide)) dL_law_1464 ?_
  refine lv_topi (fun v_7 e_7 => ?_)
  obtain rfl : v_7 = xs 1 := by rw [e_7]; exact congrArg xs (by decide)
  refine lv_aload_n hx hb dL_law_1465 rfl (lv_at hl 0 rfl) ?_
  refine lv_iload hx hb dL_law_1466 (lv_at hl 4 rfl) ?_
  refine lv_iconst (v := 2) hx hb dL_law_1468 (by decide) ?_
  refine lv_iadd hx hb dL_law_1469 ?_
  refine lv_topi (fun v_8 e_8 => ?_)
  obtain rfl : v_8 = 2 := by rw [e_8]; decide
  refine va_sld hx hb hX hbl hbA hS (i := 2) (vp_in_nI (n := 2) (by decide) (by decide)) dL_law_1470 ?_
  refine lv_topi (fun v_9 e_9 => ?_)
  obtain rfl : v_9 = xs 2 := by rw [e_9]; exact congrArg xs (by decide)
  have hPc := hP.sub (ws' := [((r 100), .inr (12, mF r 0 0 0 0 0 0 0 0 0 0 0 0 0 (-1) 1))]) [0] rfl
  have hDc := hD.sub (ws' := [((r 100), .inr (12, mF r 0 0 0 0 0 0 0 0 0 0 0 0 0 (-1) 1))]) [0] (by decide) rfl
  have hKc := hK.sub (tys' := []) [] rfl
  have hFc := va_free (wc := [((r 100), .inr (12, mF r 0 0 0 0 0 0 0 0 0 0 0 0 0 (-1) 1))]) hD hS hA [0] rfl
  refine va_calli (va_runV (As := [.int (xs 1), .int (xs 2)]) (rest := [.int (-1)]) ⟨hx, hb, hml, hown, hts⟩ (f_X12_odds l dC dI H.size r ((xs 1)) ((xs 2))) (cwV 2 hts g_f_L_law_f_X12_odds rfl rfl rfl (by decide +kernel) ⟨Nat.le_of_ble_eq_true rfl, Nat.le_of_ble_eq_true rfl⟩) ⟨cW_blind, va_recv hKc hPc (ci := 12) (q0 := 0) rfl rfl, fun U hU hW => ⟨rfl, cW_use hU hW hPc hKc hDc hG⟩⟩ rfl rfl hl.1 rfl (lv_room (Nat.le_of_ble_eq_true rfl)) dL_law_1471 ⟨Nat.le_of_ble_eq_true rfl, Nat.le_of_ble_eq_true rfl⟩) hS (fun q _ h => hFc q h) hFc (fun r_10 u t H1 locs ht hvm hw hB hz1 hk1 hS => ?_)
  obtain ⟨hP, hD⟩ := va_join (wr := [((r 1), .inl (kT, 240, .inl fT)), ((r 18), .inl (kU, 2, .inl (fun _ => 0))), ((r 24), .inl (kL, 5, .inl (fun _ => 0))), ((r 32), .inl (kN, 208, .inl (fun _ => 0)))]) (w1 := []) hP hD [0] [1, 2, 3, 4] rfl rfl (by decide) (by decide) hk1 hFc (va_P_nil H1) va_D_nil
  generalize H1 = H at hP hS ⊢
  have hP : va_P (dC, dI) vwCl [((r 1), .inl (kT, 240, .inl fT)), ((r 18), .inl (kU, 2, .inl (fun _ => 0))), ((r 24), .inl (kL, 5, .inl (fun _ => 0))), ((r 32), .inl (kN, 208, .inl (fun _ => 0)))] H := hP
  have hD : va_D (fun q : Nat => s.heap.size ≤ q) [((r 1), .inl (kT, 240, .inl fT)), ((r 18), .inl (kU, 2, .inl (fun _ => 0))), ((r 24), .inl (kL, 5, .inl (fun _ => 0))), ((r 32), .inl (kN, 208, .inl (fun _ => 0)))] := hD
  refine W.widen (k := 335) (n := 33214) (Nat.le_of_ble_eq_true rfl) (Nat.le_of_ble_eq_true rfl) ?_
  obtain rfl : r_10 = (-1) := hw
  refine lv_icmp_eq (tgt := 1629) hx hb dL_law_1474 (by decide) (fun c_11 => ?_) (fun c_11 => absurd (by decide) c_11)
  exact lc_exit C0 hS (by decide) (by decide) ls (lv_sub hl [0, 4] rfl)
