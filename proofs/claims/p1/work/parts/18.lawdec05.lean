theorem dL_law_1256 {nm : String} : pm_dec (mL_law nm) 1256 (.aload_n 0, 1) 1257 := ⟨(by decide +kernel : decode code 1256 = .ok (.aload_n 0, 1)), rfl⟩
theorem dL_law_1257 {nm : String} : pm_dec (mL_law nm) 1257 (.iload_n 3, 1) 1258 := ⟨(by decide +kernel : decode code 1257 = .ok (.iload_n 3, 1)), rfl⟩
theorem dL_law_1258 {nm : String} : pm_dec (mL_law nm) 1258 (.iconst 1, 1) 1259 := ⟨(by decide +kernel : decode code 1258 = .ok (.iconst 1, 1)), rfl⟩
theorem dL_law_1259 {nm : String} : pm_dec (mL_law nm) 1259 (.iadd, 1) 1260 := ⟨(by decide +kernel : decode code 1259 = .ok (.iadd, 1)), rfl⟩
theorem dL_law_1260 {nm : String} : pm_dec (mL_law nm) 1260 (.iaload, 1) 1261 := ⟨(by decide +kernel : decode code 1260 = .ok (.iaload, 1)), rfl⟩
theorem dL_law_1261 {nm : String} : pm_dec (mL_law nm) 1261 (.aload_n 0, 1) 1262 := ⟨(by decide +kernel : decode code 1261 = .ok (.aload_n 0, 1)), rfl⟩
theorem dL_law_1262 {nm : String} : pm_dec (mL_law nm) 1262 (.iload_n 3, 1) 1263 := ⟨(by decide +kernel : decode code 1262 = .ok (.iload_n 3, 1)), rfl⟩
theorem dL_law_1263 {nm : String} : pm_dec (mL_law nm) 1263 (.iconst 2, 1) 1264 := ⟨(by decide +kernel : decode code 1263 = .ok (.iconst 2, 1)), rfl⟩
theorem dL_law_1264 {nm : String} : pm_dec (mL_law nm) 1264 (.iadd, 1) 1265 := ⟨(by decide +kernel : decode code 1264 = .ok (.iadd, 1)), rfl⟩
theorem dL_law_1265 {nm : String} : pm_dec (mL_law nm) 1265 (.iaload, 1) 1266 := ⟨(by decide +kernel : decode code 1265 = .ok (.iaload, 1)), rfl⟩
theorem dL_law_1266 {nm : String} : pm_dec (mL_law nm) 1266 (.invokevirtual 137, 3) 1269 := ⟨(by decide +kernel : decode code 1266 = .ok (.invokevirtual 137, 3)), rfl⟩
theorem dL_law_1269 {nm : String} : pm_dec (mL_law nm) 1269 (.aload_n 2, 1) 1270 := ⟨(by decide +kernel : decode code 1269 = .ok (.aload_n 2, 1)), rfl⟩
theorem dL_law_1270 {nm : String} : pm_dec (mL_law nm) 1270 (.aload_n 0, 1) 1271 := ⟨(by decide +kernel : decode code 1270 = .ok (.aload_n 0, 1)), rfl⟩
theorem dL_law_1271 {nm : String} : pm_dec (mL_law nm) 1271 (.iload_n 3, 1) 1272 := ⟨(by decide +kernel : decode code 1271 = .ok (.iload_n 3, 1)), rfl⟩
theorem dL_law_1272 {nm : String} : pm_dec (mL_law nm) 1272 (.iconst 1, 1) 1273 := ⟨(by decide +kernel : decode code 1272 = .ok (.iconst 1, 1)), rfl⟩
theorem dL_law_1273 {nm : String} : pm_dec (mL_law nm) 1273 (.iadd, 1) 1274 := ⟨(by decide +kernel : decode code 1273 = .ok (.iadd, 1)), rfl⟩
theorem dL_law_1274 {nm : String} : pm_dec (mL_law nm) 1274 (.iaload, 1) 1275 := ⟨(by decide +kernel : decode code 1274 = .ok (.iaload, 1)), rfl⟩
theorem dL_law_1275 {nm : String} : pm_dec (mL_law nm) 1275 (.aload_n 0, 1) 1276 := ⟨(by decide +kernel : decode code 1275 = .ok (.aload_n 0, 1)), rfl⟩
theorem dL_law_1276 {nm : String} : pm_dec (mL_law nm) 1276 (.iload_n 3, 1) 1277 := ⟨(by decide +kernel : decode code 1276 = .ok (.iload_n 3, 1)), rfl⟩
theorem dL_law_1277 {nm : String} : pm_dec (mL_law nm) 1277 (.iconst 2, 1) 1278 := ⟨(by decide +kernel : decode code 1277 = .ok (.iconst 2, 1)), rfl⟩
theorem dL_law_1278 {nm : String} : pm_dec (mL_law nm) 1278 (.iadd, 1) 1279 := ⟨(by decide +kernel : decode code 1278 = .ok (.iadd, 1)), rfl⟩
theorem dL_law_1279 {nm : String} : pm_dec (mL_law nm) 1279 (.iaload, 1) 1280 := ⟨(by decide +kernel : decode code 1279 = .ok (.iaload, 1)), rfl⟩
theorem dL_law_1280 {nm : String} : pm_dec (mL_law nm) 1280 (.invokevirtual 140, 3) 1283 := ⟨(by decide +kernel : decode code 1280 = .ok (.invokevirtual 140, 3)), rfl⟩
theorem dL_law_1283 {nm : String} : pm_dec (mL_law nm) 1283 (.if_icmp .eq 822, 3) 1286 := ⟨(by decide +kernel : decode code 1283 = .ok (.if_icmp .eq 822, 3)), rfl⟩
theorem dL_law_1288 {nm : String} : pm_dec (mL_law nm) 1288 (.aload_n 1, 1) 1289 := ⟨(by decide +kernel : decode code 1288 = .ok (.aload_n 1, 1)), rfl⟩
theorem dL_law_1289 {nm : String} : pm_dec (mL_law nm) 1289 (.aload_n 0, 1) 1290 := ⟨(by decide +kernel : decode code 1289 = .ok (.aload_n 0, 1)), rfl⟩
theorem dL_law_1290 {nm : String} : pm_dec (mL_law nm) 1290 (.iload_n 3, 1) 1291 := ⟨(by decide +kernel : decode code 1290 = .ok (.iload_n 3, 1)), rfl⟩
theorem dL_law_1291 {nm : String} : pm_dec (mL_law nm) 1291 (.iconst 1, 1) 1292 := ⟨(by decide +kernel : decode code 1291 = .ok (.iconst 1, 1)), rfl⟩
theorem dL_law_1292 {nm : String} : pm_dec (mL_law nm) 1292 (.iadd, 1) 1293 := ⟨(by decide +kernel : decode code 1292 = .ok (.iadd, 1)), rfl⟩
theorem dL_law_1293 {nm : String} : pm_dec (mL_law nm) 1293 (.iaload, 1) 1294 := ⟨(by decide +kernel : decode code 1293 = .ok (.iaload, 1)), rfl⟩
theorem dL_law_1294 {nm : String} : pm_dec (mL_law nm) 1294 (.aload_n 0, 1) 1295 := ⟨(by decide +kernel : decode code 1294 = .ok (.aload_n 0, 1)), rfl⟩
theorem dL_law_1295 {nm : String} : pm_dec (mL_law nm) 1295 (.iload_n 3, 1) 1296 := ⟨(by decide +kernel : decode code 1295 = .ok (.iload_n 3, 1)), rfl⟩
theorem dL_law_1296 {nm : String} : pm_dec (mL_law nm) 1296 (.iconst 2, 1) 1297 := ⟨(by decide +kernel : decode code 1296 = .ok (.iconst 2, 1)), rfl⟩
theorem dL_law_1297 {nm : String} : pm_dec (mL_law nm) 1297 (.iadd, 1) 1298 := ⟨(by decide +kernel : decode code 1297 = .ok (.iadd, 1)), rfl⟩
theorem dL_law_1298 {nm : String} : pm_dec (mL_law nm) 1298 (.iaload, 1) 1299 := ⟨(by decide +kernel : decode code 1298 = .ok (.iaload, 1)), rfl⟩
theorem dL_law_1299 {nm : String} : pm_dec (mL_law nm) 1299 (.aload_n 0, 1) 1300 := ⟨(by decide +kernel : decode code 1299 = .ok (.aload_n 0, 1)), rfl⟩
theorem dL_law_1300 {nm : String} : pm_dec (mL_law nm) 1300 (.iload_n 3, 1) 1301 := ⟨(by decide +kernel : decode code 1300 = .ok (.iload_n 3, 1)), rfl⟩
theorem dL_law_1301 {nm : String} : pm_dec (mL_law nm) 1301 (.iconst 3, 1) 1302 := ⟨(by decide +kernel : decode code 1301 = .ok (.iconst 3, 1)), rfl⟩
theorem dL_law_1302 {nm : String} : pm_dec (mL_law nm) 1302 (.iadd, 1) 1303 := ⟨(by decide +kernel : decode code 1302 = .ok (.iadd, 1)), rfl⟩
theorem dL_law_1303 {nm : String} : pm_dec (mL_law nm) 1303 (.iaload, 1) 1304 := ⟨(by decide +kernel : decode code 1303 = .ok (.iaload, 1)), rfl⟩
theorem dL_law_1304 {nm : String} : pm_dec (mL_law nm) 1304 (.invokevirtual 141, 3) 1307 := ⟨(by decide +kernel : decode code 1304 = .ok (.invokevirtual 141, 3)), rfl⟩
theorem dL_law_1307 {nm : String} : pm_dec (mL_law nm) 1307 (.aload_n 2, 1) 1308 := ⟨(by decide +kernel : decode code 1307 = .ok (.aload_n 2, 1)), rfl⟩
theorem dL_law_1308 {nm : String} : pm_dec (mL_law nm) 1308 (.aload_n 0, 1) 1309 := ⟨(by decide +kernel : decode code 1308 = .ok (.aload_n 0, 1)), rfl⟩
theorem dL_law_1309 {nm : String} : pm_dec (mL_law nm) 1309 (.iload_n 3, 1) 1310 := ⟨(by decide +kernel : decode code 1309 = .ok (.iload_n 3, 1)), rfl⟩
theorem dL_law_1310 {nm : String} : pm_dec (mL_law nm) 1310 (.iconst 1, 1) 1311 := ⟨(by decide +kernel : decode code 1310 = .ok (.iconst 1, 1)), rfl⟩
theorem dL_law_1311 {nm : String} : pm_dec (mL_law nm) 1311 (.iadd, 1) 1312 := ⟨(by decide +kernel : decode code 1311 = .ok (.iadd, 1)), rfl⟩
theorem dL_law_1312 {nm : String} : pm_dec (mL_law nm) 1312 (.iaload, 1) 1313 := ⟨(by decide +kernel : decode code 1312 = .ok (.iaload, 1)), rfl⟩
theorem dL_law_1313 {nm : String} : pm_dec (mL_law nm) 1313 (.aload_n 0, 1) 1314 := ⟨(by decide +kernel : decode code 1313 = .ok (.aload_n 0, 1)), rfl⟩
theorem dL_law_1314 {nm : String} : pm_dec (mL_law nm) 1314 (.iload_n 3, 1) 1315 := ⟨(by decide +kernel : decode code 1314 = .ok (.iload_n 3, 1)), rfl⟩
theorem dL_law_1315 {nm : String} : pm_dec (mL_law nm) 1315 (.iconst 2, 1) 1316 := ⟨(by decide +kernel : decode code 1315 = .ok (.iconst 2, 1)), rfl⟩
theorem dL_law_1316 {nm : String} : pm_dec (mL_law nm) 1316 (.iadd, 1) 1317 := ⟨(by decide +kernel : decode code 1316 = .ok (.iadd, 1)), rfl⟩
theorem dL_law_1317 {nm : String} : pm_dec (mL_law nm) 1317 (.iaload, 1) 1318 := ⟨(by decide +kernel : decode code 1317 = .ok (.iaload, 1)), rfl⟩
theorem dL_law_1318 {nm : String} : pm_dec (mL_law nm) 1318 (.aload_n 0, 1) 1319 := ⟨(by decide +kernel : decode code 1318 = .ok (.aload_n 0, 1)), rfl⟩
theorem dL_law_1319 {nm : String} : pm_dec (mL_law nm) 1319 (.iload_n 3, 1) 1320 := ⟨(by decide +kernel : decode code 1319 = .ok (.iload_n 3, 1)), rfl⟩
theorem dL_law_1320 {nm : String} : pm_dec (mL_law nm) 1320 (.iconst 3, 1) 1321 := ⟨(by decide +kernel : decode code 1320 = .ok (.iconst 3, 1)), rfl⟩
theorem dL_law_1321 {nm : String} : pm_dec (mL_law nm) 1321 (.iadd, 1) 1322 := ⟨(by decide +kernel : decode code 1321 = .ok (.iadd, 1)), rfl⟩
theorem dL_law_1322 {nm : String} : pm_dec (mL_law nm) 1322 (.iaload, 1) 1323 := ⟨(by decide +kernel : decode code 1322 = .ok (.iaload, 1)), rfl⟩
theorem dL_law_1323 {nm : String} : pm_dec (mL_law nm) 1323 (.invokevirtual 144, 3) 1326 := ⟨(by decide +kernel : decode code 1323 = .ok (.invokevirtual 144, 3)), rfl⟩
theorem dL_law_1326 {nm : String} : pm_dec (mL_law nm) 1326 (.if_icmp .eq 779, 3) 1329 := ⟨(by decide +kernel : decode code 1326 = .ok (.if_icmp .eq 779, 3)), rfl⟩
theorem dL_law_1331 {nm : String} : pm_dec (mL_law nm) 1331 (.aload_n 1, 1) 1332 := ⟨(by decide +kernel : decode code 1331 = .ok (.aload_n 1, 1)), rfl⟩
theorem dL_law_1332 {nm : String} : pm_dec (mL_law nm) 1332 (.aload_n 0, 1) 1333 := ⟨(by decide +kernel : decode code 1332 = .ok (.aload_n 0, 1)), rfl⟩
theorem dL_law_1333 {nm : String} : pm_dec (mL_law nm) 1333 (.iload_n 3, 1) 1334 := ⟨(by decide +kernel : decode code 1333 = .ok (.iload_n 3, 1)), rfl⟩
theorem dL_law_1334 {nm : String} : pm_dec (mL_law nm) 1334 (.iconst 1, 1) 1335 := ⟨(by decide +kernel : decode code 1334 = .ok (.iconst 1, 1)), rfl⟩
theorem dL_law_1335 {nm : String} : pm_dec (mL_law nm) 1335 (.iadd, 1) 1336 := ⟨(by decide +kernel : decode code 1335 = .ok (.iadd, 1)), rfl⟩
theorem dL_law_1336 {nm : String} : pm_dec (mL_law nm) 1336 (.iaload, 1) 1337 := ⟨(by decide +kernel : decode code 1336 = .ok (.iaload, 1)), rfl⟩
theorem dL_law_1337 {nm : String} : pm_dec (mL_law nm) 1337 (.aload_n 0, 1) 1338 := ⟨(by decide +kernel : decode code 1337 = .ok (.aload_n 0, 1)), rfl⟩
theorem dL_law_1338 {nm : String} : pm_dec (mL_law nm) 1338 (.iload_n 3, 1) 1339 := ⟨(by decide +kernel : decode code 1338 = .ok (.iload_n 3, 1)), rfl⟩
theorem dL_law_1339 {nm : String} : pm_dec (mL_law nm) 1339 (.iconst 2, 1) 1340 := ⟨(by decide +kernel : decode code 1339 = .ok (.iconst 2, 1)), rfl⟩
theorem dL_law_1340 {nm : String} : pm_dec (mL_law nm) 1340 (.iadd, 1) 1341 := ⟨(by decide +kernel : decode code 1340 = .ok (.iadd, 1)), rfl⟩
theorem dL_law_1341 {nm : String} : pm_dec (mL_law nm) 1341 (.iaload, 1) 1342 := ⟨(by decide +kernel : decode code 1341 = .ok (.iaload, 1)), rfl⟩
theorem dL_law_1342 {nm : String} : pm_dec (mL_law nm) 1342 (.invokevirtual 145, 3) 1345 := ⟨(by decide +kernel : decode code 1342 = .ok (.invokevirtual 145, 3)), rfl⟩
theorem dL_law_1345 {nm : String} : pm_dec (mL_law nm) 1345 (.aload_n 2, 1) 1346 := ⟨(by decide +kernel : decode code 1345 = .ok (.aload_n 2, 1)), rfl⟩
theorem dL_law_1346 {nm : String} : pm_dec (mL_law nm) 1346 (.aload_n 0, 1) 1347 := ⟨(by decide +kernel : decode code 1346 = .ok (.aload_n 0, 1)), rfl⟩
theorem dL_law_1347 {nm : String} : pm_dec (mL_law nm) 1347 (.iload_n 3, 1) 1348 := ⟨(by decide +kernel : decode code 1347 = .ok (.iload_n 3, 1)), rfl⟩
theorem dL_law_1348 {nm : String} : pm_dec (mL_law nm) 1348 (.iconst 1, 1) 1349 := ⟨(by decide +kernel : decode code 1348 = .ok (.iconst 1, 1)), rfl⟩
theorem dL_law_1349 {nm : String} : pm_dec (mL_law nm) 1349 (.iadd, 1) 1350 := ⟨(by decide +kernel : decode code 1349 = .ok (.iadd, 1)), rfl⟩
theorem dL_law_1350 {nm : String} : pm_dec (mL_law nm) 1350 (.iaload, 1) 1351 := ⟨(by decide +kernel : decode code 1350 = .ok (.iaload, 1)), rfl⟩
theorem dL_law_1351 {nm : String} : pm_dec (mL_law nm) 1351 (.aload_n 0, 1) 1352 := ⟨(by decide +kernel : decode code 1351 = .ok (.aload_n 0, 1)), rfl⟩
theorem dL_law_1352 {nm : String} : pm_dec (mL_law nm) 1352 (.iload_n 3, 1) 1353 := ⟨(by decide +kernel : decode code 1352 = .ok (.iload_n 3, 1)), rfl⟩
theorem dL_law_1353 {nm : String} : pm_dec (mL_law nm) 1353 (.iconst 2, 1) 1354 := ⟨(by decide +kernel : decode code 1353 = .ok (.iconst 2, 1)), rfl⟩
theorem dL_law_1354 {nm : String} : pm_dec (mL_law nm) 1354 (.iadd, 1) 1355 := ⟨(by decide +kernel : decode code 1354 = .ok (.iadd, 1)), rfl⟩
theorem dL_law_1355 {nm : String} : pm_dec (mL_law nm) 1355 (.iaload, 1) 1356 := ⟨(by decide +kernel : decode code 1355 = .ok (.iaload, 1)), rfl⟩
theorem dL_law_1356 {nm : String} : pm_dec (mL_law nm) 1356 (.invokevirtual 148, 3) 1359 := ⟨(by decide +kernel : decode code 1356 = .ok (.invokevirtual 148, 3)), rfl⟩
theorem dL_law_1359 {nm : String} : pm_dec (mL_law nm) 1359 (.if_icmp .eq 746, 3) 1362 := ⟨(by decide +kernel : decode code 1359 = .ok (.if_icmp .eq 746, 3)), rfl⟩
theorem dL_law_1364 {nm : String} : pm_dec (mL_law nm) 1364 (.aload_n 1, 1) 1365 := ⟨(by decide +kernel : decode code 1364 = .ok (.aload_n 1, 1)), rfl⟩
theorem dL_law_1365 {nm : String} : pm_dec (mL_law nm) 1365 (.aload_n 0, 1) 1366 := ⟨(by decide +kernel : decode code 1365 = .ok (.aload_n 0, 1)), rfl⟩
theorem dL_law_1366 {nm : String} : pm_dec (mL_law nm) 1366 (.iload_n 3, 1) 1367 := ⟨(by decide +kernel : decode code 1366 = .ok (.iload_n 3, 1)), rfl⟩
theorem dL_law_1367 {nm : String} : pm_dec (mL_law nm) 1367 (.iconst 1, 1) 1368 := ⟨(by decide +kernel : decode code 1367 = .ok (.iconst 1, 1)), rfl⟩
theorem dL_law_1368 {nm : String} : pm_dec (mL_law nm) 1368 (.iadd, 1) 1369 := ⟨(by decide +kernel : decode code 1368 = .ok (.iadd, 1)), rfl⟩
theorem dL_law_1369 {nm : String} : pm_dec (mL_law nm) 1369 (.iaload, 1) 1370 := ⟨(by decide +kernel : decode code 1369 = .ok (.iaload, 1)), rfl⟩
theorem dL_law_1370 {nm : String} : pm_dec (mL_law nm) 1370 (.aload_n 0, 1) 1371 := ⟨(by decide +kernel : decode code 1370 = .ok (.aload_n 0, 1)), rfl⟩
theorem dL_law_1371 {nm : String} : pm_dec (mL_law nm) 1371 (.iload_n 3, 1) 1372 := ⟨(by decide +kernel : decode code 1371 = .ok (.iload_n 3, 1)), rfl⟩
theorem dL_law_1372 {nm : String} : pm_dec (mL_law nm) 1372 (.iconst 2, 1) 1373 := ⟨(by decide +kernel : decode code 1372 = .ok (.iconst 2, 1)), rfl⟩
theorem dL_law_1373 {nm : String} : pm_dec (mL_law nm) 1373 (.iadd, 1) 1374 := ⟨(by decide +kernel : decode code 1373 = .ok (.iadd, 1)), rfl⟩
theorem dL_law_1374 {nm : String} : pm_dec (mL_law nm) 1374 (.iaload, 1) 1375 := ⟨(by decide +kernel : decode code 1374 = .ok (.iaload, 1)), rfl⟩
theorem dL_law_1375 {nm : String} : pm_dec (mL_law nm) 1375 (.ifCond .eq 7, 3) 1378 := ⟨(by decide +kernel : decode code 1375 = .ok (.ifCond .eq 7, 3)), rfl⟩
theorem dL_law_1382 {nm : String} : pm_dec (mL_law nm) 1382 (.iconst 0, 1) 1383 := ⟨(by decide +kernel : decode code 1382 = .ok (.iconst 0, 1)), rfl⟩
theorem dL_law_1383 {nm : String} : pm_dec (mL_law nm) 1383 (.invokevirtual 149, 3) 1386 := ⟨(by decide +kernel : decode code 1383 = .ok (.invokevirtual 149, 3)), rfl⟩
theorem dL_law_1386 {nm : String} : pm_dec (mL_law nm) 1386 (.aload_n 2, 1) 1387 := ⟨(by decide +kernel : decode code 1386 = .ok (.aload_n 2, 1)), rfl⟩
theorem dL_law_1387 {nm : String} : pm_dec (mL_law nm) 1387 (.aload_n 0, 1) 1388 := ⟨(by decide +kernel : decode code 1387 = .ok (.aload_n 0, 1)), rfl⟩
theorem dL_law_1388 {nm : String} : pm_dec (mL_law nm) 1388 (.iload_n 3, 1) 1389 := ⟨(by decide +kernel : decode code 1388 = .ok (.iload_n 3, 1)), rfl⟩
theorem dL_law_1389 {nm : String} : pm_dec (mL_law nm) 1389 (.iconst 1, 1) 1390 := ⟨(by decide +kernel : decode code 1389 = .ok (.iconst 1, 1)), rfl⟩
theorem dL_law_1390 {nm : String} : pm_dec (mL_law nm) 1390 (.iadd, 1) 1391 := ⟨(by decide +kernel : decode code 1390 = .ok (.iadd, 1)), rfl⟩
theorem dL_law_1391 {nm : String} : pm_dec (mL_law nm) 1391 (.iaload, 1) 1392 := ⟨(by decide +kernel : decode code 1391 = .ok (.iaload, 1)), rfl⟩
theorem dL_law_1392 {nm : String} : pm_dec (mL_law nm) 1392 (.aload_n 0, 1) 1393 := ⟨(by decide +kernel : decode code 1392 = .ok (.aload_n 0, 1)), rfl⟩
theorem dL_law_1393 {nm : String} : pm_dec (mL_law nm) 1393 (.iload_n 3, 1) 1394 := ⟨(by decide +kernel : decode code 1393 = .ok (.iload_n 3, 1)), rfl⟩
theorem dL_law_1394 {nm : String} : pm_dec (mL_law nm) 1394 (.iconst 2, 1) 1395 := ⟨(by decide +kernel : decode code 1394 = .ok (.iconst 2, 1)), rfl⟩
theorem dL_law_1395 {nm : String} : pm_dec (mL_law nm) 1395 (.iadd, 1) 1396 := ⟨(by decide +kernel : decode code 1395 = .ok (.iadd, 1)), rfl⟩
theorem dL_law_1396 {nm : String} : pm_dec (mL_law nm) 1396 (.iaload, 1) 1397 := ⟨(by decide +kernel : decode code 1396 = .ok (.iaload, 1)), rfl⟩
theorem dL_law_1397 {nm : String} : pm_dec (mL_law nm) 1397 (.ifCond .eq 7, 3) 1400 := ⟨(by decide +kernel : decode code 1397 = .ok (.ifCond .eq 7, 3)), rfl⟩
theorem dL_law_1404 {nm : String} : pm_dec (mL_law nm) 1404 (.iconst 0, 1) 1405 := ⟨(by decide +kernel : decode code 1404 = .ok (.iconst 0, 1)), rfl⟩
theorem dL_law_1405 {nm : String} : pm_dec (mL_law nm) 1405 (.invokevirtual 153, 3) 1408 := ⟨(by decide +kernel : decode code 1405 = .ok (.invokevirtual 153, 3)), rfl⟩
theorem dL_law_1408 {nm : String} : pm_dec (mL_law nm) 1408 (.if_icmp .eq 697, 3) 1411 := ⟨(by decide +kernel : decode code 1408 = .ok (.if_icmp .eq 697, 3)), rfl⟩
theorem dL_law_1378 {nm : String} : pm_dec (mL_law nm) 1378 (.iconst 1, 1) 1379 := ⟨(by decide +kernel : decode code 1378 = .ok (.iconst 1, 1)), rfl⟩
theorem dL_law_1379 {nm : String} : pm_dec (mL_law nm) 1379 (.goto 4, 3) 1382 := ⟨(by decide +kernel : decode code 1379 = .ok (.goto 4, 3)), rfl⟩
theorem dL_law_1400 {nm : String} : pm_dec (mL_law nm) 1400 (.iconst 1, 1) 1401 := ⟨(by decide +kernel : decode code 1400 = .ok (.iconst 1, 1)), rfl⟩
theorem dL_law_1401 {nm : String} : pm_dec (mL_law nm) 1401 (.goto 4, 3) 1404 := ⟨(by decide +kernel : decode code 1401 = .ok (.goto 4, 3)), rfl⟩
theorem dL_law_1413 {nm : String} : pm_dec (mL_law nm) 1413 (.aload_n 1, 1) 1414 := ⟨(by decide +kernel : decode code 1413 = .ok (.aload_n 1, 1)), rfl⟩
theorem dL_law_1414 {nm : String} : pm_dec (mL_law nm) 1414 (.aload_n 0, 1) 1415 := ⟨(by decide +kernel : decode code 1414 = .ok (.aload_n 0, 1)), rfl⟩
theorem dL_law_1415 {nm : String} : pm_dec (mL_law nm) 1415 (.iload_n 3, 1) 1416 := ⟨(by decide +kernel : decode code 1415 = .ok (.iload_n 3, 1)), rfl⟩
theorem dL_law_1416 {nm : String} : pm_dec (mL_law nm) 1416 (.iconst 1, 1) 1417 := ⟨(by decide +kernel : decode code 1416 = .ok (.iconst 1, 1)), rfl⟩
theorem dL_law_1417 {nm : String} : pm_dec (mL_law nm) 1417 (.iadd, 1) 1418 := ⟨(by decide +kernel : decode code 1417 = .ok (.iadd, 1)), rfl⟩
theorem dL_law_1418 {nm : String} : pm_dec (mL_law nm) 1418 (.iaload, 1) 1419 := ⟨(by decide +kernel : decode code 1418 = .ok (.iaload, 1)), rfl⟩
theorem dL_law_1419 {nm : String} : pm_dec (mL_law nm) 1419 (.aload_n 0, 1) 1420 := ⟨(by decide +kernel : decode code 1419 = .ok (.aload_n 0, 1)), rfl⟩
theorem dL_law_1420 {nm : String} : pm_dec (mL_law nm) 1420 (.iload_n 3, 1) 1421 := ⟨(by decide +kernel : decode code 1420 = .ok (.iload_n 3, 1)), rfl⟩
theorem dL_law_1421 {nm : String} : pm_dec (mL_law nm) 1421 (.iconst 2, 1) 1422 := ⟨(by decide +kernel : decode code 1421 = .ok (.iconst 2, 1)), rfl⟩
theorem dL_law_1422 {nm : String} : pm_dec (mL_law nm) 1422 (.iadd, 1) 1423 := ⟨(by decide +kernel : decode code 1422 = .ok (.iadd, 1)), rfl⟩
theorem dL_law_1423 {nm : String} : pm_dec (mL_law nm) 1423 (.iaload, 1) 1424 := ⟨(by decide +kernel : decode code 1423 = .ok (.iaload, 1)), rfl⟩
theorem dL_law_1424 {nm : String} : pm_dec (mL_law nm) 1424 (.aload_n 0, 1) 1425 := ⟨(by decide +kernel : decode code 1424 = .ok (.aload_n 0, 1)), rfl⟩
theorem dL_law_1425 {nm : String} : pm_dec (mL_law nm) 1425 (.iload_n 3, 1) 1426 := ⟨(by decide +kernel : decode code 1425 = .ok (.iload_n 3, 1)), rfl⟩
theorem dL_law_1426 {nm : String} : pm_dec (mL_law nm) 1426 (.iconst 3, 1) 1427 := ⟨(by decide +kernel : decode code 1426 = .ok (.iconst 3, 1)), rfl⟩
theorem dL_law_1427 {nm : String} : pm_dec (mL_law nm) 1427 (.iadd, 1) 1428 := ⟨(by decide +kernel : decode code 1427 = .ok (.iadd, 1)), rfl⟩
theorem dL_law_1428 {nm : String} : pm_dec (mL_law nm) 1428 (.iaload, 1) 1429 := ⟨(by decide +kernel : decode code 1428 = .ok (.iaload, 1)), rfl⟩
theorem dL_law_1429 {nm : String} : pm_dec (mL_law nm) 1429 (.aload_n 0, 1) 1430 := ⟨(by decide +kernel : decode code 1429 = .ok (.aload_n 0, 1)), rfl⟩
theorem dL_law_1430 {nm : String} : pm_dec (mL_law nm) 1430 (.iload_n 3, 1) 1431 := ⟨(by decide +kernel : decode code 1430 = .ok (.iload_n 3, 1)), rfl⟩
theorem dL_law_1431 {nm : String} : pm_dec (mL_law nm) 1431 (.iconst 4, 1) 1432 := ⟨(by decide +kernel : decode code 1431 = .ok (.iconst 4, 1)), rfl⟩
theorem dL_law_1432 {nm : String} : pm_dec (mL_law nm) 1432 (.iadd, 1) 1433 := ⟨(by decide +kernel : decode code 1432 = .ok (.iadd, 1)), rfl⟩
theorem dL_law_1433 {nm : String} : pm_dec (mL_law nm) 1433 (.iaload, 1) 1434 := ⟨(by decide +kernel : decode code 1433 = .ok (.iaload, 1)), rfl⟩
theorem dL_law_1434 {nm : String} : pm_dec (mL_law nm) 1434 (.ifCond .eq 7, 3) 1437 := ⟨(by decide +kernel : decode code 1434 = .ok (.ifCond .eq 7, 3)), rfl⟩
theorem dL_law_1441 {nm : String} : pm_dec (mL_law nm) 1441 (.iconst 0, 1) 1442 := ⟨(by decide +kernel : decode code 1441 = .ok (.iconst 0, 1)), rfl⟩
theorem dL_law_1442 {nm : String} : pm_dec (mL_law nm) 1442 (.invokevirtual 154, 3) 1445 := ⟨(by decide +kernel : decode code 1442 = .ok (.invokevirtual 154, 3)), rfl⟩
theorem dL_law_1445 {nm : String} : pm_dec (mL_law nm) 1445 (.aload_n 2, 1) 1446 := ⟨(by decide +kernel : decode code 1445 = .ok (.aload_n 2, 1)), rfl⟩
theorem dL_law_1446 {nm : String} : pm_dec (mL_law nm) 1446 (.aload_n 0, 1) 1447 := ⟨(by decide +kernel : decode code 1446 = .ok (.aload_n 0, 1)), rfl⟩
theorem dL_law_1447 {nm : String} : pm_dec (mL_law nm) 1447 (.iload_n 3, 1) 1448 := ⟨(by decide +kernel : decode code 1447 = .ok (.iload_n 3, 1)), rfl⟩
theorem dL_law_1448 {nm : String} : pm_dec (mL_law nm) 1448 (.iconst 1, 1) 1449 := ⟨(by decide +kernel : decode code 1448 = .ok (.iconst 1, 1)), rfl⟩
theorem dL_law_1449 {nm : String} : pm_dec (mL_law nm) 1449 (.iadd, 1) 1450 := ⟨(by decide +kernel : decode code 1449 = .ok (.iadd, 1)), rfl⟩
theorem dL_law_1450 {nm : String} : pm_dec (mL_law nm) 1450 (.iaload, 1) 1451 := ⟨(by decide +kernel : decode code 1450 = .ok (.iaload, 1)), rfl⟩
theorem dL_law_1451 {nm : String} : pm_dec (mL_law nm) 1451 (.aload_n 0, 1) 1452 := ⟨(by decide +kernel : decode code 1451 = .ok (.aload_n 0, 1)), rfl⟩
theorem dL_law_1452 {nm : String} : pm_dec (mL_law nm) 1452 (.iload_n 3, 1) 1453 := ⟨(by decide +kernel : decode code 1452 = .ok (.iload_n 3, 1)), rfl⟩
theorem dL_law_1453 {nm : String} : pm_dec (mL_law nm) 1453 (.iconst 2, 1) 1454 := ⟨(by decide +kernel : decode code 1453 = .ok (.iconst 2, 1)), rfl⟩
