theorem dL_law_1222 {nm : String} : pm_dec (mL_law nm) 1222 (.aload_n 1, 1) 1223 := ⟨(by decide +kernel : decode code 1222 = .ok (.aload_n 1, 1)), rfl⟩
theorem dL_law_1223 {nm : String} : pm_dec (mL_law nm) 1223 (.aload_n 0, 1) 1224 := ⟨(by decide +kernel : decode code 1223 = .ok (.aload_n 0, 1)), rfl⟩
theorem dL_law_1224 {nm : String} : pm_dec (mL_law nm) 1224 (.iload_n 3, 1) 1225 := ⟨(by decide +kernel : decode code 1224 = .ok (.iload_n 3, 1)), rfl⟩
theorem dL_law_1225 {nm : String} : pm_dec (mL_law nm) 1225 (.iconst 1, 1) 1226 := ⟨(by decide +kernel : decode code 1225 = .ok (.iconst 1, 1)), rfl⟩
theorem dL_law_1226 {nm : String} : pm_dec (mL_law nm) 1226 (.iadd, 1) 1227 := ⟨(by decide +kernel : decode code 1226 = .ok (.iadd, 1)), rfl⟩
theorem dL_law_1227 {nm : String} : pm_dec (mL_law nm) 1227 (.iaload, 1) 1228 := ⟨(by decide +kernel : decode code 1227 = .ok (.iaload, 1)), rfl⟩
theorem dL_law_1228 {nm : String} : pm_dec (mL_law nm) 1228 (.aload_n 0, 1) 1229 := ⟨(by decide +kernel : decode code 1228 = .ok (.aload_n 0, 1)), rfl⟩
theorem dL_law_1229 {nm : String} : pm_dec (mL_law nm) 1229 (.iload_n 3, 1) 1230 := ⟨(by decide +kernel : decode code 1229 = .ok (.iload_n 3, 1)), rfl⟩
theorem dL_law_1230 {nm : String} : pm_dec (mL_law nm) 1230 (.iconst 2, 1) 1231 := ⟨(by decide +kernel : decode code 1230 = .ok (.iconst 2, 1)), rfl⟩
theorem dL_law_1231 {nm : String} : pm_dec (mL_law nm) 1231 (.iadd, 1) 1232 := ⟨(by decide +kernel : decode code 1231 = .ok (.iadd, 1)), rfl⟩
theorem dL_law_1232 {nm : String} : pm_dec (mL_law nm) 1232 (.iaload, 1) 1233 := ⟨(by decide +kernel : decode code 1232 = .ok (.iaload, 1)), rfl⟩
theorem dL_law_1233 {nm : String} : pm_dec (mL_law nm) 1233 (.invokevirtual 133, 3) 1236 := ⟨(by decide +kernel : decode code 1233 = .ok (.invokevirtual 133, 3)), rfl⟩
theorem dL_law_1236 {nm : String} : pm_dec (mL_law nm) 1236 (.pop, 1) 1237 := ⟨(by decide +kernel : decode code 1236 = .ok (.pop, 1)), rfl⟩
theorem dL_law_1237 {nm : String} : pm_dec (mL_law nm) 1237 (.aload_n 2, 1) 1238 := ⟨(by decide +kernel : decode code 1237 = .ok (.aload_n 2, 1)), rfl⟩
theorem dL_law_1238 {nm : String} : pm_dec (mL_law nm) 1238 (.aload_n 0, 1) 1239 := ⟨(by decide +kernel : decode code 1238 = .ok (.aload_n 0, 1)), rfl⟩
theorem dL_law_1239 {nm : String} : pm_dec (mL_law nm) 1239 (.iload_n 3, 1) 1240 := ⟨(by decide +kernel : decode code 1239 = .ok (.iload_n 3, 1)), rfl⟩
theorem dL_law_1240 {nm : String} : pm_dec (mL_law nm) 1240 (.iconst 1, 1) 1241 := ⟨(by decide +kernel : decode code 1240 = .ok (.iconst 1, 1)), rfl⟩
theorem dL_law_1241 {nm : String} : pm_dec (mL_law nm) 1241 (.iadd, 1) 1242 := ⟨(by decide +kernel : decode code 1241 = .ok (.iadd, 1)), rfl⟩
theorem dL_law_1242 {nm : String} : pm_dec (mL_law nm) 1242 (.iaload, 1) 1243 := ⟨(by decide +kernel : decode code 1242 = .ok (.iaload, 1)), rfl⟩
theorem dL_law_1243 {nm : String} : pm_dec (mL_law nm) 1243 (.aload_n 0, 1) 1244 := ⟨(by decide +kernel : decode code 1243 = .ok (.aload_n 0, 1)), rfl⟩
theorem dL_law_1244 {nm : String} : pm_dec (mL_law nm) 1244 (.iload_n 3, 1) 1245 := ⟨(by decide +kernel : decode code 1244 = .ok (.iload_n 3, 1)), rfl⟩
theorem dL_law_1245 {nm : String} : pm_dec (mL_law nm) 1245 (.iconst 2, 1) 1246 := ⟨(by decide +kernel : decode code 1245 = .ok (.iconst 2, 1)), rfl⟩
theorem dL_law_1246 {nm : String} : pm_dec (mL_law nm) 1246 (.iadd, 1) 1247 := ⟨(by decide +kernel : decode code 1246 = .ok (.iadd, 1)), rfl⟩
theorem dL_law_1247 {nm : String} : pm_dec (mL_law nm) 1247 (.iaload, 1) 1248 := ⟨(by decide +kernel : decode code 1247 = .ok (.iaload, 1)), rfl⟩
theorem dL_law_1248 {nm : String} : pm_dec (mL_law nm) 1248 (.invokevirtual 136, 3) 1251 := ⟨(by decide +kernel : decode code 1248 = .ok (.invokevirtual 136, 3)), rfl⟩
theorem dL_law_1251 {nm : String} : pm_dec (mL_law nm) 1251 (.pop, 1) 1252 := ⟨(by decide +kernel : decode code 1251 = .ok (.pop, 1)), rfl⟩
theorem dL_law_1252 {nm : String} : pm_dec (mL_law nm) 1252 (.goto 853, 3) 1255 := ⟨(by decide +kernel : decode code 1252 = .ok (.goto 853, 3)), rfl⟩
theorem dL_law_1255 {nm : String} : pm_dec (mL_law nm) 1255 (.aload_n 1, 1) 1256 := ⟨(by decide +kernel : decode code 1255 = .ok (.aload_n 1, 1)), rfl⟩
theorem dL_law_1256 {nm : String} : pm_dec (mL_law nm) 1256 (.aload_n 0, 1) 1257 := ⟨(by decide +kernel : decode code 1256 = .ok (.aload_n 0, 1)), rfl⟩
theorem dL_law_1257 {nm : String} : pm_dec (mL_law nm) 1257 (.iload_n 3, 1) 1258 := ⟨(by decide +kernel : decode code 1257 = .ok (.iload_n 3, 1)), rfl⟩
theorem dL_law_1258 {nm : String} : pm_dec (mL_law nm) 1258 (.iconst 1, 1) 1259 := ⟨(by decide +kernel : decode code 1258 = .ok (.iconst 1, 1)), rfl⟩
theorem dL_law_1259 {nm : String} : pm_dec (mL_law nm) 1259 (.iadd, 1) 1260 := ⟨(by decide +kernel : decode code 1259 = .ok (.iadd, 1)), rfl⟩
theorem dL_law_1260 {nm : String} : pm_dec (mL_law nm) 1260 (.iaload, 1) 1261 := ⟨(by decide +kernel : decode code 1260 = .ok (.iaload, 1)), rfl⟩
theorem dL_law_1261 {nm : String} : pm_dec (mL_law nm) 1261 (.aload_n 0, 1) 1262 := ⟨(by decide +kernel : decode code 1261 = .ok (.aload_n 0, 1)), rfl⟩
theorem dL_law_1262 {nm : String} : pm_dec (mL_law nm) 1262 (.iload_n 3, 1) 1263 := ⟨(by decide +kernel : decode code 1262 = .ok (.iload_n 3, 1)), rfl⟩
theorem dL_law_1263 {nm : String} : pm_dec (mL_law nm) 1263 (.iconst 2, 1) 1264 := ⟨(by decide +kernel : decode code 1263 = .ok (.iconst 2, 1)), rfl⟩
theorem dL_law_1264 {nm : String} : pm_dec (mL_law nm) 1264 (.iadd, 1) 1265 := ⟨(by decide +kernel : decode code 1264 = .ok (.iadd, 1)), rfl⟩
theorem dL_law_1265 {nm : String} : pm_dec (mL_law nm) 1265 (.iaload, 1) 1266 := ⟨(by decide +kernel : decode code 1265 = .ok (.iaload, 1)), rfl⟩
theorem dL_law_1266 {nm : String} : pm_dec (mL_law nm) 1266 (.invokevirtual 137, 3) 1269 := ⟨(by decide +kernel : decode code 1266 = .ok (.invokevirtual 137, 3)), rfl⟩
theorem dL_law_1269 {nm : String} : pm_dec (mL_law nm) 1269 (.pop, 1) 1270 := ⟨(by decide +kernel : decode code 1269 = .ok (.pop, 1)), rfl⟩
theorem dL_law_1270 {nm : String} : pm_dec (mL_law nm) 1270 (.aload_n 2, 1) 1271 := ⟨(by decide +kernel : decode code 1270 = .ok (.aload_n 2, 1)), rfl⟩
theorem dL_law_1271 {nm : String} : pm_dec (mL_law nm) 1271 (.aload_n 0, 1) 1272 := ⟨(by decide +kernel : decode code 1271 = .ok (.aload_n 0, 1)), rfl⟩
theorem dL_law_1272 {nm : String} : pm_dec (mL_law nm) 1272 (.iload_n 3, 1) 1273 := ⟨(by decide +kernel : decode code 1272 = .ok (.iload_n 3, 1)), rfl⟩
theorem dL_law_1273 {nm : String} : pm_dec (mL_law nm) 1273 (.iconst 1, 1) 1274 := ⟨(by decide +kernel : decode code 1273 = .ok (.iconst 1, 1)), rfl⟩
theorem dL_law_1274 {nm : String} : pm_dec (mL_law nm) 1274 (.iadd, 1) 1275 := ⟨(by decide +kernel : decode code 1274 = .ok (.iadd, 1)), rfl⟩
theorem dL_law_1275 {nm : String} : pm_dec (mL_law nm) 1275 (.iaload, 1) 1276 := ⟨(by decide +kernel : decode code 1275 = .ok (.iaload, 1)), rfl⟩
theorem dL_law_1276 {nm : String} : pm_dec (mL_law nm) 1276 (.aload_n 0, 1) 1277 := ⟨(by decide +kernel : decode code 1276 = .ok (.aload_n 0, 1)), rfl⟩
theorem dL_law_1277 {nm : String} : pm_dec (mL_law nm) 1277 (.iload_n 3, 1) 1278 := ⟨(by decide +kernel : decode code 1277 = .ok (.iload_n 3, 1)), rfl⟩
theorem dL_law_1278 {nm : String} : pm_dec (mL_law nm) 1278 (.iconst 2, 1) 1279 := ⟨(by decide +kernel : decode code 1278 = .ok (.iconst 2, 1)), rfl⟩
theorem dL_law_1279 {nm : String} : pm_dec (mL_law nm) 1279 (.iadd, 1) 1280 := ⟨(by decide +kernel : decode code 1279 = .ok (.iadd, 1)), rfl⟩
theorem dL_law_1280 {nm : String} : pm_dec (mL_law nm) 1280 (.iaload, 1) 1281 := ⟨(by decide +kernel : decode code 1280 = .ok (.iaload, 1)), rfl⟩
theorem dL_law_1281 {nm : String} : pm_dec (mL_law nm) 1281 (.invokevirtual 140, 3) 1284 := ⟨(by decide +kernel : decode code 1281 = .ok (.invokevirtual 140, 3)), rfl⟩
theorem dL_law_1284 {nm : String} : pm_dec (mL_law nm) 1284 (.pop, 1) 1285 := ⟨(by decide +kernel : decode code 1284 = .ok (.pop, 1)), rfl⟩
theorem dL_law_1285 {nm : String} : pm_dec (mL_law nm) 1285 (.goto 820, 3) 1288 := ⟨(by decide +kernel : decode code 1285 = .ok (.goto 820, 3)), rfl⟩
theorem dL_law_1288 {nm : String} : pm_dec (mL_law nm) 1288 (.aload_n 1, 1) 1289 := ⟨(by decide +kernel : decode code 1288 = .ok (.aload_n 1, 1)), rfl⟩
theorem dL_law_1289 {nm : String} : pm_dec (mL_law nm) 1289 (.aload_n 0, 1) 1290 := ⟨(by decide +kernel : decode code 1289 = .ok (.aload_n 0, 1)), rfl⟩
theorem dL_law_1290 {nm : String} : pm_dec (mL_law nm) 1290 (.iload_n 3, 1) 1291 := ⟨(by decide +kernel : decode code 1290 = .ok (.iload_n 3, 1)), rfl⟩
theorem dL_law_1291 {nm : String} : pm_dec (mL_law nm) 1291 (.iconst 1, 1) 1292 := ⟨(by decide +kernel : decode code 1291 = .ok (.iconst 1, 1)), rfl⟩
theorem dL_law_1292 {nm : String} : pm_dec (mL_law nm) 1292 (.iadd, 1) 1293 := ⟨(by decide +kernel : decode code 1292 = .ok (.iadd, 1)), rfl⟩
theorem dL_law_1293 {nm : String} : pm_dec (mL_law nm) 1293 (.iaload, 1) 1294 := ⟨(by decide +kernel : decode code 1293 = .ok (.iaload, 1)), rfl⟩
theorem dL_law_1294 {nm : String} : pm_dec (mL_law nm) 1294 (.aload_n 0, 1) 1295 := ⟨(by decide +kernel : decode code 1294 = .ok (.aload_n 0, 1)), rfl⟩
theorem dL_law_1295 {nm : String} : pm_dec (mL_law nm) 1295 (.iload_n 3, 1) 1296 := ⟨(by decide +kernel : decode code 1295 = .ok (.iload_n 3, 1)), rfl⟩
theorem dL_law_1296 {nm : String} : pm_dec (mL_law nm) 1296 (.iconst 2, 1) 1297 := ⟨(by decide +kernel : decode code 1296 = .ok (.iconst 2, 1)), rfl⟩
theorem dL_law_1297 {nm : String} : pm_dec (mL_law nm) 1297 (.iadd, 1) 1298 := ⟨(by decide +kernel : decode code 1297 = .ok (.iadd, 1)), rfl⟩
theorem dL_law_1298 {nm : String} : pm_dec (mL_law nm) 1298 (.iaload, 1) 1299 := ⟨(by decide +kernel : decode code 1298 = .ok (.iaload, 1)), rfl⟩
theorem dL_law_1299 {nm : String} : pm_dec (mL_law nm) 1299 (.aload_n 0, 1) 1300 := ⟨(by decide +kernel : decode code 1299 = .ok (.aload_n 0, 1)), rfl⟩
theorem dL_law_1300 {nm : String} : pm_dec (mL_law nm) 1300 (.iload_n 3, 1) 1301 := ⟨(by decide +kernel : decode code 1300 = .ok (.iload_n 3, 1)), rfl⟩
theorem dL_law_1301 {nm : String} : pm_dec (mL_law nm) 1301 (.iconst 3, 1) 1302 := ⟨(by decide +kernel : decode code 1301 = .ok (.iconst 3, 1)), rfl⟩
theorem dL_law_1302 {nm : String} : pm_dec (mL_law nm) 1302 (.iadd, 1) 1303 := ⟨(by decide +kernel : decode code 1302 = .ok (.iadd, 1)), rfl⟩
theorem dL_law_1303 {nm : String} : pm_dec (mL_law nm) 1303 (.iaload, 1) 1304 := ⟨(by decide +kernel : decode code 1303 = .ok (.iaload, 1)), rfl⟩
theorem dL_law_1304 {nm : String} : pm_dec (mL_law nm) 1304 (.invokevirtual 141, 3) 1307 := ⟨(by decide +kernel : decode code 1304 = .ok (.invokevirtual 141, 3)), rfl⟩
theorem dL_law_1307 {nm : String} : pm_dec (mL_law nm) 1307 (.pop, 1) 1308 := ⟨(by decide +kernel : decode code 1307 = .ok (.pop, 1)), rfl⟩
theorem dL_law_1308 {nm : String} : pm_dec (mL_law nm) 1308 (.aload_n 2, 1) 1309 := ⟨(by decide +kernel : decode code 1308 = .ok (.aload_n 2, 1)), rfl⟩
theorem dL_law_1309 {nm : String} : pm_dec (mL_law nm) 1309 (.aload_n 0, 1) 1310 := ⟨(by decide +kernel : decode code 1309 = .ok (.aload_n 0, 1)), rfl⟩
theorem dL_law_1310 {nm : String} : pm_dec (mL_law nm) 1310 (.iload_n 3, 1) 1311 := ⟨(by decide +kernel : decode code 1310 = .ok (.iload_n 3, 1)), rfl⟩
theorem dL_law_1311 {nm : String} : pm_dec (mL_law nm) 1311 (.iconst 1, 1) 1312 := ⟨(by decide +kernel : decode code 1311 = .ok (.iconst 1, 1)), rfl⟩
theorem dL_law_1312 {nm : String} : pm_dec (mL_law nm) 1312 (.iadd, 1) 1313 := ⟨(by decide +kernel : decode code 1312 = .ok (.iadd, 1)), rfl⟩
theorem dL_law_1313 {nm : String} : pm_dec (mL_law nm) 1313 (.iaload, 1) 1314 := ⟨(by decide +kernel : decode code 1313 = .ok (.iaload, 1)), rfl⟩
theorem dL_law_1314 {nm : String} : pm_dec (mL_law nm) 1314 (.aload_n 0, 1) 1315 := ⟨(by decide +kernel : decode code 1314 = .ok (.aload_n 0, 1)), rfl⟩
theorem dL_law_1315 {nm : String} : pm_dec (mL_law nm) 1315 (.iload_n 3, 1) 1316 := ⟨(by decide +kernel : decode code 1315 = .ok (.iload_n 3, 1)), rfl⟩
theorem dL_law_1316 {nm : String} : pm_dec (mL_law nm) 1316 (.iconst 2, 1) 1317 := ⟨(by decide +kernel : decode code 1316 = .ok (.iconst 2, 1)), rfl⟩
theorem dL_law_1317 {nm : String} : pm_dec (mL_law nm) 1317 (.iadd, 1) 1318 := ⟨(by decide +kernel : decode code 1317 = .ok (.iadd, 1)), rfl⟩
theorem dL_law_1318 {nm : String} : pm_dec (mL_law nm) 1318 (.iaload, 1) 1319 := ⟨(by decide +kernel : decode code 1318 = .ok (.iaload, 1)), rfl⟩
theorem dL_law_1319 {nm : String} : pm_dec (mL_law nm) 1319 (.aload_n 0, 1) 1320 := ⟨(by decide +kernel : decode code 1319 = .ok (.aload_n 0, 1)), rfl⟩
theorem dL_law_1320 {nm : String} : pm_dec (mL_law nm) 1320 (.iload_n 3, 1) 1321 := ⟨(by decide +kernel : decode code 1320 = .ok (.iload_n 3, 1)), rfl⟩
theorem dL_law_1321 {nm : String} : pm_dec (mL_law nm) 1321 (.iconst 3, 1) 1322 := ⟨(by decide +kernel : decode code 1321 = .ok (.iconst 3, 1)), rfl⟩
theorem dL_law_1322 {nm : String} : pm_dec (mL_law nm) 1322 (.iadd, 1) 1323 := ⟨(by decide +kernel : decode code 1322 = .ok (.iadd, 1)), rfl⟩
theorem dL_law_1323 {nm : String} : pm_dec (mL_law nm) 1323 (.iaload, 1) 1324 := ⟨(by decide +kernel : decode code 1323 = .ok (.iaload, 1)), rfl⟩
theorem dL_law_1324 {nm : String} : pm_dec (mL_law nm) 1324 (.invokevirtual 144, 3) 1327 := ⟨(by decide +kernel : decode code 1324 = .ok (.invokevirtual 144, 3)), rfl⟩
theorem dL_law_1327 {nm : String} : pm_dec (mL_law nm) 1327 (.pop, 1) 1328 := ⟨(by decide +kernel : decode code 1327 = .ok (.pop, 1)), rfl⟩
theorem dL_law_1328 {nm : String} : pm_dec (mL_law nm) 1328 (.goto 777, 3) 1331 := ⟨(by decide +kernel : decode code 1328 = .ok (.goto 777, 3)), rfl⟩
theorem dL_law_1331 {nm : String} : pm_dec (mL_law nm) 1331 (.aload_n 1, 1) 1332 := ⟨(by decide +kernel : decode code 1331 = .ok (.aload_n 1, 1)), rfl⟩
theorem dL_law_1332 {nm : String} : pm_dec (mL_law nm) 1332 (.aload_n 0, 1) 1333 := ⟨(by decide +kernel : decode code 1332 = .ok (.aload_n 0, 1)), rfl⟩
theorem dL_law_1333 {nm : String} : pm_dec (mL_law nm) 1333 (.iload_n 3, 1) 1334 := ⟨(by decide +kernel : decode code 1333 = .ok (.iload_n 3, 1)), rfl⟩
theorem dL_law_1334 {nm : String} : pm_dec (mL_law nm) 1334 (.iconst 1, 1) 1335 := ⟨(by decide +kernel : decode code 1334 = .ok (.iconst 1, 1)), rfl⟩
theorem dL_law_1335 {nm : String} : pm_dec (mL_law nm) 1335 (.iadd, 1) 1336 := ⟨(by decide +kernel : decode code 1335 = .ok (.iadd, 1)), rfl⟩
theorem dL_law_1336 {nm : String} : pm_dec (mL_law nm) 1336 (.iaload, 1) 1337 := ⟨(by decide +kernel : decode code 1336 = .ok (.iaload, 1)), rfl⟩
theorem dL_law_1337 {nm : String} : pm_dec (mL_law nm) 1337 (.aload_n 0, 1) 1338 := ⟨(by decide +kernel : decode code 1337 = .ok (.aload_n 0, 1)), rfl⟩
theorem dL_law_1338 {nm : String} : pm_dec (mL_law nm) 1338 (.iload_n 3, 1) 1339 := ⟨(by decide +kernel : decode code 1338 = .ok (.iload_n 3, 1)), rfl⟩
theorem dL_law_1339 {nm : String} : pm_dec (mL_law nm) 1339 (.iconst 2, 1) 1340 := ⟨(by decide +kernel : decode code 1339 = .ok (.iconst 2, 1)), rfl⟩
theorem dL_law_1340 {nm : String} : pm_dec (mL_law nm) 1340 (.iadd, 1) 1341 := ⟨(by decide +kernel : decode code 1340 = .ok (.iadd, 1)), rfl⟩
theorem dL_law_1341 {nm : String} : pm_dec (mL_law nm) 1341 (.iaload, 1) 1342 := ⟨(by decide +kernel : decode code 1341 = .ok (.iaload, 1)), rfl⟩
theorem dL_law_1342 {nm : String} : pm_dec (mL_law nm) 1342 (.invokevirtual 145, 3) 1345 := ⟨(by decide +kernel : decode code 1342 = .ok (.invokevirtual 145, 3)), rfl⟩
theorem dL_law_1345 {nm : String} : pm_dec (mL_law nm) 1345 (.pop, 1) 1346 := ⟨(by decide +kernel : decode code 1345 = .ok (.pop, 1)), rfl⟩
theorem dL_law_1346 {nm : String} : pm_dec (mL_law nm) 1346 (.aload_n 2, 1) 1347 := ⟨(by decide +kernel : decode code 1346 = .ok (.aload_n 2, 1)), rfl⟩
theorem dL_law_1347 {nm : String} : pm_dec (mL_law nm) 1347 (.aload_n 0, 1) 1348 := ⟨(by decide +kernel : decode code 1347 = .ok (.aload_n 0, 1)), rfl⟩
theorem dL_law_1348 {nm : String} : pm_dec (mL_law nm) 1348 (.iload_n 3, 1) 1349 := ⟨(by decide +kernel : decode code 1348 = .ok (.iload_n 3, 1)), rfl⟩
theorem dL_law_1349 {nm : String} : pm_dec (mL_law nm) 1349 (.iconst 1, 1) 1350 := ⟨(by decide +kernel : decode code 1349 = .ok (.iconst 1, 1)), rfl⟩
theorem dL_law_1350 {nm : String} : pm_dec (mL_law nm) 1350 (.iadd, 1) 1351 := ⟨(by decide +kernel : decode code 1350 = .ok (.iadd, 1)), rfl⟩
theorem dL_law_1351 {nm : String} : pm_dec (mL_law nm) 1351 (.iaload, 1) 1352 := ⟨(by decide +kernel : decode code 1351 = .ok (.iaload, 1)), rfl⟩
theorem dL_law_1352 {nm : String} : pm_dec (mL_law nm) 1352 (.aload_n 0, 1) 1353 := ⟨(by decide +kernel : decode code 1352 = .ok (.aload_n 0, 1)), rfl⟩
theorem dL_law_1353 {nm : String} : pm_dec (mL_law nm) 1353 (.iload_n 3, 1) 1354 := ⟨(by decide +kernel : decode code 1353 = .ok (.iload_n 3, 1)), rfl⟩
theorem dL_law_1354 {nm : String} : pm_dec (mL_law nm) 1354 (.iconst 2, 1) 1355 := ⟨(by decide +kernel : decode code 1354 = .ok (.iconst 2, 1)), rfl⟩
theorem dL_law_1355 {nm : String} : pm_dec (mL_law nm) 1355 (.iadd, 1) 1356 := ⟨(by decide +kernel : decode code 1355 = .ok (.iadd, 1)), rfl⟩
theorem dL_law_1356 {nm : String} : pm_dec (mL_law nm) 1356 (.iaload, 1) 1357 := ⟨(by decide +kernel : decode code 1356 = .ok (.iaload, 1)), rfl⟩
theorem dL_law_1357 {nm : String} : pm_dec (mL_law nm) 1357 (.invokevirtual 148, 3) 1360 := ⟨(by decide +kernel : decode code 1357 = .ok (.invokevirtual 148, 3)), rfl⟩
theorem dL_law_1360 {nm : String} : pm_dec (mL_law nm) 1360 (.pop, 1) 1361 := ⟨(by decide +kernel : decode code 1360 = .ok (.pop, 1)), rfl⟩
theorem dL_law_1361 {nm : String} : pm_dec (mL_law nm) 1361 (.goto 744, 3) 1364 := ⟨(by decide +kernel : decode code 1361 = .ok (.goto 744, 3)), rfl⟩
theorem dL_law_1364 {nm : String} : pm_dec (mL_law nm) 1364 (.aload_n 1, 1) 1365 := ⟨(by decide +kernel : decode code 1364 = .ok (.aload_n 1, 1)), rfl⟩
theorem dL_law_1365 {nm : String} : pm_dec (mL_law nm) 1365 (.aload_n 0, 1) 1366 := ⟨(by decide +kernel : decode code 1365 = .ok (.aload_n 0, 1)), rfl⟩
theorem dL_law_1366 {nm : String} : pm_dec (mL_law nm) 1366 (.iload_n 3, 1) 1367 := ⟨(by decide +kernel : decode code 1366 = .ok (.iload_n 3, 1)), rfl⟩
theorem dL_law_1367 {nm : String} : pm_dec (mL_law nm) 1367 (.iconst 1, 1) 1368 := ⟨(by decide +kernel : decode code 1367 = .ok (.iconst 1, 1)), rfl⟩
theorem dL_law_1368 {nm : String} : pm_dec (mL_law nm) 1368 (.iadd, 1) 1369 := ⟨(by decide +kernel : decode code 1368 = .ok (.iadd, 1)), rfl⟩
theorem dL_law_1369 {nm : String} : pm_dec (mL_law nm) 1369 (.iaload, 1) 1370 := ⟨(by decide +kernel : decode code 1369 = .ok (.iaload, 1)), rfl⟩
theorem dL_law_1370 {nm : String} : pm_dec (mL_law nm) 1370 (.aload_n 0, 1) 1371 := ⟨(by decide +kernel : decode code 1370 = .ok (.aload_n 0, 1)), rfl⟩
theorem dL_law_1371 {nm : String} : pm_dec (mL_law nm) 1371 (.iload_n 3, 1) 1372 := ⟨(by decide +kernel : decode code 1371 = .ok (.iload_n 3, 1)), rfl⟩
theorem dL_law_1372 {nm : String} : pm_dec (mL_law nm) 1372 (.iconst 2, 1) 1373 := ⟨(by decide +kernel : decode code 1372 = .ok (.iconst 2, 1)), rfl⟩
theorem dL_law_1373 {nm : String} : pm_dec (mL_law nm) 1373 (.iadd, 1) 1374 := ⟨(by decide +kernel : decode code 1373 = .ok (.iadd, 1)), rfl⟩
theorem dL_law_1374 {nm : String} : pm_dec (mL_law nm) 1374 (.iaload, 1) 1375 := ⟨(by decide +kernel : decode code 1374 = .ok (.iaload, 1)), rfl⟩
theorem dL_law_1375 {nm : String} : pm_dec (mL_law nm) 1375 (.ifCond .eq 7, 3) 1378 := ⟨(by decide +kernel : decode code 1375 = .ok (.ifCond .eq 7, 3)), rfl⟩
