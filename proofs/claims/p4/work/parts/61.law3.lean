theorem w1009 : (.methodLink RL 140 yX11_relieved : Cond) ∈ TB := mTB (List.mem_of_getElem? (i := 1009) (by decide +kernel)) (by decide +kernel)
theorem w1010 : (.instanceMethod yX11_relieved : Cond) ∈ TB := mTB (List.mem_of_getElem? (i := 1010) (by decide +kernel)) (by decide +kernel)
theorem w1011 : (.selects RX11 yX11_relieved yX11_relieved : Cond) ∈ TB := mTB (List.mem_of_getElem? (i := 1011) (by decide +kernel)) (by decide +kernel)
theorem w1012 : (.code yX11_relieved cX11_relieved 8 (some .int) : Cond) ∈ TB := mTB (List.mem_of_getElem? (i := 1012) (by decide +kernel)) (by decide +kernel)
theorem w1013 : (.methodLink RL 144 yX11_all : Cond) ∈ TB := mTB (List.mem_of_getElem? (i := 1013) (by decide +kernel)) (by decide +kernel)
theorem w1014 : (.instanceMethod yX11_all : Cond) ∈ TB := mTB (List.mem_of_getElem? (i := 1014) (by decide +kernel)) (by decide +kernel)
theorem w1015 : (.selects RX11 yX11_all yX11_all : Cond) ∈ TB := mTB (List.mem_of_getElem? (i := 1015) (by decide +kernel)) (by decide +kernel)
theorem w1016 : (.code yX11_all cX11_all 4 (some .int) : Cond) ∈ TB := mTB (List.mem_of_getElem? (i := 1016) (by decide +kernel)) (by decide +kernel)
theorem w1017 : (.methodLink RL 148 yX11_enough : Cond) ∈ TB := mTB (List.mem_of_getElem? (i := 1017) (by decide +kernel)) (by decide +kernel)
theorem w1018 : (.instanceMethod yX11_enough : Cond) ∈ TB := mTB (List.mem_of_getElem? (i := 1018) (by decide +kernel)) (by decide +kernel)
theorem w1019 : (.selects RX11 yX11_enough yX11_enough : Cond) ∈ TB := mTB (List.mem_of_getElem? (i := 1019) (by decide +kernel)) (by decide +kernel)
theorem w1020 : (.code yX11_enough cX11_enough 4 (some .int) : Cond) ∈ TB := mTB (List.mem_of_getElem? (i := 1020) (by decide +kernel)) (by decide +kernel)
theorem w1022 : (.methodLink RL 152 yX11_fewest : Cond) ∈ TB := mTB (List.mem_of_getElem? (i := 1022) (by decide +kernel)) (by decide +kernel)
theorem w1023 : (.instanceMethod yX11_fewest : Cond) ∈ TB := mTB (List.mem_of_getElem? (i := 1023) (by decide +kernel)) (by decide +kernel)
theorem w1024 : (.selects RX11 yX11_fewest yX11_fewest : Cond) ∈ TB := mTB (List.mem_of_getElem? (i := 1024) (by decide +kernel)) (by decide +kernel)
theorem w1025 : (.code yX11_fewest cX11_fewest 3 (some .int) : Cond) ∈ TB := mTB (List.mem_of_getElem? (i := 1025) (by decide +kernel)) (by decide +kernel)
theorem w1036 : (.methodLink RL 156 yX11_even : Cond) ∈ TB := mTB (List.mem_of_getElem? (i := 1036) (by decide +kernel)) (by decide +kernel)
theorem w1037 : (.instanceMethod yX11_even : Cond) ∈ TB := mTB (List.mem_of_getElem? (i := 1037) (by decide +kernel)) (by decide +kernel)
theorem w1038 : (.selects RX11 yX11_even yX11_even : Cond) ∈ TB := mTB (List.mem_of_getElem? (i := 1038) (by decide +kernel)) (by decide +kernel)
theorem w1039 : (.code yX11_even cX11_even 6 (some .int) : Cond) ∈ TB := mTB (List.mem_of_getElem? (i := 1039) (by decide +kernel)) (by decide +kernel)
theorem w1041 : (.methodLink RL 160 yX11_line : Cond) ∈ TB := mTB (List.mem_of_getElem? (i := 1041) (by decide +kernel)) (by decide +kernel)
theorem w1042 : (.instanceMethod yX11_line : Cond) ∈ TB := mTB (List.mem_of_getElem? (i := 1042) (by decide +kernel)) (by decide +kernel)
theorem w1043 : (.selects RX11 yX11_line yX11_line : Cond) ∈ TB := mTB (List.mem_of_getElem? (i := 1043) (by decide +kernel)) (by decide +kernel)
theorem w1044 : (.code yX11_line cX11_line 3 (some .int) : Cond) ∈ TB := mTB (List.mem_of_getElem? (i := 1044) (by decide +kernel)) (by decide +kernel)
theorem w1063 : (.methodLink RL 164 yX11_count : Cond) ∈ TB := mTB (List.mem_of_getElem? (i := 1063) (by decide +kernel)) (by decide +kernel)
theorem w1064 : (.instanceMethod yX11_count : Cond) ∈ TB := mTB (List.mem_of_getElem? (i := 1064) (by decide +kernel)) (by decide +kernel)
theorem w1065 : (.selects RX11 yX11_count yX11_count : Cond) ∈ TB := mTB (List.mem_of_getElem? (i := 1065) (by decide +kernel)) (by decide +kernel)
theorem w1066 : (.code yX11_count cX11_count 2 (some .int) : Cond) ∈ TB := mTB (List.mem_of_getElem? (i := 1066) (by decide +kernel)) (by decide +kernel)
theorem w1531 : (.methodLink RL 143 yX12_relieved : Cond) ∈ TB := mTB (List.mem_of_getElem? (i := 1531) (by decide +kernel)) (by decide +kernel)
theorem w1532 : (.instanceMethod yX12_relieved : Cond) ∈ TB := mTB (List.mem_of_getElem? (i := 1532) (by decide +kernel)) (by decide +kernel)
theorem w1533 : (.selects RX12 yX12_relieved yX12_relieved : Cond) ∈ TB := mTB (List.mem_of_getElem? (i := 1533) (by decide +kernel)) (by decide +kernel)
theorem w1534 : (.code yX12_relieved cX12_relieved 4 (some .int) : Cond) ∈ TB := mTB (List.mem_of_getElem? (i := 1534) (by decide +kernel)) (by decide +kernel)
theorem w1539 : (.methodLink RL 147 yX12_all : Cond) ∈ TB := mTB (List.mem_of_getElem? (i := 1539) (by decide +kernel)) (by decide +kernel)
theorem w1540 : (.instanceMethod yX12_all : Cond) ∈ TB := mTB (List.mem_of_getElem? (i := 1540) (by decide +kernel)) (by decide +kernel)
theorem w1541 : (.selects RX12 yX12_all yX12_all : Cond) ∈ TB := mTB (List.mem_of_getElem? (i := 1541) (by decide +kernel)) (by decide +kernel)
theorem w1542 : (.code yX12_all cX12_all 3 (some .int) : Cond) ∈ TB := mTB (List.mem_of_getElem? (i := 1542) (by decide +kernel)) (by decide +kernel)
theorem w1543 : (.methodLink RL 151 yX12_enough : Cond) ∈ TB := mTB (List.mem_of_getElem? (i := 1543) (by decide +kernel)) (by decide +kernel)
theorem w1544 : (.instanceMethod yX12_enough : Cond) ∈ TB := mTB (List.mem_of_getElem? (i := 1544) (by decide +kernel)) (by decide +kernel)
theorem w1545 : (.selects RX12 yX12_enough yX12_enough : Cond) ∈ TB := mTB (List.mem_of_getElem? (i := 1545) (by decide +kernel)) (by decide +kernel)
theorem w1546 : (.code yX12_enough cX12_enough 4 (some .int) : Cond) ∈ TB := mTB (List.mem_of_getElem? (i := 1546) (by decide +kernel)) (by decide +kernel)
theorem w1551 : (.methodLink RL 155 yX12_fewest : Cond) ∈ TB := mTB (List.mem_of_getElem? (i := 1551) (by decide +kernel)) (by decide +kernel)
theorem w1552 : (.instanceMethod yX12_fewest : Cond) ∈ TB := mTB (List.mem_of_getElem? (i := 1552) (by decide +kernel)) (by decide +kernel)
theorem w1553 : (.selects RX12 yX12_fewest yX12_fewest : Cond) ∈ TB := mTB (List.mem_of_getElem? (i := 1553) (by decide +kernel)) (by decide +kernel)
theorem w1554 : (.code yX12_fewest cX12_fewest 7 (some .int) : Cond) ∈ TB := mTB (List.mem_of_getElem? (i := 1554) (by decide +kernel)) (by decide +kernel)
theorem w1559 : (.methodLink RL 159 yX12_even : Cond) ∈ TB := mTB (List.mem_of_getElem? (i := 1559) (by decide +kernel)) (by decide +kernel)
theorem w1560 : (.instanceMethod yX12_even : Cond) ∈ TB := mTB (List.mem_of_getElem? (i := 1560) (by decide +kernel)) (by decide +kernel)
theorem w1561 : (.selects RX12 yX12_even yX12_even : Cond) ∈ TB := mTB (List.mem_of_getElem? (i := 1561) (by decide +kernel)) (by decide +kernel)
theorem w1562 : (.code yX12_even cX12_even 3 (some .int) : Cond) ∈ TB := mTB (List.mem_of_getElem? (i := 1562) (by decide +kernel)) (by decide +kernel)
theorem w1563 : (.methodLink RL 163 yX12_line : Cond) ∈ TB := mTB (List.mem_of_getElem? (i := 1563) (by decide +kernel)) (by decide +kernel)
theorem w1564 : (.instanceMethod yX12_line : Cond) ∈ TB := mTB (List.mem_of_getElem? (i := 1564) (by decide +kernel)) (by decide +kernel)
theorem w1565 : (.selects RX12 yX12_line yX12_line : Cond) ∈ TB := mTB (List.mem_of_getElem? (i := 1565) (by decide +kernel)) (by decide +kernel)
theorem w1566 : (.code yX12_line cX12_line 3 (some .int) : Cond) ∈ TB := mTB (List.mem_of_getElem? (i := 1566) (by decide +kernel)) (by decide +kernel)
theorem w1580 : (.methodLink RL 167 yX12_count : Cond) ∈ TB := mTB (List.mem_of_getElem? (i := 1580) (by decide +kernel)) (by decide +kernel)
theorem w1581 : (.instanceMethod yX12_count : Cond) ∈ TB := mTB (List.mem_of_getElem? (i := 1581) (by decide +kernel)) (by decide +kernel)
theorem w1582 : (.selects RX12 yX12_count yX12_count : Cond) ∈ TB := mTB (List.mem_of_getElem? (i := 1582) (by decide +kernel)) (by decide +kernel)
theorem w1583 : (.code yX12_count cX12_count 2 (some .int) : Cond) ∈ TB := mTB (List.mem_of_getElem? (i := 1583) (by decide +kernel)) (by decide +kernel)
theorem dL_law_1232 : decode cL_law 1232 = .ok (.aload_n 1, 1) := by decide +kernel
theorem dL_law_1233 : decode cL_law 1233 = .ok (.aload_n 0, 1) := by decide +kernel
theorem dL_law_1234 : decode cL_law 1234 = .ok (.iload_n 3, 1) := by decide +kernel
theorem dL_law_1235 : decode cL_law 1235 = .ok (.iconst 1, 1) := by decide +kernel
theorem dL_law_1236 : decode cL_law 1236 = .ok (.iadd, 1) := by decide +kernel
theorem dL_law_1237 : decode cL_law 1237 = .ok (.iaload, 1) := by decide +kernel
theorem dL_law_1238 : decode cL_law 1238 = .ok (.invokevirtual 140, 3) := by decide +kernel
theorem dL_law_1241 : decode cL_law 1241 = .ok (.pop, 1) := by decide +kernel
theorem dL_law_1242 : decode cL_law 1242 = .ok (.aload_n 2, 1) := by decide +kernel
theorem dL_law_1243 : decode cL_law 1243 = .ok (.aload_n 0, 1) := by decide +kernel
theorem dL_law_1244 : decode cL_law 1244 = .ok (.iload_n 3, 1) := by decide +kernel
theorem dL_law_1245 : decode cL_law 1245 = .ok (.iconst 1, 1) := by decide +kernel
theorem dL_law_1246 : decode cL_law 1246 = .ok (.iadd, 1) := by decide +kernel
theorem dL_law_1247 : decode cL_law 1247 = .ok (.iaload, 1) := by decide +kernel
theorem dL_law_1248 : decode cL_law 1248 = .ok (.invokevirtual 143, 3) := by decide +kernel
theorem dL_law_1251 : decode cL_law 1251 = .ok (.pop, 1) := by decide +kernel
theorem dL_law_1252 : decode cL_law 1252 = .ok (.goto 181, 3) := by decide +kernel
theorem dL_law_1255 : decode cL_law 1255 = .ok (.aload_n 1, 1) := by decide +kernel
theorem dL_law_1256 : decode cL_law 1256 = .ok (.invokevirtual 144, 3) := by decide +kernel
theorem dL_law_1259 : decode cL_law 1259 = .ok (.pop, 1) := by decide +kernel
theorem dL_law_1260 : decode cL_law 1260 = .ok (.aload_n 2, 1) := by decide +kernel
theorem dL_law_1261 : decode cL_law 1261 = .ok (.invokevirtual 147, 3) := by decide +kernel
theorem dL_law_1264 : decode cL_law 1264 = .ok (.pop, 1) := by decide +kernel
theorem dL_law_1265 : decode cL_law 1265 = .ok (.goto 168, 3) := by decide +kernel
theorem dL_law_1268 : decode cL_law 1268 = .ok (.aload_n 1, 1) := by decide +kernel
theorem dL_law_1269 : decode cL_law 1269 = .ok (.aload_n 0, 1) := by decide +kernel
theorem dL_law_1270 : decode cL_law 1270 = .ok (.iload_n 3, 1) := by decide +kernel
theorem dL_law_1271 : decode cL_law 1271 = .ok (.iconst 1, 1) := by decide +kernel
theorem dL_law_1272 : decode cL_law 1272 = .ok (.iadd, 1) := by decide +kernel
theorem dL_law_1273 : decode cL_law 1273 = .ok (.iaload, 1) := by decide +kernel
theorem dL_law_1274 : decode cL_law 1274 = .ok (.aload_n 0, 1) := by decide +kernel
theorem dL_law_1275 : decode cL_law 1275 = .ok (.iload_n 3, 1) := by decide +kernel
theorem dL_law_1276 : decode cL_law 1276 = .ok (.iconst 2, 1) := by decide +kernel
theorem dL_law_1277 : decode cL_law 1277 = .ok (.iadd, 1) := by decide +kernel
theorem dL_law_1278 : decode cL_law 1278 = .ok (.iaload, 1) := by decide +kernel
theorem dL_law_1279 : decode cL_law 1279 = .ok (.aload_n 0, 1) := by decide +kernel
theorem dL_law_1280 : decode cL_law 1280 = .ok (.iload_n 3, 1) := by decide +kernel
theorem dL_law_1281 : decode cL_law 1281 = .ok (.iconst 3, 1) := by decide +kernel
theorem dL_law_1282 : decode cL_law 1282 = .ok (.iadd, 1) := by decide +kernel
theorem dL_law_1283 : decode cL_law 1283 = .ok (.iaload, 1) := by decide +kernel
theorem dL_law_1284 : decode cL_law 1284 = .ok (.invokevirtual 148, 3) := by decide +kernel
theorem dL_law_1287 : decode cL_law 1287 = .ok (.pop, 1) := by decide +kernel
theorem dL_law_1288 : decode cL_law 1288 = .ok (.aload_n 2, 1) := by decide +kernel
theorem dL_law_1289 : decode cL_law 1289 = .ok (.aload_n 0, 1) := by decide +kernel
theorem dL_law_1290 : decode cL_law 1290 = .ok (.iload_n 3, 1) := by decide +kernel
theorem dL_law_1291 : decode cL_law 1291 = .ok (.iconst 1, 1) := by decide +kernel
theorem dL_law_1292 : decode cL_law 1292 = .ok (.iadd, 1) := by decide +kernel
theorem dL_law_1293 : decode cL_law 1293 = .ok (.iaload, 1) := by decide +kernel
theorem dL_law_1294 : decode cL_law 1294 = .ok (.aload_n 0, 1) := by decide +kernel
theorem dL_law_1295 : decode cL_law 1295 = .ok (.iload_n 3, 1) := by decide +kernel
theorem dL_law_1296 : decode cL_law 1296 = .ok (.iconst 2, 1) := by decide +kernel
theorem dL_law_1297 : decode cL_law 1297 = .ok (.iadd, 1) := by decide +kernel
theorem dL_law_1298 : decode cL_law 1298 = .ok (.iaload, 1) := by decide +kernel
theorem dL_law_1299 : decode cL_law 1299 = .ok (.aload_n 0, 1) := by decide +kernel
theorem dL_law_1300 : decode cL_law 1300 = .ok (.iload_n 3, 1) := by decide +kernel
theorem dL_law_1301 : decode cL_law 1301 = .ok (.iconst 3, 1) := by decide +kernel
theorem dL_law_1302 : decode cL_law 1302 = .ok (.iadd, 1) := by decide +kernel
theorem dL_law_1303 : decode cL_law 1303 = .ok (.iaload, 1) := by decide +kernel
theorem dL_law_1304 : decode cL_law 1304 = .ok (.invokevirtual 151, 3) := by decide +kernel
theorem dL_law_1307 : decode cL_law 1307 = .ok (.pop, 1) := by decide +kernel
theorem dL_law_1308 : decode cL_law 1308 = .ok (.goto 125, 3) := by decide +kernel
theorem dL_law_1311 : decode cL_law 1311 = .ok (.aload_n 1, 1) := by decide +kernel
theorem dL_law_1312 : decode cL_law 1312 = .ok (.aload_n 0, 1) := by decide +kernel
theorem dL_law_1313 : decode cL_law 1313 = .ok (.iload_n 3, 1) := by decide +kernel
theorem dL_law_1314 : decode cL_law 1314 = .ok (.iconst 1, 1) := by decide +kernel
theorem dL_law_1315 : decode cL_law 1315 = .ok (.iadd, 1) := by decide +kernel
theorem dL_law_1316 : decode cL_law 1316 = .ok (.iaload, 1) := by decide +kernel
theorem dL_law_1317 : decode cL_law 1317 = .ok (.aload_n 0, 1) := by decide +kernel
theorem dL_law_1318 : decode cL_law 1318 = .ok (.iload_n 3, 1) := by decide +kernel
theorem dL_law_1319 : decode cL_law 1319 = .ok (.iconst 2, 1) := by decide +kernel
theorem dL_law_1320 : decode cL_law 1320 = .ok (.iadd, 1) := by decide +kernel
theorem dL_law_1321 : decode cL_law 1321 = .ok (.iaload, 1) := by decide +kernel
theorem dL_law_1322 : decode cL_law 1322 = .ok (.invokevirtual 152, 3) := by decide +kernel
theorem dL_law_1325 : decode cL_law 1325 = .ok (.pop, 1) := by decide +kernel
theorem dL_law_1326 : decode cL_law 1326 = .ok (.aload_n 2, 1) := by decide +kernel
theorem dL_law_1327 : decode cL_law 1327 = .ok (.aload_n 0, 1) := by decide +kernel
theorem dL_law_1328 : decode cL_law 1328 = .ok (.iload_n 3, 1) := by decide +kernel
theorem dL_law_1329 : decode cL_law 1329 = .ok (.iconst 1, 1) := by decide +kernel
theorem dL_law_1330 : decode cL_law 1330 = .ok (.iadd, 1) := by decide +kernel
theorem dL_law_1331 : decode cL_law 1331 = .ok (.iaload, 1) := by decide +kernel
theorem dL_law_1332 : decode cL_law 1332 = .ok (.aload_n 0, 1) := by decide +kernel
theorem dL_law_1333 : decode cL_law 1333 = .ok (.iload_n 3, 1) := by decide +kernel
theorem dL_law_1334 : decode cL_law 1334 = .ok (.iconst 2, 1) := by decide +kernel
theorem dL_law_1335 : decode cL_law 1335 = .ok (.iadd, 1) := by decide +kernel
theorem dL_law_1336 : decode cL_law 1336 = .ok (.iaload, 1) := by decide +kernel
theorem dL_law_1337 : decode cL_law 1337 = .ok (.invokevirtual 155, 3) := by decide +kernel
theorem dL_law_1340 : decode cL_law 1340 = .ok (.pop, 1) := by decide +kernel
theorem dL_law_1341 : decode cL_law 1341 = .ok (.goto 92, 3) := by decide +kernel
theorem dL_law_1344 : decode cL_law 1344 = .ok (.aload_n 1, 1) := by decide +kernel
theorem dL_law_1345 : decode cL_law 1345 = .ok (.aload_n 0, 1) := by decide +kernel
theorem dL_law_1346 : decode cL_law 1346 = .ok (.iload_n 3, 1) := by decide +kernel
theorem dL_law_1347 : decode cL_law 1347 = .ok (.iconst 1, 1) := by decide +kernel
theorem dL_law_1348 : decode cL_law 1348 = .ok (.iadd, 1) := by decide +kernel
theorem dL_law_1349 : decode cL_law 1349 = .ok (.iaload, 1) := by decide +kernel
theorem dL_law_1350 : decode cL_law 1350 = .ok (.aload_n 0, 1) := by decide +kernel
theorem dL_law_1351 : decode cL_law 1351 = .ok (.iload_n 3, 1) := by decide +kernel
theorem dL_law_1352 : decode cL_law 1352 = .ok (.iconst 2, 1) := by decide +kernel
theorem dL_law_1353 : decode cL_law 1353 = .ok (.iadd, 1) := by decide +kernel
theorem dL_law_1354 : decode cL_law 1354 = .ok (.iaload, 1) := by decide +kernel
theorem dL_law_1355 : decode cL_law 1355 = .ok (.invokevirtual 156, 3) := by decide +kernel
theorem dL_law_1358 : decode cL_law 1358 = .ok (.pop, 1) := by decide +kernel
theorem dL_law_1359 : decode cL_law 1359 = .ok (.aload_n 2, 1) := by decide +kernel
theorem dL_law_1360 : decode cL_law 1360 = .ok (.aload_n 0, 1) := by decide +kernel
theorem dL_law_1361 : decode cL_law 1361 = .ok (.iload_n 3, 1) := by decide +kernel
theorem dL_law_1362 : decode cL_law 1362 = .ok (.iconst 1, 1) := by decide +kernel
theorem dL_law_1363 : decode cL_law 1363 = .ok (.iadd, 1) := by decide +kernel
theorem dL_law_1364 : decode cL_law 1364 = .ok (.iaload, 1) := by decide +kernel
theorem dL_law_1365 : decode cL_law 1365 = .ok (.aload_n 0, 1) := by decide +kernel
theorem dL_law_1366 : decode cL_law 1366 = .ok (.iload_n 3, 1) := by decide +kernel
theorem dL_law_1367 : decode cL_law 1367 = .ok (.iconst 2, 1) := by decide +kernel
theorem dL_law_1368 : decode cL_law 1368 = .ok (.iadd, 1) := by decide +kernel
theorem dL_law_1369 : decode cL_law 1369 = .ok (.iaload, 1) := by decide +kernel
theorem dL_law_1370 : decode cL_law 1370 = .ok (.invokevirtual 159, 3) := by decide +kernel
theorem dL_law_1373 : decode cL_law 1373 = .ok (.pop, 1) := by decide +kernel
theorem dL_law_1374 : decode cL_law 1374 = .ok (.goto 59, 3) := by decide +kernel
theorem dL_law_1377 : decode cL_law 1377 = .ok (.aload_n 1, 1) := by decide +kernel
theorem dL_law_1378 : decode cL_law 1378 = .ok (.aload_n 0, 1) := by decide +kernel
theorem dL_law_1379 : decode cL_law 1379 = .ok (.iload_n 3, 1) := by decide +kernel
theorem dL_law_1380 : decode cL_law 1380 = .ok (.iconst 1, 1) := by decide +kernel
theorem dL_law_1381 : decode cL_law 1381 = .ok (.iadd, 1) := by decide +kernel
theorem dL_law_1382 : decode cL_law 1382 = .ok (.iaload, 1) := by decide +kernel
theorem dL_law_1383 : decode cL_law 1383 = .ok (.aload_n 0, 1) := by decide +kernel
theorem dL_law_1384 : decode cL_law 1384 = .ok (.iload_n 3, 1) := by decide +kernel
theorem dL_law_1385 : decode cL_law 1385 = .ok (.iconst 2, 1) := by decide +kernel
theorem dL_law_1386 : decode cL_law 1386 = .ok (.iadd, 1) := by decide +kernel
theorem dL_law_1387 : decode cL_law 1387 = .ok (.iaload, 1) := by decide +kernel
theorem dL_law_1388 : decode cL_law 1388 = .ok (.invokevirtual 160, 3) := by decide +kernel
theorem dL_law_1391 : decode cL_law 1391 = .ok (.pop, 1) := by decide +kernel
theorem dL_law_1392 : decode cL_law 1392 = .ok (.aload_n 2, 1) := by decide +kernel
theorem dL_law_1393 : decode cL_law 1393 = .ok (.aload_n 0, 1) := by decide +kernel
theorem dL_law_1394 : decode cL_law 1394 = .ok (.iload_n 3, 1) := by decide +kernel
theorem dL_law_1395 : decode cL_law 1395 = .ok (.iconst 1, 1) := by decide +kernel
theorem dL_law_1396 : decode cL_law 1396 = .ok (.iadd, 1) := by decide +kernel
theorem dL_law_1397 : decode cL_law 1397 = .ok (.iaload, 1) := by decide +kernel
theorem dL_law_1398 : decode cL_law 1398 = .ok (.aload_n 0, 1) := by decide +kernel
theorem dL_law_1399 : decode cL_law 1399 = .ok (.iload_n 3, 1) := by decide +kernel
theorem dL_law_1400 : decode cL_law 1400 = .ok (.iconst 2, 1) := by decide +kernel
theorem dL_law_1401 : decode cL_law 1401 = .ok (.iadd, 1) := by decide +kernel
theorem dL_law_1402 : decode cL_law 1402 = .ok (.iaload, 1) := by decide +kernel
theorem dL_law_1403 : decode cL_law 1403 = .ok (.invokevirtual 163, 3) := by decide +kernel
theorem dL_law_1406 : decode cL_law 1406 = .ok (.pop, 1) := by decide +kernel
theorem dL_law_1407 : decode cL_law 1407 = .ok (.goto 26, 3) := by decide +kernel
theorem dL_law_1410 : decode cL_law 1410 = .ok (.aload_n 1, 1) := by decide +kernel
theorem dL_law_1411 : decode cL_law 1411 = .ok (.aload_n 0, 1) := by decide +kernel
theorem dL_law_1412 : decode cL_law 1412 = .ok (.iload_n 3, 1) := by decide +kernel
theorem dL_law_1413 : decode cL_law 1413 = .ok (.iconst 1, 1) := by decide +kernel
theorem dL_law_1414 : decode cL_law 1414 = .ok (.iadd, 1) := by decide +kernel
theorem dL_law_1415 : decode cL_law 1415 = .ok (.iaload, 1) := by decide +kernel
theorem dL_law_1416 : decode cL_law 1416 = .ok (.invokevirtual 164, 3) := by decide +kernel
theorem dL_law_1419 : decode cL_law 1419 = .ok (.pop, 1) := by decide +kernel
theorem dL_law_1420 : decode cL_law 1420 = .ok (.aload_n 2, 1) := by decide +kernel
theorem dL_law_1421 : decode cL_law 1421 = .ok (.aload_n 0, 1) := by decide +kernel
theorem dL_law_1422 : decode cL_law 1422 = .ok (.iload_n 3, 1) := by decide +kernel
theorem dL_law_1423 : decode cL_law 1423 = .ok (.iconst 1, 1) := by decide +kernel
theorem dL_law_1424 : decode cL_law 1424 = .ok (.iadd, 1) := by decide +kernel
theorem dL_law_1425 : decode cL_law 1425 = .ok (.iaload, 1) := by decide +kernel
theorem dL_law_1426 : decode cL_law 1426 = .ok (.invokevirtual 167, 3) := by decide +kernel
theorem dL_law_1429 : decode cL_law 1429 = .ok (.pop, 1) := by decide +kernel
theorem dL_law_1430 : decode cL_law 1430 = .ok (.goto 3, 3) := by decide +kernel
set_option maxHeartbeats 4000000 in
set_option maxRecDepth 100000 in
/-- relieved -/
theorem law_30 {p : Program} {l : Launch} {e : Env} {s : State} {m : MethodId} {below : List Frame} {meth : Method} {c : Code} {b LN : Nat} {xs : Nat → Int32} (hx : p.tables.exec = Jvm.exec) (hb : c.code = code) (hr : meth.sig.returnType = ret) (hml : c.maxLocals = 4) (hown : s.vm.findClass RL = some m.cls) (hT : ∀ w ∈ TB, w.before #[Value.ref b] s = true) (hX : va_X b LN xs s s.heap) (hbl : b < s.heap.size) (hlocks : meth.locks = false) (hLN : LN ≤ 3072) {dC : Nat → ClassId} {dI : Nat → Nat → Nat} {cy : Nat → ClassId} {L : List Nat} {kap : Nat → Nat} {ad : (Nat → Nat) × (Nat → Nat)} {h0 m0 : Nat} (hK : va_K (dC, dI) vwCl (cyT cy) s) (hN : ∀ q ∈ NLs, va_Nw (.methodLinkNest q.1 q.2.1 q.2.2.1 q.2.2.2) s) (hSTR : STR ad (AL L s.heap.size) s s.heap) (hbA : ¬ AL L s.heap.size b) (hT_h0 : TK L kap h0 11) (hT_m0 : TK L kap m0 12) (hu6 : ∀ b9 c9, TK L kap b9 6 → TK L kap c9 6 → b9 = c9) (hu10 : ∀ b9 c9, TK L kap b9 10 → TK L kap c9 10 → b9 = c9) (hu12 : ∀ b9 c9, TK L kap b9 12 → TK L kap c9 12 → b9 = c9) (hu27 : ∀ b9 c9, TK L kap b9 27 → TK L kap c9 27 → b9 = c9) (hu50 : ∀ b9 c9, TK L kap b9 50 → TK L kap c9 50 → b9 = c9) (hu51 : ∀ b9 c9, TK L kap b9 51 → TK L kap c9 51 → b9 = c9) (hu52 : ∀ b9 c9, TK L kap b9 52 → TK L kap c9 52 → b9 = c9) (hu55 : ∀ b9 c9, TK L kap b9 55 → TK L kap c9 55 → b9 = c9) {i t9 : Nat} (hi : 6 * i + 6 ≤ LN) (kk : ∀ (t9 : Nat) (S : Nat → va_E) (H : Heap) (locs : List Loc) (ls : Array Slot), Ty cy L kap (t9, t9) S → DIs S m0 → JY L kap S → PW dC dI L (AL L s.heap.size) s.heap S H locs → lv_has ls 4 [(3, .int (nI (6 * i))), (2, .ref m0), (1, .ref h0), (0, .ref b)] → W p l e room_1 s m #[Value.ref b] below meth c H locs 152 10885 (lw_Z below #[Value.ref b] s) (F0 m 1433 ls [])) {S : Nat → va_E} {H : Heap} {locs : List Loc} {ls : Array Slot} (hTy : Ty cy L kap (t9, t9) S) (hDI : DIs S m0) (hJY : JY L kap S) (hW : PW dC dI L (AL L s.heap.size) s.heap S H locs) (hl : lv_has ls 4 [(3, .int (nI (6 * i))), (2, .ref m0), (1, .ref h0), (0, .ref b)]) : W p l e room_1 s m #[Value.ref b] below meth c H locs 152 10885 (lw_Z below #[Value.ref b] s) (F0 m 1232 ls []) := by
  have hA : ∀ q, s.heap.size ≤ q → AL L s.heap.size q := fun _ h => Or.inr h
  refine lv_aload_n hx hb dL_law_1232 rfl (lv_at hl 2 rfl) ?_
  refine lv_aload_n hx hb dL_law_1233 rfl (lv_at hl 3 rfl) ?_
  refine lv_iload_n hx hb dL_law_1234 rfl (lv_at hl 0 rfl) ?_
  refine lv_iconst (v := 1) hx hb dL_law_1235 (by decide) ?_
  refine lv_iadd hx hb dL_law_1236 ?_
  refine lv_topi (fun z_1 ez_1 => ?_)
  obtain rfl : z_1 = nI ((6 * i) + 1) := ez_1.trans (nI_add (6 * i) (1))
  refine va_sld hx hb hX hbl hbA hW.2.2 (vp_in_nI (n := (6 * i) + 1) (by omega) (by omega)) dL_law_1237 ?_
  refine lv_topi (fun y_2 ey_2 => ?_)
  obtain ⟨_, _, _, _, _, _, _, _, _, _, _, _, _, hS_3, _, _, _, _, _, _, _, _, _, _, _, _⟩ := hTy.k11 hT_h0
  refine pl_calli (va_runV (As := [.int y_2]) (rest := []) ⟨hx, hb, hml, hown, hT⟩ (k_relieved l dC dI cy L kap (t9, t9) S H.size h0 y_2 hTy hT_h0) (cwV 1 hT (gV w1009 w1010 w1011 w1 w1012) rfl rfl rfl (by decide +kernel) ⟨(Nat.le_of_ble_eq_true rfl), (Nat.le_of_ble_eq_true rfl)⟩) ⟨pcN.blind, pl_recv hK hW hT_h0.1 hS_3 rfl, pcN.pre hW.1 hK hW.2.1 hN (fun q h => absurd h List.not_mem_nil)⟩ rfl rfl hl.1 rfl (lv_room (Nat.le_of_ble_eq_true rfl)) dL_law_1238 ⟨(Nat.le_of_ble_eq_true rfl), (Nat.le_of_ble_eq_true rfl)⟩) hW (fun q h => PW_A hW h) hA (fun r_4 S_5 H locs hrel hW => ?_)
  have hTy0 := hTy
  obtain ⟨hTy, hF1⟩ := hrel
  have hDI : DIs S_5 m0 := ⟨DI_0 hTy0 hTy hT_m0 hu50 hF1 (by decide) hDI.1, DI_2 hTy0 hTy hT_m0 hu52 hF1 (by decide) hDI.2⟩
  have hJY := JY_fr hF1 (by decide) (by decide) (by decide) (by decide) hJY
  refine lv_pop hx hb dL_law_1241 rfl ?_
  refine lv_aload_n hx hb dL_law_1242 rfl (lv_at hl 1 rfl) ?_
  refine lv_aload_n hx hb dL_law_1243 rfl (lv_at hl 3 rfl) ?_
  refine lv_iload_n hx hb dL_law_1244 rfl (lv_at hl 0 rfl) ?_
  refine lv_iconst (v := 1) hx hb dL_law_1245 (by decide) ?_
  refine lv_iadd hx hb dL_law_1246 ?_
  refine lv_topi (fun z_6 ez_6 => ?_)
  obtain rfl : z_6 = nI ((6 * i) + 1) := ez_6.trans (nI_add (6 * i) (1))
  refine va_sld hx hb hX hbl hbA hW.2.2 (vp_in_nI (n := (6 * i) + 1) (by omega) (by omega)) dL_law_1247 ?_
  refine lv_topi (fun y_7 ey_7 => ?_)
  obtain rfl : y_2 = y_7 := ey_2.trans ey_7.symm
  obtain ⟨_, _, _, _, _, _, _, _, _, _, _, _, _, _, _, _, _, _, _, _, _, _, _, _, _, _, _, _, _, _, _, hS_8, _, _, _, _, _, _, _, _, _, _, _, _, _, _, _, _, _, _, _, _, _, _, _, _, _, _, _⟩ := hTy.k12 hT_m0
  refine pl_calli (va_runV (As := [.int y_2]) (rest := []) ⟨hx, hb, hml, hown, hT⟩ (m_relieved l dC dI cy L kap (t9, t9) S_5 H.size m0 y_2 hTy hT_m0) (cwV 1 hT (gV w1531 w1532 w1533 w14 w1534) rfl rfl rfl (by decide +kernel) ⟨(Nat.le_of_ble_eq_true rfl), (Nat.le_of_ble_eq_true rfl)⟩) ⟨pcN.blind, pl_recv hK hW hT_m0.1 hS_8 rfl, pcN.pre hW.1 hK hW.2.1 hN (fun q h => absurd h List.not_mem_nil)⟩ rfl rfl hl.1 rfl (lv_room (Nat.le_of_ble_eq_true rfl)) dL_law_1248 ⟨(Nat.le_of_ble_eq_true rfl), (Nat.le_of_ble_eq_true rfl)⟩) hW (fun q h => PW_A hW h) hA (fun r_9 S_10 H locs hrel hW => ?_)
  have hTy0 := hTy
  obtain ⟨hTy, hF1⟩ := hrel
  have hDI : DIs S_10 m0 := ⟨DI_0 hTy0 hTy hT_m0 hu50 hF1 (by decide) hDI.1, DI_2 hTy0 hTy hT_m0 hu52 hF1 (by decide) hDI.2⟩
  have hJY := JY_fr hF1 (by decide) (by decide) (by decide) (by decide) hJY
  refine lv_pop hx hb dL_law_1251 rfl ?_
  refine lv_goto (tgt := 1433) hx hb dL_law_1252 (by decide) ?_
  exact kk t9 S_10 H locs ls (by first | exact hTy) hDI hJY hW (lv_sub hl [0, 1, 2, 3] rfl)

set_option maxHeartbeats 4000000 in
set_option maxRecDepth 100000 in
/-- all -/
theorem law_31 {p : Program} {l : Launch} {e : Env} {s : State} {m : MethodId} {below : List Frame} {meth : Method} {c : Code} {b LN : Nat} {xs : Nat → Int32} (hx : p.tables.exec = Jvm.exec) (hb : c.code = code) (hr : meth.sig.returnType = ret) (hml : c.maxLocals = 4) (hown : s.vm.findClass RL = some m.cls) (hT : ∀ w ∈ TB, w.before #[Value.ref b] s = true) (hX : va_X b LN xs s s.heap) (hbl : b < s.heap.size) (hlocks : meth.locks = false) (hLN : LN ≤ 3072) {dC : Nat → ClassId} {dI : Nat → Nat → Nat} {cy : Nat → ClassId} {L : List Nat} {kap : Nat → Nat} {ad : (Nat → Nat) × (Nat → Nat)} {h0 m0 : Nat} (hK : va_K (dC, dI) vwCl (cyT cy) s) (hN : ∀ q ∈ NLs, va_Nw (.methodLinkNest q.1 q.2.1 q.2.2.1 q.2.2.2) s) (hSTR : STR ad (AL L s.heap.size) s s.heap) (hbA : ¬ AL L s.heap.size b) (hT_h0 : TK L kap h0 11) (hT_m0 : TK L kap m0 12) (hu6 : ∀ b9 c9, TK L kap b9 6 → TK L kap c9 6 → b9 = c9) (hu10 : ∀ b9 c9, TK L kap b9 10 → TK L kap c9 10 → b9 = c9) (hu12 : ∀ b9 c9, TK L kap b9 12 → TK L kap c9 12 → b9 = c9) (hu27 : ∀ b9 c9, TK L kap b9 27 → TK L kap c9 27 → b9 = c9) (hu50 : ∀ b9 c9, TK L kap b9 50 → TK L kap c9 50 → b9 = c9) (hu51 : ∀ b9 c9, TK L kap b9 51 → TK L kap c9 51 → b9 = c9) (hu52 : ∀ b9 c9, TK L kap b9 52 → TK L kap c9 52 → b9 = c9) (hu55 : ∀ b9 c9, TK L kap b9 55 → TK L kap c9 55 → b9 = c9) {i t9 : Nat} (hi : 6 * i + 6 ≤ LN) (kk : ∀ (t9 : Nat) (S : Nat → va_E) (H : Heap) (locs : List Loc) (ls : Array Slot), Ty cy L kap (t9, t9) S → DIs S m0 → JY L kap S → PW dC dI L (AL L s.heap.size) s.heap S H locs → lv_has ls 4 [(3, .int (nI (6 * i))), (2, .ref m0), (1, .ref h0), (0, .ref b)] → W p l e room_1 s m #[Value.ref b] below meth c H locs 152 10885 (lw_Z below #[Value.ref b] s) (F0 m 1433 ls [])) {S : Nat → va_E} {H : Heap} {locs : List Loc} {ls : Array Slot} (hTy : Ty cy L kap (t9, t9) S) (hDI : DIs S m0) (hJY : JY L kap S) (hW : PW dC dI L (AL L s.heap.size) s.heap S H locs) (hl : lv_has ls 4 [(3, .int (nI (6 * i))), (2, .ref m0), (1, .ref h0), (0, .ref b)]) : W p l e room_1 s m #[Value.ref b] below meth c H locs 152 10885 (lw_Z below #[Value.ref b] s) (F0 m 1255 ls []) := by
  have hA : ∀ q, s.heap.size ≤ q → AL L s.heap.size q := fun _ h => Or.inr h
  refine lv_aload_n hx hb dL_law_1255 rfl (lv_at hl 2 rfl) ?_
  obtain ⟨_, _, _, _, _, _, _, _, _, _, _, _, _, hS_1, _, _, _, _, _, _, _, _, _, _, _, _⟩ := hTy.k11 hT_h0
  refine pl_calli (va_runV (As := []) (rest := []) ⟨hx, hb, hml, hown, hT⟩ (k_all l dC dI cy L kap (t9, t9) S H.size h0 hTy hT_h0) (cwV 0 hT (gV w1013 w1014 w1015 w1 w1016) rfl rfl rfl (by decide +kernel) ⟨(Nat.le_of_ble_eq_true rfl), (Nat.le_of_ble_eq_true rfl)⟩) ⟨pcN.blind, pl_recv hK hW hT_h0.1 hS_1 rfl, pcN.pre hW.1 hK hW.2.1 hN (fun q h => absurd h List.not_mem_nil)⟩ rfl rfl hl.1 rfl (lv_room (Nat.le_of_ble_eq_true rfl)) dL_law_1256 ⟨(Nat.le_of_ble_eq_true rfl), (Nat.le_of_ble_eq_true rfl)⟩) hW (fun q h => PW_A hW h) hA (fun r_2 S_3 H locs hrel hW => ?_)
  have hTy0 := hTy
  obtain ⟨hTy, hF1⟩ := hrel
  have hDI : DIs S_3 m0 := ⟨DI_0 hTy0 hTy hT_m0 hu50 hF1 (by decide) hDI.1, DI_2 hTy0 hTy hT_m0 hu52 hF1 (by decide) hDI.2⟩
  have hJY := JY_fr hF1 (by decide) (by decide) (by decide) (by decide) hJY
  refine lv_pop hx hb dL_law_1259 rfl ?_
  refine lv_aload_n hx hb dL_law_1260 rfl (lv_at hl 1 rfl) ?_
  obtain ⟨_, _, _, _, _, _, _, _, _, _, _, _, _, _, _, _, _, _, _, _, _, _, _, _, _, _, _, _, _, _, _, hS_4, _, _, _, _, _, _, _, _, _, _, _, _, _, _, _, _, _, _, _, _, _, _, _, _, _, _, _⟩ := hTy.k12 hT_m0
  refine pl_calli (va_runV (As := []) (rest := []) ⟨hx, hb, hml, hown, hT⟩ (m_all l dC dI cy L kap (t9, t9) S_3 H.size m0 hTy hT_m0) (cwV 0 hT (gV w1539 w1540 w1541 w14 w1542) rfl rfl rfl (by decide +kernel) ⟨(Nat.le_of_ble_eq_true rfl), (Nat.le_of_ble_eq_true rfl)⟩) ⟨pcN.blind, pl_recv hK hW hT_m0.1 hS_4 rfl, pcN.pre hW.1 hK hW.2.1 hN (fun q h => absurd h List.not_mem_nil)⟩ rfl rfl hl.1 rfl (lv_room (Nat.le_of_ble_eq_true rfl)) dL_law_1261 ⟨(Nat.le_of_ble_eq_true rfl), (Nat.le_of_ble_eq_true rfl)⟩) hW (fun q h => PW_A hW h) hA (fun r_5 S_6 H locs hrel hW => ?_)
  have hTy0 := hTy
  obtain ⟨hTy, hF1⟩ := hrel
  have hDI : DIs S_6 m0 := ⟨DI_0 hTy0 hTy hT_m0 hu50 hF1 (by decide) hDI.1, DI_2 hTy0 hTy hT_m0 hu52 hF1 (by decide) hDI.2⟩
  have hJY := JY_fr hF1 (by decide) (by decide) (by decide) (by decide) hJY
  refine lv_pop hx hb dL_law_1264 rfl ?_
  refine lv_goto (tgt := 1433) hx hb dL_law_1265 (by decide) ?_
  exact kk t9 S_6 H locs ls (by first | exact hTy) hDI hJY hW (lv_sub hl [0, 1, 2, 3] rfl)

set_option maxHeartbeats 4000000 in
set_option maxRecDepth 100000 in
/-- enough -/
theorem law_32 {p : Program} {l : Launch} {e : Env} {s : State} {m : MethodId} {below : List Frame} {meth : Method} {c : Code} {b LN : Nat} {xs : Nat → Int32} (hx : p.tables.exec = Jvm.exec) (hb : c.code = code) (hr : meth.sig.returnType = ret) (hml : c.maxLocals = 4) (hown : s.vm.findClass RL = some m.cls) (hT : ∀ w ∈ TB, w.before #[Value.ref b] s = true) (hX : va_X b LN xs s s.heap) (hbl : b < s.heap.size) (hlocks : meth.locks = false) (hLN : LN ≤ 3072) {dC : Nat → ClassId} {dI : Nat → Nat → Nat} {cy : Nat → ClassId} {L : List Nat} {kap : Nat → Nat} {ad : (Nat → Nat) × (Nat → Nat)} {h0 m0 : Nat} (hK : va_K (dC, dI) vwCl (cyT cy) s) (hN : ∀ q ∈ NLs, va_Nw (.methodLinkNest q.1 q.2.1 q.2.2.1 q.2.2.2) s) (hSTR : STR ad (AL L s.heap.size) s s.heap) (hbA : ¬ AL L s.heap.size b) (hT_h0 : TK L kap h0 11) (hT_m0 : TK L kap m0 12) (hu6 : ∀ b9 c9, TK L kap b9 6 → TK L kap c9 6 → b9 = c9) (hu10 : ∀ b9 c9, TK L kap b9 10 → TK L kap c9 10 → b9 = c9) (hu12 : ∀ b9 c9, TK L kap b9 12 → TK L kap c9 12 → b9 = c9) (hu27 : ∀ b9 c9, TK L kap b9 27 → TK L kap c9 27 → b9 = c9) (hu50 : ∀ b9 c9, TK L kap b9 50 → TK L kap c9 50 → b9 = c9) (hu51 : ∀ b9 c9, TK L kap b9 51 → TK L kap c9 51 → b9 = c9) (hu52 : ∀ b9 c9, TK L kap b9 52 → TK L kap c9 52 → b9 = c9) (hu55 : ∀ b9 c9, TK L kap b9 55 → TK L kap c9 55 → b9 = c9) {i t9 : Nat} (hi : 6 * i + 6 ≤ LN) (kk : ∀ (t9 : Nat) (S : Nat → va_E) (H : Heap) (locs : List Loc) (ls : Array Slot), Ty cy L kap (t9, t9) S → DIs S m0 → JY L kap S → PW dC dI L (AL L s.heap.size) s.heap S H locs → lv_has ls 4 [(3, .int (nI (6 * i))), (2, .ref m0), (1, .ref h0), (0, .ref b)] → W p l e room_1 s m #[Value.ref b] below meth c H locs 152 10885 (lw_Z below #[Value.ref b] s) (F0 m 1433 ls [])) {S : Nat → va_E} {H : Heap} {locs : List Loc} {ls : Array Slot} (hTy : Ty cy L kap (t9, t9) S) (hDI : DIs S m0) (hJY : JY L kap S) (hW : PW dC dI L (AL L s.heap.size) s.heap S H locs) (hl : lv_has ls 4 [(3, .int (nI (6 * i))), (2, .ref m0), (1, .ref h0), (0, .ref b)]) : W p l e room_1 s m #[Value.ref b] below meth c H locs 152 10885 (lw_Z below #[Value.ref b] s) (F0 m 1268 ls []) := by
  have hA : ∀ q, s.heap.size ≤ q → AL L s.heap.size q := fun _ h => Or.inr h
  refine lv_aload_n hx hb dL_law_1268 rfl (lv_at hl 2 rfl) ?_
  refine lv_aload_n hx hb dL_law_1269 rfl (lv_at hl 3 rfl) ?_
  refine lv_iload_n hx hb dL_law_1270 rfl (lv_at hl 0 rfl) ?_
  refine lv_iconst (v := 1) hx hb dL_law_1271 (by decide) ?_
  refine lv_iadd hx hb dL_law_1272 ?_
  refine lv_topi (fun z_1 ez_1 => ?_)
  obtain rfl : z_1 = nI ((6 * i) + 1) := ez_1.trans (nI_add (6 * i) (1))
  refine va_sld hx hb hX hbl hbA hW.2.2 (vp_in_nI (n := (6 * i) + 1) (by omega) (by omega)) dL_law_1273 ?_
  refine lv_topi (fun y_2 ey_2 => ?_)
  refine lv_aload_n hx hb dL_law_1274 rfl (lv_at hl 3 rfl) ?_
  refine lv_iload_n hx hb dL_law_1275 rfl (lv_at hl 0 rfl) ?_
  refine lv_iconst (v := 2) hx hb dL_law_1276 (by decide) ?_
  refine lv_iadd hx hb dL_law_1277 ?_
  refine lv_topi (fun z_3 ez_3 => ?_)
  obtain rfl : z_3 = nI ((6 * i) + 2) := ez_3.trans (nI_add (6 * i) (2))
  refine va_sld hx hb hX hbl hbA hW.2.2 (vp_in_nI (n := (6 * i) + 2) (by omega) (by omega)) dL_law_1278 ?_
  refine lv_topi (fun y_4 ey_4 => ?_)
  refine lv_aload_n hx hb dL_law_1279 rfl (lv_at hl 3 rfl) ?_
  refine lv_iload_n hx hb dL_law_1280 rfl (lv_at hl 0 rfl) ?_
  refine lv_iconst (v := 3) hx hb dL_law_1281 (by decide) ?_
  refine lv_iadd hx hb dL_law_1282 ?_
  refine lv_topi (fun z_5 ez_5 => ?_)
  obtain rfl : z_5 = nI ((6 * i) + 3) := ez_5.trans (nI_add (6 * i) (3))
  refine va_sld hx hb hX hbl hbA hW.2.2 (vp_in_nI (n := (6 * i) + 3) (by omega) (by omega)) dL_law_1283 ?_
  refine lv_topi (fun y_6 ey_6 => ?_)
  obtain ⟨_, _, _, _, _, _, _, _, _, _, _, _, _, hS_7, _, _, _, _, _, _, _, _, _, _, _, _⟩ := hTy.k11 hT_h0
  refine pl_calli (va_runV (As := [.int y_2, .int y_4, .int y_6]) (rest := []) ⟨hx, hb, hml, hown, hT⟩ (k_enough l dC dI cy L kap (t9, t9) S H.size h0 y_2 y_4 y_6 hTy hT_h0) (cwV 3 hT (gV w1017 w1018 w1019 w1 w1020) rfl rfl rfl (by decide +kernel) ⟨(Nat.le_of_ble_eq_true rfl), (Nat.le_of_ble_eq_true rfl)⟩) ⟨pcN.blind, pl_recv hK hW hT_h0.1 hS_7 rfl, pcN.pre hW.1 hK hW.2.1 hN (fun q h => absurd h List.not_mem_nil)⟩ rfl rfl hl.1 rfl (lv_room (Nat.le_of_ble_eq_true rfl)) dL_law_1284 ⟨(Nat.le_of_ble_eq_true rfl), (Nat.le_of_ble_eq_true rfl)⟩) hW (fun q h => PW_A hW h) hA (fun r_8 S_9 H locs hrel hW => ?_)
  have hTy0 := hTy
  obtain ⟨hTy, hF1⟩ := hrel
  have hDI : DIs S_9 m0 := ⟨DI_0 hTy0 hTy hT_m0 hu50 hF1 (by decide) hDI.1, DI_2 hTy0 hTy hT_m0 hu52 hF1 (by decide) hDI.2⟩
  have hJY := JY_fr hF1 (by decide) (by decide) (by decide) (by decide) hJY
  refine lv_pop hx hb dL_law_1287 rfl ?_
  refine lv_aload_n hx hb dL_law_1288 rfl (lv_at hl 1 rfl) ?_
  refine lv_aload_n hx hb dL_law_1289 rfl (lv_at hl 3 rfl) ?_
  refine lv_iload_n hx hb dL_law_1290 rfl (lv_at hl 0 rfl) ?_
  refine lv_iconst (v := 1) hx hb dL_law_1291 (by decide) ?_
  refine lv_iadd hx hb dL_law_1292 ?_
  refine lv_topi (fun z_10 ez_10 => ?_)
  obtain rfl : z_10 = nI ((6 * i) + 1) := ez_10.trans (nI_add (6 * i) (1))
  refine va_sld hx hb hX hbl hbA hW.2.2 (vp_in_nI (n := (6 * i) + 1) (by omega) (by omega)) dL_law_1293 ?_
  refine lv_topi (fun y_11 ey_11 => ?_)
  obtain rfl : y_2 = y_11 := ey_2.trans ey_11.symm
  refine lv_aload_n hx hb dL_law_1294 rfl (lv_at hl 3 rfl) ?_
  refine lv_iload_n hx hb dL_law_1295 rfl (lv_at hl 0 rfl) ?_
  refine lv_iconst (v := 2) hx hb dL_law_1296 (by decide) ?_
  refine lv_iadd hx hb dL_law_1297 ?_
  refine lv_topi (fun z_12 ez_12 => ?_)
  obtain rfl : z_12 = nI ((6 * i) + 2) := ez_12.trans (nI_add (6 * i) (2))
  refine va_sld hx hb hX hbl hbA hW.2.2 (vp_in_nI (n := (6 * i) + 2) (by omega) (by omega)) dL_law_1298 ?_
  refine lv_topi (fun y_13 ey_13 => ?_)
  obtain rfl : y_4 = y_13 := ey_4.trans ey_13.symm
  refine lv_aload_n hx hb dL_law_1299 rfl (lv_at hl 3 rfl) ?_
  refine lv_iload_n hx hb dL_law_1300 rfl (lv_at hl 0 rfl) ?_
  refine lv_iconst (v := 3) hx hb dL_law_1301 (by decide) ?_
  refine lv_iadd hx hb dL_law_1302 ?_
  refine lv_topi (fun z_14 ez_14 => ?_)
  obtain rfl : z_14 = nI ((6 * i) + 3) := ez_14.trans (nI_add (6 * i) (3))
  refine va_sld hx hb hX hbl hbA hW.2.2 (vp_in_nI (n := (6 * i) + 3) (by omega) (by omega)) dL_law_1303 ?_
  refine lv_topi (fun y_15 ey_15 => ?_)
  obtain rfl : y_6 = y_15 := ey_6.trans ey_15.symm
  obtain ⟨_, _, _, _, _, _, _, _, _, _, _, _, _, _, _, _, _, _, _, _, _, _, _, _, _, _, _, _, _, _, _, hS_16, _, _, _, _, _, _, _, _, _, _, _, _, _, _, _, _, _, _, _, _, _, _, _, _, _, _, _⟩ := hTy.k12 hT_m0
  refine pl_calli (va_runV (As := [.int y_2, .int y_4, .int y_6]) (rest := []) ⟨hx, hb, hml, hown, hT⟩ (m_enough l dC dI cy L kap (t9, t9) S_9 H.size m0 y_2 y_4 y_6 hTy hT_m0) (cwV 3 hT (gV w1543 w1544 w1545 w14 w1546) rfl rfl rfl (by decide +kernel) ⟨(Nat.le_of_ble_eq_true rfl), (Nat.le_of_ble_eq_true rfl)⟩) ⟨pcN.blind, pl_recv hK hW hT_m0.1 hS_16 rfl, pcN.pre hW.1 hK hW.2.1 hN (fun q h => absurd h List.not_mem_nil)⟩ rfl rfl hl.1 rfl (lv_room (Nat.le_of_ble_eq_true rfl)) dL_law_1304 ⟨(Nat.le_of_ble_eq_true rfl), (Nat.le_of_ble_eq_true rfl)⟩) hW (fun q h => PW_A hW h) hA (fun r_17 S_18 H locs hrel hW => ?_)
  have hTy0 := hTy
  obtain ⟨hTy, hF1⟩ := hrel
  have hDI : DIs S_18 m0 := ⟨DI_0 hTy0 hTy hT_m0 hu50 hF1 (by decide) hDI.1, DI_2 hTy0 hTy hT_m0 hu52 hF1 (by decide) hDI.2⟩
  have hJY := JY_fr hF1 (by decide) (by decide) (by decide) (by decide) hJY
  refine lv_pop hx hb dL_law_1307 rfl ?_
  refine lv_goto (tgt := 1433) hx hb dL_law_1308 (by decide) ?_
  exact kk t9 S_18 H locs ls (by first | exact hTy) hDI hJY hW (lv_sub hl [0, 1, 2, 3] rfl)

set_option maxHeartbeats 4000000 in
set_option maxRecDepth 100000 in
/-- fewest -/
theorem law_33 {p : Program} {l : Launch} {e : Env} {s : State} {m : MethodId} {below : List Frame} {meth : Method} {c : Code} {b LN : Nat} {xs : Nat → Int32} (hx : p.tables.exec = Jvm.exec) (hb : c.code = code) (hr : meth.sig.returnType = ret) (hml : c.maxLocals = 4) (hown : s.vm.findClass RL = some m.cls) (hT : ∀ w ∈ TB, w.before #[Value.ref b] s = true) (hX : va_X b LN xs s s.heap) (hbl : b < s.heap.size) (hlocks : meth.locks = false) (hLN : LN ≤ 3072) {dC : Nat → ClassId} {dI : Nat → Nat → Nat} {cy : Nat → ClassId} {L : List Nat} {kap : Nat → Nat} {ad : (Nat → Nat) × (Nat → Nat)} {h0 m0 : Nat} (hK : va_K (dC, dI) vwCl (cyT cy) s) (hN : ∀ q ∈ NLs, va_Nw (.methodLinkNest q.1 q.2.1 q.2.2.1 q.2.2.2) s) (hSTR : STR ad (AL L s.heap.size) s s.heap) (hbA : ¬ AL L s.heap.size b) (hT_h0 : TK L kap h0 11) (hT_m0 : TK L kap m0 12) (hu6 : ∀ b9 c9, TK L kap b9 6 → TK L kap c9 6 → b9 = c9) (hu10 : ∀ b9 c9, TK L kap b9 10 → TK L kap c9 10 → b9 = c9) (hu12 : ∀ b9 c9, TK L kap b9 12 → TK L kap c9 12 → b9 = c9) (hu27 : ∀ b9 c9, TK L kap b9 27 → TK L kap c9 27 → b9 = c9) (hu50 : ∀ b9 c9, TK L kap b9 50 → TK L kap c9 50 → b9 = c9) (hu51 : ∀ b9 c9, TK L kap b9 51 → TK L kap c9 51 → b9 = c9) (hu52 : ∀ b9 c9, TK L kap b9 52 → TK L kap c9 52 → b9 = c9) (hu55 : ∀ b9 c9, TK L kap b9 55 → TK L kap c9 55 → b9 = c9) {i t9 : Nat} (hi : 6 * i + 6 ≤ LN) (kk : ∀ (t9 : Nat) (S : Nat → va_E) (H : Heap) (locs : List Loc) (ls : Array Slot), Ty cy L kap (t9, t9) S → DIs S m0 → JY L kap S → PW dC dI L (AL L s.heap.size) s.heap S H locs → lv_has ls 4 [(3, .int (nI (6 * i))), (2, .ref m0), (1, .ref h0), (0, .ref b)] → W p l e room_1 s m #[Value.ref b] below meth c H locs 152 10885 (lw_Z below #[Value.ref b] s) (F0 m 1433 ls [])) {S : Nat → va_E} {H : Heap} {locs : List Loc} {ls : Array Slot} (hTy : Ty cy L kap (t9, t9) S) (hDI : DIs S m0) (hJY : JY L kap S) (hW : PW dC dI L (AL L s.heap.size) s.heap S H locs) (hl : lv_has ls 4 [(3, .int (nI (6 * i))), (2, .ref m0), (1, .ref h0), (0, .ref b)]) : W p l e room_1 s m #[Value.ref b] below meth c H locs 152 10885 (lw_Z below #[Value.ref b] s) (F0 m 1311 ls []) := by
  have hA : ∀ q, s.heap.size ≤ q → AL L s.heap.size q := fun _ h => Or.inr h
  refine lv_aload_n hx hb dL_law_1311 rfl (lv_at hl 2 rfl) ?_
  refine lv_aload_n hx hb dL_law_1312 rfl (lv_at hl 3 rfl) ?_
  refine lv_iload_n hx hb dL_law_1313 rfl (lv_at hl 0 rfl) ?_
  refine lv_iconst (v := 1) hx hb dL_law_1314 (by decide) ?_
  refine lv_iadd hx hb dL_law_1315 ?_
  refine lv_topi (fun z_1 ez_1 => ?_)
  obtain rfl : z_1 = nI ((6 * i) + 1) := ez_1.trans (nI_add (6 * i) (1))
  refine va_sld hx hb hX hbl hbA hW.2.2 (vp_in_nI (n := (6 * i) + 1) (by omega) (by omega)) dL_law_1316 ?_
  refine lv_topi (fun y_2 ey_2 => ?_)
  refine lv_aload_n hx hb dL_law_1317 rfl (lv_at hl 3 rfl) ?_
  refine lv_iload_n hx hb dL_law_1318 rfl (lv_at hl 0 rfl) ?_
  refine lv_iconst (v := 2) hx hb dL_law_1319 (by decide) ?_
  refine lv_iadd hx hb dL_law_1320 ?_
  refine lv_topi (fun z_3 ez_3 => ?_)
  obtain rfl : z_3 = nI ((6 * i) + 2) := ez_3.trans (nI_add (6 * i) (2))
  refine va_sld hx hb hX hbl hbA hW.2.2 (vp_in_nI (n := (6 * i) + 2) (by omega) (by omega)) dL_law_1321 ?_
  refine lv_topi (fun y_4 ey_4 => ?_)
  obtain ⟨_, _, _, _, _, _, _, _, _, _, _, _, _, hS_5, _, _, _, _, _, _, _, _, _, _, _, _⟩ := hTy.k11 hT_h0
  refine pl_calli (va_runV (As := [.int y_2, .int y_4]) (rest := []) ⟨hx, hb, hml, hown, hT⟩ (k_fewest l dC dI cy L kap (t9, t9) S H.size h0 y_2 y_4 hTy hT_h0) (cwV 2 hT (gV w1022 w1023 w1024 w1 w1025) rfl rfl rfl (by decide +kernel) ⟨(Nat.le_of_ble_eq_true rfl), (Nat.le_of_ble_eq_true rfl)⟩) ⟨pcN.blind, pl_recv hK hW hT_h0.1 hS_5 rfl, pcN.pre hW.1 hK hW.2.1 hN (fun q h => absurd h List.not_mem_nil)⟩ rfl rfl hl.1 rfl (lv_room (Nat.le_of_ble_eq_true rfl)) dL_law_1322 ⟨(Nat.le_of_ble_eq_true rfl), (Nat.le_of_ble_eq_true rfl)⟩) hW (fun q h => PW_A hW h) hA (fun r_6 S_7 H locs hrel hW => ?_)
  have hTy0 := hTy
  obtain ⟨hTy, hF1⟩ := hrel
  have hDI : DIs S_7 m0 := ⟨DI_0 hTy0 hTy hT_m0 hu50 hF1 (by decide) hDI.1, DI_2 hTy0 hTy hT_m0 hu52 hF1 (by decide) hDI.2⟩
  have hJY := JY_fr hF1 (by decide) (by decide) (by decide) (by decide) hJY
  refine lv_pop hx hb dL_law_1325 rfl ?_
  refine lv_aload_n hx hb dL_law_1326 rfl (lv_at hl 1 rfl) ?_
  refine lv_aload_n hx hb dL_law_1327 rfl (lv_at hl 3 rfl) ?_
  refine lv_iload_n hx hb dL_law_1328 rfl (lv_at hl 0 rfl) ?_
  refine lv_iconst (v := 1) hx hb dL_law_1329 (by decide) ?_
  refine lv_iadd hx hb dL_law_1330 ?_
  refine lv_topi (fun z_8 ez_8 => ?_)
  obtain rfl : z_8 = nI ((6 * i) + 1) := ez_8.trans (nI_add (6 * i) (1))
  refine va_sld hx hb hX hbl hbA hW.2.2 (vp_in_nI (n := (6 * i) + 1) (by omega) (by omega)) dL_law_1331 ?_
  refine lv_topi (fun y_9 ey_9 => ?_)
  obtain rfl : y_2 = y_9 := ey_2.trans ey_9.symm
  refine lv_aload_n hx hb dL_law_1332 rfl (lv_at hl 3 rfl) ?_
  refine lv_iload_n hx hb dL_law_1333 rfl (lv_at hl 0 rfl) ?_
  refine lv_iconst (v := 2) hx hb dL_law_1334 (by decide) ?_
  refine lv_iadd hx hb dL_law_1335 ?_
  refine lv_topi (fun z_10 ez_10 => ?_)
  obtain rfl : z_10 = nI ((6 * i) + 2) := ez_10.trans (nI_add (6 * i) (2))
  refine va_sld hx hb hX hbl hbA hW.2.2 (vp_in_nI (n := (6 * i) + 2) (by omega) (by omega)) dL_law_1336 ?_
  refine lv_topi (fun y_11 ey_11 => ?_)
  obtain rfl : y_4 = y_11 := ey_4.trans ey_11.symm
  obtain ⟨_, _, _, _, _, _, _, _, _, _, _, _, _, _, _, _, _, _, _, _, _, _, _, _, _, _, _, _, _, _, _, hS_12, _, _, _, _, _, _, _, _, _, _, _, _, _, _, _, _, _, _, _, _, _, _, _, _, _, _, _⟩ := hTy.k12 hT_m0
  refine pl_calli (va_runV (As := [.int y_2, .int y_4]) (rest := []) ⟨hx, hb, hml, hown, hT⟩ (m_fewest l dC dI cy L kap (t9, t9) S_7 H.size m0 y_2 y_4 hTy hT_m0) (cwV 2 hT (gV w1551 w1552 w1553 w14 w1554) rfl rfl rfl (by decide +kernel) ⟨(Nat.le_of_ble_eq_true rfl), (Nat.le_of_ble_eq_true rfl)⟩) ⟨pcN.blind, pl_recv hK hW hT_m0.1 hS_12 rfl, pcN.pre hW.1 hK hW.2.1 hN (fun q h => absurd h List.not_mem_nil)⟩ rfl rfl hl.1 rfl (lv_room (Nat.le_of_ble_eq_true rfl)) dL_law_1337 ⟨(Nat.le_of_ble_eq_true rfl), (Nat.le_of_ble_eq_true rfl)⟩) hW (fun q h => PW_A hW h) hA (fun r_13 S_14 H locs hrel hW => ?_)
  have hTy0 := hTy
  obtain ⟨hTy, hF1⟩ := hrel
  have hDI : DIs S_14 m0 := ⟨DI_0 hTy0 hTy hT_m0 hu50 hF1 (by decide) hDI.1, DI_2 hTy0 hTy hT_m0 hu52 hF1 (by decide) hDI.2⟩
  have hJY := JY_fr hF1 (by decide) (by decide) (by decide) (by decide) hJY
  refine lv_pop hx hb dL_law_1340 rfl ?_
  refine lv_goto (tgt := 1433) hx hb dL_law_1341 (by decide) ?_
  exact kk t9 S_14 H locs ls (by first | exact hTy) hDI hJY hW (lv_sub hl [0, 1, 2, 3] rfl)

set_option maxHeartbeats 4000000 in
set_option maxRecDepth 100000 in
/-- even -/
theorem law_34 {p : Program} {l : Launch} {e : Env} {s : State} {m : MethodId} {below : List Frame} {meth : Method} {c : Code} {b LN : Nat} {xs : Nat → Int32} (hx : p.tables.exec = Jvm.exec) (hb : c.code = code) (hr : meth.sig.returnType = ret) (hml : c.maxLocals = 4) (hown : s.vm.findClass RL = some m.cls) (hT : ∀ w ∈ TB, w.before #[Value.ref b] s = true) (hX : va_X b LN xs s s.heap) (hbl : b < s.heap.size) (hlocks : meth.locks = false) (hLN : LN ≤ 3072) {dC : Nat → ClassId} {dI : Nat → Nat → Nat} {cy : Nat → ClassId} {L : List Nat} {kap : Nat → Nat} {ad : (Nat → Nat) × (Nat → Nat)} {h0 m0 : Nat} (hK : va_K (dC, dI) vwCl (cyT cy) s) (hN : ∀ q ∈ NLs, va_Nw (.methodLinkNest q.1 q.2.1 q.2.2.1 q.2.2.2) s) (hSTR : STR ad (AL L s.heap.size) s s.heap) (hbA : ¬ AL L s.heap.size b) (hT_h0 : TK L kap h0 11) (hT_m0 : TK L kap m0 12) (hu6 : ∀ b9 c9, TK L kap b9 6 → TK L kap c9 6 → b9 = c9) (hu10 : ∀ b9 c9, TK L kap b9 10 → TK L kap c9 10 → b9 = c9) (hu12 : ∀ b9 c9, TK L kap b9 12 → TK L kap c9 12 → b9 = c9) (hu27 : ∀ b9 c9, TK L kap b9 27 → TK L kap c9 27 → b9 = c9) (hu50 : ∀ b9 c9, TK L kap b9 50 → TK L kap c9 50 → b9 = c9) (hu51 : ∀ b9 c9, TK L kap b9 51 → TK L kap c9 51 → b9 = c9) (hu52 : ∀ b9 c9, TK L kap b9 52 → TK L kap c9 52 → b9 = c9) (hu55 : ∀ b9 c9, TK L kap b9 55 → TK L kap c9 55 → b9 = c9) {i t9 : Nat} (hi : 6 * i + 6 ≤ LN) (kk : ∀ (t9 : Nat) (S : Nat → va_E) (H : Heap) (locs : List Loc) (ls : Array Slot), Ty cy L kap (t9, t9) S → DIs S m0 → JY L kap S → PW dC dI L (AL L s.heap.size) s.heap S H locs → lv_has ls 4 [(3, .int (nI (6 * i))), (2, .ref m0), (1, .ref h0), (0, .ref b)] → W p l e room_1 s m #[Value.ref b] below meth c H locs 152 10885 (lw_Z below #[Value.ref b] s) (F0 m 1433 ls [])) {S : Nat → va_E} {H : Heap} {locs : List Loc} {ls : Array Slot} (hTy : Ty cy L kap (t9, t9) S) (hDI : DIs S m0) (hJY : JY L kap S) (hW : PW dC dI L (AL L s.heap.size) s.heap S H locs) (hl : lv_has ls 4 [(3, .int (nI (6 * i))), (2, .ref m0), (1, .ref h0), (0, .ref b)]) : W p l e room_1 s m #[Value.ref b] below meth c H locs 152 10885 (lw_Z below #[Value.ref b] s) (F0 m 1344 ls []) := by
  have hA : ∀ q, s.heap.size ≤ q → AL L s.heap.size q := fun _ h => Or.inr h
  refine lv_aload_n hx hb dL_law_1344 rfl (lv_at hl 2 rfl) ?_
  refine lv_aload_n hx hb dL_law_1345 rfl (lv_at hl 3 rfl) ?_
  refine lv_iload_n hx hb dL_law_1346 rfl (lv_at hl 0 rfl) ?_
  refine lv_iconst (v := 1) hx hb dL_law_1347 (by decide) ?_
  refine lv_iadd hx hb dL_law_1348 ?_
  refine lv_topi (fun z_1 ez_1 => ?_)
  obtain rfl : z_1 = nI ((6 * i) + 1) := ez_1.trans (nI_add (6 * i) (1))
  refine va_sld hx hb hX hbl hbA hW.2.2 (vp_in_nI (n := (6 * i) + 1) (by omega) (by omega)) dL_law_1349 ?_
  refine lv_topi (fun y_2 ey_2 => ?_)
  refine lv_aload_n hx hb dL_law_1350 rfl (lv_at hl 3 rfl) ?_
  refine lv_iload_n hx hb dL_law_1351 rfl (lv_at hl 0 rfl) ?_
  refine lv_iconst (v := 2) hx hb dL_law_1352 (by decide) ?_
  refine lv_iadd hx hb dL_law_1353 ?_
  refine lv_topi (fun z_3 ez_3 => ?_)
  obtain rfl : z_3 = nI ((6 * i) + 2) := ez_3.trans (nI_add (6 * i) (2))
  refine va_sld hx hb hX hbl hbA hW.2.2 (vp_in_nI (n := (6 * i) + 2) (by omega) (by omega)) dL_law_1354 ?_
  refine lv_topi (fun y_4 ey_4 => ?_)
  obtain ⟨_, _, _, _, _, _, _, _, _, _, _, _, _, hS_5, _, _, _, _, _, _, _, _, _, _, _, _⟩ := hTy.k11 hT_h0
  refine pl_calli (va_runV (As := [.int y_2, .int y_4]) (rest := []) ⟨hx, hb, hml, hown, hT⟩ (k_even l dC dI cy L kap (t9, t9) S H.size h0 y_2 y_4 hTy hT_h0) (cwV 2 hT (gV w1036 w1037 w1038 w1 w1039) rfl rfl rfl (by decide +kernel) ⟨(Nat.le_of_ble_eq_true rfl), (Nat.le_of_ble_eq_true rfl)⟩) ⟨pcN.blind, pl_recv hK hW hT_h0.1 hS_5 rfl, pcN.pre hW.1 hK hW.2.1 hN (fun q h => absurd h List.not_mem_nil)⟩ rfl rfl hl.1 rfl (lv_room (Nat.le_of_ble_eq_true rfl)) dL_law_1355 ⟨(Nat.le_of_ble_eq_true rfl), (Nat.le_of_ble_eq_true rfl)⟩) hW (fun q h => PW_A hW h) hA (fun r_6 S_7 H locs hrel hW => ?_)
  have hTy0 := hTy
  obtain ⟨hTy, hF1⟩ := hrel
  have hDI : DIs S_7 m0 := ⟨DI_0 hTy0 hTy hT_m0 hu50 hF1 (by decide) hDI.1, DI_2 hTy0 hTy hT_m0 hu52 hF1 (by decide) hDI.2⟩
  have hJY := JY_fr hF1 (by decide) (by decide) (by decide) (by decide) hJY
  refine lv_pop hx hb dL_law_1358 rfl ?_
  refine lv_aload_n hx hb dL_law_1359 rfl (lv_at hl 1 rfl) ?_
  refine lv_aload_n hx hb dL_law_1360 rfl (lv_at hl 3 rfl) ?_
  refine lv_iload_n hx hb dL_law_1361 rfl (lv_at hl 0 rfl) ?_
  refine lv_iconst (v := 1) hx hb dL_law_1362 (by decide) ?_
  refine lv_iadd hx hb dL_law_1363 ?_
  refine lv_topi (fun z_8 ez_8 => ?_)
  obtain rfl : z_8 = nI ((6 * i) + 1) := ez_8.trans (nI_add (6 * i) (1))
  refine va_sld hx hb hX hbl hbA hW.2.2 (vp_in_nI (n := (6 * i) + 1) (by omega) (by omega)) dL_law_1364 ?_
  refine lv_topi (fun y_9 ey_9 => ?_)
  obtain rfl : y_2 = y_9 := ey_2.trans ey_9.symm
  refine lv_aload_n hx hb dL_law_1365 rfl (lv_at hl 3 rfl) ?_
  refine lv_iload_n hx hb dL_law_1366 rfl (lv_at hl 0 rfl) ?_
  refine lv_iconst (v := 2) hx hb dL_law_1367 (by decide) ?_
  refine lv_iadd hx hb dL_law_1368 ?_
  refine lv_topi (fun z_10 ez_10 => ?_)
  obtain rfl : z_10 = nI ((6 * i) + 2) := ez_10.trans (nI_add (6 * i) (2))
  refine va_sld hx hb hX hbl hbA hW.2.2 (vp_in_nI (n := (6 * i) + 2) (by omega) (by omega)) dL_law_1369 ?_
  refine lv_topi (fun y_11 ey_11 => ?_)
  obtain rfl : y_4 = y_11 := ey_4.trans ey_11.symm
  obtain ⟨_, _, _, _, _, _, _, _, _, _, _, _, _, _, _, _, _, _, _, _, _, _, _, _, _, _, _, _, _, _, _, hS_12, _, _, _, _, _, _, _, _, _, _, _, _, _, _, _, _, _, _, _, _, _, _, _, _, _, _, _⟩ := hTy.k12 hT_m0
  refine pl_calli (va_runV (As := [.int y_2, .int y_4]) (rest := []) ⟨hx, hb, hml, hown, hT⟩ (m_even l dC dI cy L kap (t9, t9) S_7 H.size m0 y_2 y_4 hTy hT_m0) (cwV 2 hT (gV w1559 w1560 w1561 w14 w1562) rfl rfl rfl (by decide +kernel) ⟨(Nat.le_of_ble_eq_true rfl), (Nat.le_of_ble_eq_true rfl)⟩) ⟨pcN.blind, pl_recv hK hW hT_m0.1 hS_12 rfl, pcN.pre hW.1 hK hW.2.1 hN (fun q h => absurd h List.not_mem_nil)⟩ rfl rfl hl.1 rfl (lv_room (Nat.le_of_ble_eq_true rfl)) dL_law_1370 ⟨(Nat.le_of_ble_eq_true rfl), (Nat.le_of_ble_eq_true rfl)⟩) hW (fun q h => PW_A hW h) hA (fun r_13 S_14 H locs hrel hW => ?_)
  have hTy0 := hTy
  obtain ⟨hTy, hF1⟩ := hrel
  have hDI : DIs S_14 m0 := ⟨DI_0 hTy0 hTy hT_m0 hu50 hF1 (by decide) hDI.1, DI_2 hTy0 hTy hT_m0 hu52 hF1 (by decide) hDI.2⟩
  have hJY := JY_fr hF1 (by decide) (by decide) (by decide) (by decide) hJY
  refine lv_pop hx hb dL_law_1373 rfl ?_
  refine lv_goto (tgt := 1433) hx hb dL_law_1374 (by decide) ?_
  exact kk t9 S_14 H locs ls (by first | exact hTy) hDI hJY hW (lv_sub hl [0, 1, 2, 3] rfl)

set_option maxHeartbeats 4000000 in
set_option maxRecDepth 100000 in
/-- line -/
theorem law_35 {p : Program} {l : Launch} {e : Env} {s : State} {m : MethodId} {below : List Frame} {meth : Method} {c : Code} {b LN : Nat} {xs : Nat → Int32} (hx : p.tables.exec = Jvm.exec) (hb : c.code = code) (hr : meth.sig.returnType = ret) (hml : c.maxLocals = 4) (hown : s.vm.findClass RL = some m.cls) (hT : ∀ w ∈ TB, w.before #[Value.ref b] s = true) (hX : va_X b LN xs s s.heap) (hbl : b < s.heap.size) (hlocks : meth.locks = false) (hLN : LN ≤ 3072) {dC : Nat → ClassId} {dI : Nat → Nat → Nat} {cy : Nat → ClassId} {L : List Nat} {kap : Nat → Nat} {ad : (Nat → Nat) × (Nat → Nat)} {h0 m0 : Nat} (hK : va_K (dC, dI) vwCl (cyT cy) s) (hN : ∀ q ∈ NLs, va_Nw (.methodLinkNest q.1 q.2.1 q.2.2.1 q.2.2.2) s) (hSTR : STR ad (AL L s.heap.size) s s.heap) (hbA : ¬ AL L s.heap.size b) (hT_h0 : TK L kap h0 11) (hT_m0 : TK L kap m0 12) (hu6 : ∀ b9 c9, TK L kap b9 6 → TK L kap c9 6 → b9 = c9) (hu10 : ∀ b9 c9, TK L kap b9 10 → TK L kap c9 10 → b9 = c9) (hu12 : ∀ b9 c9, TK L kap b9 12 → TK L kap c9 12 → b9 = c9) (hu27 : ∀ b9 c9, TK L kap b9 27 → TK L kap c9 27 → b9 = c9) (hu50 : ∀ b9 c9, TK L kap b9 50 → TK L kap c9 50 → b9 = c9) (hu51 : ∀ b9 c9, TK L kap b9 51 → TK L kap c9 51 → b9 = c9) (hu52 : ∀ b9 c9, TK L kap b9 52 → TK L kap c9 52 → b9 = c9) (hu55 : ∀ b9 c9, TK L kap b9 55 → TK L kap c9 55 → b9 = c9) {i t9 : Nat} (hi : 6 * i + 6 ≤ LN) (kk : ∀ (t9 : Nat) (S : Nat → va_E) (H : Heap) (locs : List Loc) (ls : Array Slot), Ty cy L kap (t9, t9) S → DIs S m0 → JY L kap S → PW dC dI L (AL L s.heap.size) s.heap S H locs → lv_has ls 4 [(3, .int (nI (6 * i))), (2, .ref m0), (1, .ref h0), (0, .ref b)] → W p l e room_1 s m #[Value.ref b] below meth c H locs 152 10885 (lw_Z below #[Value.ref b] s) (F0 m 1433 ls [])) {S : Nat → va_E} {H : Heap} {locs : List Loc} {ls : Array Slot} (hTy : Ty cy L kap (t9, t9) S) (hDI : DIs S m0) (hJY : JY L kap S) (hW : PW dC dI L (AL L s.heap.size) s.heap S H locs) (hl : lv_has ls 4 [(3, .int (nI (6 * i))), (2, .ref m0), (1, .ref h0), (0, .ref b)]) : W p l e room_1 s m #[Value.ref b] below meth c H locs 152 10885 (lw_Z below #[Value.ref b] s) (F0 m 1377 ls []) := by
  have hA : ∀ q, s.heap.size ≤ q → AL L s.heap.size q := fun _ h => Or.inr h
  refine lv_aload_n hx hb dL_law_1377 rfl (lv_at hl 2 rfl) ?_
  refine lv_aload_n hx hb dL_law_1378 rfl (lv_at hl 3 rfl) ?_
  refine lv_iload_n hx hb dL_law_1379 rfl (lv_at hl 0 rfl) ?_
  refine lv_iconst (v := 1) hx hb dL_law_1380 (by decide) ?_
  refine lv_iadd hx hb dL_law_1381 ?_
  refine lv_topi (fun z_1 ez_1 => ?_)
  obtain rfl : z_1 = nI ((6 * i) + 1) := ez_1.trans (nI_add (6 * i) (1))
  refine va_sld hx hb hX hbl hbA hW.2.2 (vp_in_nI (n := (6 * i) + 1) (by omega) (by omega)) dL_law_1382 ?_
  refine lv_topi (fun y_2 ey_2 => ?_)
  refine lv_aload_n hx hb dL_law_1383 rfl (lv_at hl 3 rfl) ?_
  refine lv_iload_n hx hb dL_law_1384 rfl (lv_at hl 0 rfl) ?_
  refine lv_iconst (v := 2) hx hb dL_law_1385 (by decide) ?_
  refine lv_iadd hx hb dL_law_1386 ?_
  refine lv_topi (fun z_3 ez_3 => ?_)
  obtain rfl : z_3 = nI ((6 * i) + 2) := ez_3.trans (nI_add (6 * i) (2))
  refine va_sld hx hb hX hbl hbA hW.2.2 (vp_in_nI (n := (6 * i) + 2) (by omega) (by omega)) dL_law_1387 ?_
  refine lv_topi (fun y_4 ey_4 => ?_)
  obtain ⟨_, _, _, _, _, _, _, _, _, _, _, _, _, hS_5, _, _, _, _, _, _, _, _, _, _, _, _⟩ := hTy.k11 hT_h0
  refine pl_calli (va_runV (As := [.int y_2, .int y_4]) (rest := []) ⟨hx, hb, hml, hown, hT⟩ (k_line l dC dI cy L kap (t9, t9) S H.size h0 y_2 y_4 hTy hT_h0) (cwV 2 hT (gV w1041 w1042 w1043 w1 w1044) rfl rfl rfl (by decide +kernel) ⟨(Nat.le_of_ble_eq_true rfl), (Nat.le_of_ble_eq_true rfl)⟩) ⟨pcN.blind, pl_recv hK hW hT_h0.1 hS_5 rfl, pcN.pre hW.1 hK hW.2.1 hN (fun q h => absurd h List.not_mem_nil)⟩ rfl rfl hl.1 rfl (lv_room (Nat.le_of_ble_eq_true rfl)) dL_law_1388 ⟨(Nat.le_of_ble_eq_true rfl), (Nat.le_of_ble_eq_true rfl)⟩) hW (fun q h => PW_A hW h) hA (fun r_6 S_7 H locs hrel hW => ?_)
  have hTy0 := hTy
  obtain ⟨hTy, hF1⟩ := hrel
  have hDI : DIs S_7 m0 := ⟨DI_0 hTy0 hTy hT_m0 hu50 hF1 (by decide) hDI.1, DI_2 hTy0 hTy hT_m0 hu52 hF1 (by decide) hDI.2⟩
  have hJY := JY_fr hF1 (by decide) (by decide) (by decide) (by decide) hJY
  refine lv_pop hx hb dL_law_1391 rfl ?_
  refine lv_aload_n hx hb dL_law_1392 rfl (lv_at hl 1 rfl) ?_
  refine lv_aload_n hx hb dL_law_1393 rfl (lv_at hl 3 rfl) ?_
  refine lv_iload_n hx hb dL_law_1394 rfl (lv_at hl 0 rfl) ?_
  refine lv_iconst (v := 1) hx hb dL_law_1395 (by decide) ?_
  refine lv_iadd hx hb dL_law_1396 ?_
  refine lv_topi (fun z_8 ez_8 => ?_)
  obtain rfl : z_8 = nI ((6 * i) + 1) := ez_8.trans (nI_add (6 * i) (1))
  refine va_sld hx hb hX hbl hbA hW.2.2 (vp_in_nI (n := (6 * i) + 1) (by omega) (by omega)) dL_law_1397 ?_
  refine lv_topi (fun y_9 ey_9 => ?_)
  obtain rfl : y_2 = y_9 := ey_2.trans ey_9.symm
  refine lv_aload_n hx hb dL_law_1398 rfl (lv_at hl 3 rfl) ?_
  refine lv_iload_n hx hb dL_law_1399 rfl (lv_at hl 0 rfl) ?_
  refine lv_iconst (v := 2) hx hb dL_law_1400 (by decide) ?_
  refine lv_iadd hx hb dL_law_1401 ?_
  refine lv_topi (fun z_10 ez_10 => ?_)
  obtain rfl : z_10 = nI ((6 * i) + 2) := ez_10.trans (nI_add (6 * i) (2))
  refine va_sld hx hb hX hbl hbA hW.2.2 (vp_in_nI (n := (6 * i) + 2) (by omega) (by omega)) dL_law_1402 ?_
  refine lv_topi (fun y_11 ey_11 => ?_)
  obtain rfl : y_4 = y_11 := ey_4.trans ey_11.symm
  obtain ⟨_, _, _, _, _, _, _, _, _, _, _, _, _, _, _, _, _, _, _, _, _, _, _, _, _, _, _, _, _, _, _, hS_12, _, _, _, _, _, _, _, _, _, _, _, _, _, _, _, _, _, _, _, _, _, _, _, _, _, _, _⟩ := hTy.k12 hT_m0
  refine pl_calli (va_runV (As := [.int y_2, .int y_4]) (rest := []) ⟨hx, hb, hml, hown, hT⟩ (m_lineOf l dC dI cy L kap (t9, t9) S_7 H.size m0 y_2 y_4 hTy hT_m0) (cwV 2 hT (gV w1563 w1564 w1565 w14 w1566) rfl rfl rfl (by decide +kernel) ⟨(Nat.le_of_ble_eq_true rfl), (Nat.le_of_ble_eq_true rfl)⟩) ⟨pcN.blind, pl_recv hK hW hT_m0.1 hS_12 rfl, pcN.pre hW.1 hK hW.2.1 hN (fun q h => absurd h List.not_mem_nil)⟩ rfl rfl hl.1 rfl (lv_room (Nat.le_of_ble_eq_true rfl)) dL_law_1403 ⟨(Nat.le_of_ble_eq_true rfl), (Nat.le_of_ble_eq_true rfl)⟩) hW (fun q h => PW_A hW h) hA (fun r_13 S_14 H locs hrel hW => ?_)
  have hTy0 := hTy
  obtain ⟨hTy, hF1⟩ := hrel
  have hDI : DIs S_14 m0 := ⟨DI_0 hTy0 hTy hT_m0 hu50 hF1 (by decide) hDI.1, DI_2 hTy0 hTy hT_m0 hu52 hF1 (by decide) hDI.2⟩
  have hJY := JY_fr hF1 (by decide) (by decide) (by decide) (by decide) hJY
  refine lv_pop hx hb dL_law_1406 rfl ?_
  refine lv_goto (tgt := 1433) hx hb dL_law_1407 (by decide) ?_
  exact kk t9 S_14 H locs ls (by first | exact hTy) hDI hJY hW (lv_sub hl [0, 1, 2, 3] rfl)

set_option maxHeartbeats 4000000 in
set_option maxRecDepth 100000 in
/-- count -/
theorem law_36 {p : Program} {l : Launch} {e : Env} {s : State} {m : MethodId} {below : List Frame} {meth : Method} {c : Code} {b LN : Nat} {xs : Nat → Int32} (hx : p.tables.exec = Jvm.exec) (hb : c.code = code) (hr : meth.sig.returnType = ret) (hml : c.maxLocals = 4) (hown : s.vm.findClass RL = some m.cls) (hT : ∀ w ∈ TB, w.before #[Value.ref b] s = true) (hX : va_X b LN xs s s.heap) (hbl : b < s.heap.size) (hlocks : meth.locks = false) (hLN : LN ≤ 3072) {dC : Nat → ClassId} {dI : Nat → Nat → Nat} {cy : Nat → ClassId} {L : List Nat} {kap : Nat → Nat} {ad : (Nat → Nat) × (Nat → Nat)} {h0 m0 : Nat} (hK : va_K (dC, dI) vwCl (cyT cy) s) (hN : ∀ q ∈ NLs, va_Nw (.methodLinkNest q.1 q.2.1 q.2.2.1 q.2.2.2) s) (hSTR : STR ad (AL L s.heap.size) s s.heap) (hbA : ¬ AL L s.heap.size b) (hT_h0 : TK L kap h0 11) (hT_m0 : TK L kap m0 12) (hu6 : ∀ b9 c9, TK L kap b9 6 → TK L kap c9 6 → b9 = c9) (hu10 : ∀ b9 c9, TK L kap b9 10 → TK L kap c9 10 → b9 = c9) (hu12 : ∀ b9 c9, TK L kap b9 12 → TK L kap c9 12 → b9 = c9) (hu27 : ∀ b9 c9, TK L kap b9 27 → TK L kap c9 27 → b9 = c9) (hu50 : ∀ b9 c9, TK L kap b9 50 → TK L kap c9 50 → b9 = c9) (hu51 : ∀ b9 c9, TK L kap b9 51 → TK L kap c9 51 → b9 = c9) (hu52 : ∀ b9 c9, TK L kap b9 52 → TK L kap c9 52 → b9 = c9) (hu55 : ∀ b9 c9, TK L kap b9 55 → TK L kap c9 55 → b9 = c9) {i t9 : Nat} (hi : 6 * i + 6 ≤ LN) (kk : ∀ (t9 : Nat) (S : Nat → va_E) (H : Heap) (locs : List Loc) (ls : Array Slot), Ty cy L kap (t9, t9) S → DIs S m0 → JY L kap S → PW dC dI L (AL L s.heap.size) s.heap S H locs → lv_has ls 4 [(3, .int (nI (6 * i))), (2, .ref m0), (1, .ref h0), (0, .ref b)] → W p l e room_1 s m #[Value.ref b] below meth c H locs 152 10885 (lw_Z below #[Value.ref b] s) (F0 m 1433 ls [])) {S : Nat → va_E} {H : Heap} {locs : List Loc} {ls : Array Slot} (hTy : Ty cy L kap (t9, t9) S) (hDI : DIs S m0) (hJY : JY L kap S) (hW : PW dC dI L (AL L s.heap.size) s.heap S H locs) (hl : lv_has ls 4 [(3, .int (nI (6 * i))), (2, .ref m0), (1, .ref h0), (0, .ref b)]) : W p l e room_1 s m #[Value.ref b] below meth c H locs 152 10885 (lw_Z below #[Value.ref b] s) (F0 m 1410 ls []) := by
  have hA : ∀ q, s.heap.size ≤ q → AL L s.heap.size q := fun _ h => Or.inr h
  refine lv_aload_n hx hb dL_law_1410 rfl (lv_at hl 2 rfl) ?_
  refine lv_aload_n hx hb dL_law_1411 rfl (lv_at hl 3 rfl) ?_
  refine lv_iload_n hx hb dL_law_1412 rfl (lv_at hl 0 rfl) ?_
  refine lv_iconst (v := 1) hx hb dL_law_1413 (by decide) ?_
  refine lv_iadd hx hb dL_law_1414 ?_
  refine lv_topi (fun z_1 ez_1 => ?_)
  obtain rfl : z_1 = nI ((6 * i) + 1) := ez_1.trans (nI_add (6 * i) (1))
  refine va_sld hx hb hX hbl hbA hW.2.2 (vp_in_nI (n := (6 * i) + 1) (by omega) (by omega)) dL_law_1415 ?_
  refine lv_topi (fun y_2 ey_2 => ?_)
  obtain ⟨_, _, _, _, _, _, _, _, _, _, _, _, _, hS_3, _, _, _, _, _, _, _, _, _, _, _, _⟩ := hTy.k11 hT_h0
  refine pl_calli (va_runV (As := [.int y_2]) (rest := []) ⟨hx, hb, hml, hown, hT⟩ (k_count l dC dI cy L kap (t9, t9) S H.size h0 y_2 hTy hT_h0) (cwV 1 hT (gV w1063 w1064 w1065 w1 w1066) rfl rfl rfl (by decide +kernel) ⟨(Nat.le_of_ble_eq_true rfl), (Nat.le_of_ble_eq_true rfl)⟩) ⟨pcN.blind, pl_recv hK hW hT_h0.1 hS_3 rfl, pcN.pre hW.1 hK hW.2.1 hN (fun q h => absurd h List.not_mem_nil)⟩ rfl rfl hl.1 rfl (lv_room (Nat.le_of_ble_eq_true rfl)) dL_law_1416 ⟨(Nat.le_of_ble_eq_true rfl), (Nat.le_of_ble_eq_true rfl)⟩) hW (fun q h => PW_A hW h) hA (fun r_4 S_5 H locs hrel hW => ?_)
  have hTy0 := hTy
  obtain ⟨hTy, hF1⟩ := hrel
  have hDI : DIs S_5 m0 := ⟨DI_0 hTy0 hTy hT_m0 hu50 hF1 (by decide) hDI.1, DI_2 hTy0 hTy hT_m0 hu52 hF1 (by decide) hDI.2⟩
  have hJY := JY_fr hF1 (by decide) (by decide) (by decide) (by decide) hJY
  refine lv_pop hx hb dL_law_1419 rfl ?_
  refine lv_aload_n hx hb dL_law_1420 rfl (lv_at hl 1 rfl) ?_
  refine lv_aload_n hx hb dL_law_1421 rfl (lv_at hl 3 rfl) ?_
  refine lv_iload_n hx hb dL_law_1422 rfl (lv_at hl 0 rfl) ?_
  refine lv_iconst (v := 1) hx hb dL_law_1423 (by decide) ?_
  refine lv_iadd hx hb dL_law_1424 ?_
  refine lv_topi (fun z_6 ez_6 => ?_)
  obtain rfl : z_6 = nI ((6 * i) + 1) := ez_6.trans (nI_add (6 * i) (1))
  refine va_sld hx hb hX hbl hbA hW.2.2 (vp_in_nI (n := (6 * i) + 1) (by omega) (by omega)) dL_law_1425 ?_
  refine lv_topi (fun y_7 ey_7 => ?_)
  obtain rfl : y_2 = y_7 := ey_2.trans ey_7.symm
  obtain ⟨_, _, _, _, _, _, _, _, _, _, _, _, _, _, _, _, _, _, _, _, _, _, _, _, _, _, _, _, _, _, _, hS_8, _, _, _, _, _, _, _, _, _, _, _, _, _, _, _, _, _, _, _, _, _, _, _, _, _, _, _⟩ := hTy.k12 hT_m0
  refine pl_calli (va_runV (As := [.int y_2]) (rest := []) ⟨hx, hb, hml, hown, hT⟩ (m_count l dC dI cy L kap (t9, t9) S_5 H.size m0 y_2 hTy hT_m0) (cwV 1 hT (gV w1580 w1581 w1582 w14 w1583) rfl rfl rfl (by decide +kernel) ⟨(Nat.le_of_ble_eq_true rfl), (Nat.le_of_ble_eq_true rfl)⟩) ⟨pcN.blind, pl_recv hK hW hT_m0.1 hS_8 rfl, pcN.pre hW.1 hK hW.2.1 hN (fun q h => absurd h List.not_mem_nil)⟩ rfl rfl hl.1 rfl (lv_room (Nat.le_of_ble_eq_true rfl)) dL_law_1426 ⟨(Nat.le_of_ble_eq_true rfl), (Nat.le_of_ble_eq_true rfl)⟩) hW (fun q h => PW_A hW h) hA (fun r_9 S_10 H locs hrel hW => ?_)
  have hTy0 := hTy
  obtain ⟨hTy, hF1⟩ := hrel
  have hDI : DIs S_10 m0 := ⟨DI_0 hTy0 hTy hT_m0 hu50 hF1 (by decide) hDI.1, DI_2 hTy0 hTy hT_m0 hu52 hF1 (by decide) hDI.2⟩
  have hJY := JY_fr hF1 (by decide) (by decide) (by decide) (by decide) hJY
  refine lv_pop hx hb dL_law_1429 rfl ?_
  refine lv_goto (tgt := 1433) hx hb dL_law_1430 (by decide) ?_
  exact kk t9 S_10 H locs ls (by first | exact hTy) hDI hJY hW (lv_sub hl [0, 1, 2, 3] rfl)

