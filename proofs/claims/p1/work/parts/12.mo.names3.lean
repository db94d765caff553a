theorem dX16_init_1286 : decode cX16_init 1286 = .ok (.sipush 4100, 3) := by decide +kernel
theorem dX16_init_1289 : decode cX16_init 1289 = .ok (.sipush 4100, 3) := by decide +kernel
theorem dX16_init_1292 : decode cX16_init 1292 = .ok (.sipush 4100, 3) := by decide +kernel
theorem dX16_init_1295 : decode cX16_init 1295 = .ok (.iconst 0, 1) := by decide +kernel
theorem dX16_init_1296 : decode cX16_init 1296 = .ok (.invokespecial 2189, 3) := by decide +kernel
theorem dX16_init_1299 : decode cX16_init 1299 = .ok (.aastore, 1) := by decide +kernel
theorem dX16_init_1300 : decode cX16_init 1300 = .ok (.dup, 1) := by decide +kernel
theorem dX16_init_1301 : decode cX16_init 1301 = .ok (.iconst 2, 1) := by decide +kernel
theorem dX16_init_1302 : decode cX16_init 1302 = .ok (.new 127, 3) := by decide +kernel
theorem dX16_init_1305 : decode cX16_init 1305 = .ok (.dup, 1) := by decide +kernel
theorem dX16_init_1306 : decode cX16_init 1306 = .ok (.sipush 4100, 3) := by decide +kernel
theorem dX16_init_1309 : decode cX16_init 1309 = .ok (.sipush 4100, 3) := by decide +kernel
theorem dX16_init_1312 : decode cX16_init 1312 = .ok (.sipush 4100, 3) := by decide +kernel
theorem dX16_init_1315 : decode cX16_init 1315 = .ok (.iconst 0, 1) := by decide +kernel
theorem dX16_init_1316 : decode cX16_init 1316 = .ok (.invokespecial 2189, 3) := by decide +kernel
theorem dX16_init_1319 : decode cX16_init 1319 = .ok (.aastore, 1) := by decide +kernel
theorem dX16_init_1320 : decode cX16_init 1320 = .ok (.dup, 1) := by decide +kernel
theorem dX16_init_1321 : decode cX16_init 1321 = .ok (.iconst 3, 1) := by decide +kernel
theorem dX16_init_1322 : decode cX16_init 1322 = .ok (.new 127, 3) := by decide +kernel
theorem dX16_init_1325 : decode cX16_init 1325 = .ok (.dup, 1) := by decide +kernel
theorem dX16_init_1326 : decode cX16_init 1326 = .ok (.sipush 4100, 3) := by decide +kernel
theorem dX16_init_1329 : decode cX16_init 1329 = .ok (.sipush 4100, 3) := by decide +kernel
theorem dX16_init_1332 : decode cX16_init 1332 = .ok (.sipush 4100, 3) := by decide +kernel
theorem dX16_init_1335 : decode cX16_init 1335 = .ok (.iconst 0, 1) := by decide +kernel
theorem dX16_init_1336 : decode cX16_init 1336 = .ok (.invokespecial 2189, 3) := by decide +kernel
theorem dX16_init_1339 : decode cX16_init 1339 = .ok (.aastore, 1) := by decide +kernel
theorem dX16_init_1340 : decode cX16_init 1340 = .ok (.putfield 2211, 3) := by decide +kernel
theorem dX16_init_1343 : decode cX16_init 1343 = .ok (.aload_n 0, 1) := by decide +kernel
theorem dX16_init_1344 : decode cX16_init 1344 = .ok (.iconst 4, 1) := by decide +kernel
theorem dX16_init_1345 : decode cX16_init 1345 = .ok (.newarray .int, 2) := by decide +kernel
theorem dX16_init_1347 : decode cX16_init 1347 = .ok (.putfield 2215, 3) := by decide +kernel
theorem dX16_init_1350 : decode cX16_init 1350 = .ok (.aload_n 0, 1) := by decide +kernel
theorem dX16_init_1351 : decode cX16_init 1351 = .ok (.ldc_w 2218, 3) := by decide +kernel
theorem dX16_init_1354 : decode cX16_init 1354 = .ok (.newarray .int, 2) := by decide +kernel
theorem dX16_init_1356 : decode cX16_init 1356 = .ok (.putfield 2219, 3) := by decide +kernel
theorem dX16_init_1359 : decode cX16_init 1359 = .ok (.aload_n 0, 1) := by decide +kernel
theorem dX16_init_1360 : decode cX16_init 1360 = .ok (.iconst (-1), 1) := by decide +kernel
theorem dX16_init_1361 : decode cX16_init 1361 = .ok (.putfield 2222, 3) := by decide +kernel
theorem dX16_init_1364 : decode cX16_init 1364 = .ok (.aload_n 0, 1) := by decide +kernel
theorem dX16_init_1365 : decode cX16_init 1365 = .ok (.aload_n 0, 1) := by decide +kernel
theorem dX16_init_1366 : decode cX16_init 1366 = .ok (.getfield 2207, 3) := by decide +kernel
theorem dX16_init_1369 : decode cX16_init 1369 = .ok (.aload_n 0, 1) := by decide +kernel
theorem dX16_init_1370 : decode cX16_init 1370 = .ok (.getfield 73, 3) := by decide +kernel
theorem dX16_init_1373 : decode cX16_init 1373 = .ok (.iconst 0, 1) := by decide +kernel
theorem dX16_init_1374 : decode cX16_init 1374 = .ok (.iconst 0, 1) := by decide +kernel
theorem dX16_init_1375 : decode cX16_init 1375 = .ok (.invokevirtual 163, 3) := by decide +kernel
theorem dX16_init_1378 : decode cX16_init 1378 = .ok (.putfield 2225, 3) := by decide +kernel
theorem dX16_init_1381 : decode cX16_init 1381 = .ok (.aload_n 0, 1) := by decide +kernel
theorem dX16_init_1382 : decode cX16_init 1382 = .ok (.getfield 2070, 3) := by decide +kernel
theorem dX16_init_1385 : decode cX16_init 1385 = .ok (.iconst 0, 1) := by decide +kernel
theorem dX16_init_1386 : decode cX16_init 1386 = .ok (.iconst 1, 1) := by decide +kernel
theorem dX16_init_1387 : decode cX16_init 1387 = .ok (.iastore, 1) := by decide +kernel
theorem dX16_init_1388 : decode cX16_init 1388 = .ok (.aload_n 0, 1) := by decide +kernel
theorem dX16_init_1389 : decode cX16_init 1389 = .ok (.getfield 2070, 3) := by decide +kernel
theorem dX16_init_1392 : decode cX16_init 1392 = .ok (.iconst 1, 1) := by decide +kernel
theorem dX16_init_1393 : decode cX16_init 1393 = .ok (.iconst 1, 1) := by decide +kernel
theorem dX16_init_1394 : decode cX16_init 1394 = .ok (.iastore, 1) := by decide +kernel
theorem dX16_init_1395 : decode cX16_init 1395 = .ok (.return_, 1) := by decide +kernel
