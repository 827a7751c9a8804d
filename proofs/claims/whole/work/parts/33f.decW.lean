theorem dW_1271 : decode code 1271 = .ok (.aload_n 0, 1) := by decide +kernel
theorem dW_1272 : decode code 1272 = .ok (.iload 4, 2) := by decide +kernel
theorem dW_1274 : decode code 1274 = .ok (.iconst 3, 1) := by decide +kernel
theorem dW_1275 : decode code 1275 = .ok (.iadd, 1) := by decide +kernel
theorem dW_1276 : decode code 1276 = .ok (.iaload, 1) := by decide +kernel
theorem dW_1277 : decode code 1277 = .ok (.ifCond .eq 7, 3) := by decide +kernel
theorem dW_1280 : decode code 1280 = .ok (.iconst 1, 1) := by decide +kernel
theorem dW_1281 : decode code 1281 = .ok (.goto 4, 3) := by decide +kernel
theorem dW_1284 : decode code 1284 = .ok (.iconst 0, 1) := by decide +kernel
theorem dW_1285 : decode code 1285 = .ok (.invokevirtual 122, 3) := by decide +kernel
theorem dW_1288 : decode code 1288 = .ok (.aload_n 2, 1) := by decide +kernel
theorem dW_1289 : decode code 1289 = .ok (.aload_n 0, 1) := by decide +kernel
theorem dW_1290 : decode code 1290 = .ok (.iload 4, 2) := by decide +kernel
theorem dW_1292 : decode code 1292 = .ok (.iconst 1, 1) := by decide +kernel
theorem dW_1293 : decode code 1293 = .ok (.iadd, 1) := by decide +kernel
theorem dW_1294 : decode code 1294 = .ok (.iaload, 1) := by decide +kernel
theorem dW_1295 : decode code 1295 = .ok (.aload_n 0, 1) := by decide +kernel
theorem dW_1296 : decode code 1296 = .ok (.iload 4, 2) := by decide +kernel
theorem dW_1298 : decode code 1298 = .ok (.iconst 2, 1) := by decide +kernel
theorem dW_1299 : decode code 1299 = .ok (.iadd, 1) := by decide +kernel
theorem dW_1300 : decode code 1300 = .ok (.iaload, 1) := by decide +kernel
theorem dW_1301 : decode code 1301 = .ok (.aload_n 0, 1) := by decide +kernel
theorem dW_1302 : decode code 1302 = .ok (.iload 4, 2) := by decide +kernel
theorem dW_1304 : decode code 1304 = .ok (.iconst 3, 1) := by decide +kernel
theorem dW_1305 : decode code 1305 = .ok (.iadd, 1) := by decide +kernel
theorem dW_1306 : decode code 1306 = .ok (.iaload, 1) := by decide +kernel
theorem dW_1307 : decode code 1307 = .ok (.ifCond .eq 7, 3) := by decide +kernel
theorem dW_1310 : decode code 1310 = .ok (.iconst 1, 1) := by decide +kernel
theorem dW_1311 : decode code 1311 = .ok (.goto 4, 3) := by decide +kernel
theorem dW_1314 : decode code 1314 = .ok (.iconst 0, 1) := by decide +kernel
theorem dW_1315 : decode code 1315 = .ok (.invokevirtual 126, 3) := by decide +kernel
theorem dW_1318 : decode code 1318 = .ok (.lcmp, 1) := by decide +kernel
theorem dW_1319 : decode code 1319 = .ok (.ifCond .eq 133, 3) := by decide +kernel
theorem dW_1322 : decode code 1322 = .ok (.iconst 0, 1) := by decide +kernel
theorem dW_1323 : decode code 1323 = .ok (.ireturn, 1) := by decide +kernel
theorem dW_1324 : decode code 1324 = .ok (.aload_n 1, 1) := by decide +kernel
theorem dW_1325 : decode code 1325 = .ok (.aload_n 0, 1) := by decide +kernel
theorem dW_1326 : decode code 1326 = .ok (.iload 4, 2) := by decide +kernel
theorem dW_1328 : decode code 1328 = .ok (.iconst 1, 1) := by decide +kernel
theorem dW_1329 : decode code 1329 = .ok (.iadd, 1) := by decide +kernel
theorem dW_1330 : decode code 1330 = .ok (.iaload, 1) := by decide +kernel
theorem dW_1331 : decode code 1331 = .ok (.i2l, 1) := by decide +kernel
theorem dW_1332 : decode code 1332 = .ok (.bipush 32, 2) := by decide +kernel
theorem dW_1334 : decode code 1334 = .ok (.lshl, 1) := by decide +kernel
theorem dW_1335 : decode code 1335 = .ok (.aload_n 0, 1) := by decide +kernel
theorem dW_1336 : decode code 1336 = .ok (.iload 4, 2) := by decide +kernel
theorem dW_1338 : decode code 1338 = .ok (.iconst 2, 1) := by decide +kernel
theorem dW_1339 : decode code 1339 = .ok (.iadd, 1) := by decide +kernel
theorem dW_1340 : decode code 1340 = .ok (.iaload, 1) := by decide +kernel
theorem dW_1341 : decode code 1341 = .ok (.i2l, 1) := by decide +kernel
theorem dW_1342 : decode code 1342 = .ok (.ldc2_w 69, 3) := by decide +kernel
theorem dW_1345 : decode code 1345 = .ok (.land, 1) := by decide +kernel
theorem dW_1346 : decode code 1346 = .ok (.lor, 1) := by decide +kernel
theorem dW_1347 : decode code 1347 = .ok (.aload_n 0, 1) := by decide +kernel
theorem dW_1348 : decode code 1348 = .ok (.iload 4, 2) := by decide +kernel
theorem dW_1350 : decode code 1350 = .ok (.iconst 3, 1) := by decide +kernel
theorem dW_1351 : decode code 1351 = .ok (.iadd, 1) := by decide +kernel
theorem dW_1352 : decode code 1352 = .ok (.iaload, 1) := by decide +kernel
theorem dW_1353 : decode code 1353 = .ok (.ifCond .eq 7, 3) := by decide +kernel
theorem dW_1356 : decode code 1356 = .ok (.iconst 1, 1) := by decide +kernel
theorem dW_1357 : decode code 1357 = .ok (.goto 4, 3) := by decide +kernel
theorem dW_1360 : decode code 1360 = .ok (.iconst 0, 1) := by decide +kernel
theorem dW_1361 : decode code 1361 = .ok (.aload_n 3, 1) := by decide +kernel
theorem dW_1362 : decode code 1362 = .ok (.invokestatic 127, 3) := by decide +kernel
theorem dW_1365 : decode code 1365 = .ok (.istore 5, 2) := by decide +kernel
theorem dW_1367 : decode code 1367 = .ok (.aload_n 2, 1) := by decide +kernel
theorem dW_1368 : decode code 1368 = .ok (.aload_n 0, 1) := by decide +kernel
theorem dW_1369 : decode code 1369 = .ok (.iload 4, 2) := by decide +kernel
theorem dW_1371 : decode code 1371 = .ok (.iconst 1, 1) := by decide +kernel
theorem dW_1372 : decode code 1372 = .ok (.iadd, 1) := by decide +kernel
theorem dW_1373 : decode code 1373 = .ok (.iaload, 1) := by decide +kernel
theorem dW_1374 : decode code 1374 = .ok (.i2l, 1) := by decide +kernel
theorem dW_1375 : decode code 1375 = .ok (.bipush 32, 2) := by decide +kernel
theorem dW_1377 : decode code 1377 = .ok (.lshl, 1) := by decide +kernel
theorem dW_1378 : decode code 1378 = .ok (.aload_n 0, 1) := by decide +kernel
theorem dW_1379 : decode code 1379 = .ok (.iload 4, 2) := by decide +kernel
theorem dW_1381 : decode code 1381 = .ok (.iconst 2, 1) := by decide +kernel
theorem dW_1382 : decode code 1382 = .ok (.iadd, 1) := by decide +kernel
theorem dW_1383 : decode code 1383 = .ok (.iaload, 1) := by decide +kernel
theorem dW_1384 : decode code 1384 = .ok (.i2l, 1) := by decide +kernel
theorem dW_1385 : decode code 1385 = .ok (.ldc2_w 69, 3) := by decide +kernel
theorem dW_1388 : decode code 1388 = .ok (.land, 1) := by decide +kernel
theorem dW_1389 : decode code 1389 = .ok (.lor, 1) := by decide +kernel
theorem dW_1390 : decode code 1390 = .ok (.aload_n 0, 1) := by decide +kernel
theorem dW_1391 : decode code 1391 = .ok (.iload 4, 2) := by decide +kernel
theorem dW_1393 : decode code 1393 = .ok (.iconst 3, 1) := by decide +kernel
theorem dW_1394 : decode code 1394 = .ok (.iadd, 1) := by decide +kernel
theorem dW_1395 : decode code 1395 = .ok (.iaload, 1) := by decide +kernel
theorem dW_1396 : decode code 1396 = .ok (.ifCond .eq 7, 3) := by decide +kernel
theorem dW_1399 : decode code 1399 = .ok (.iconst 1, 1) := by decide +kernel
theorem dW_1400 : decode code 1400 = .ok (.goto 4, 3) := by decide +kernel
theorem dW_1403 : decode code 1403 = .ok (.iconst 0, 1) := by decide +kernel
theorem dW_1404 : decode code 1404 = .ok (.invokevirtual 130, 3) := by decide +kernel
theorem dW_1407 : decode code 1407 = .ok (.lstore 6, 2) := by decide +kernel
theorem dW_1409 : decode code 1409 = .ok (.aload_n 2, 1) := by decide +kernel
theorem dW_1410 : decode code 1410 = .ok (.invokevirtual 77, 3) := by decide +kernel
theorem dW_1413 : decode code 1413 = .ok (.iload 5, 2) := by decide +kernel
theorem dW_1415 : decode code 1415 = .ok (.if_icmp .eq 5, 3) := by decide +kernel
theorem dW_1418 : decode code 1418 = .ok (.iconst 0, 1) := by decide +kernel
theorem dW_1419 : decode code 1419 = .ok (.ireturn, 1) := by decide +kernel
theorem dW_1420 : decode code 1420 = .ok (.iload 5, 2) := by decide +kernel
theorem dW_1422 : decode code 1422 = .ok (.ifCond .ne 14, 3) := by decide +kernel
theorem dW_1425 : decode code 1425 = .ok (.aload_n 3, 1) := by decide +kernel
theorem dW_1426 : decode code 1426 = .ok (.iconst 0, 1) := by decide +kernel
theorem dW_1427 : decode code 1427 = .ok (.laload, 1) := by decide +kernel
theorem dW_1428 : decode code 1428 = .ok (.lload 6, 2) := by decide +kernel
theorem dW_1430 : decode code 1430 = .ok (.lcmp, 1) := by decide +kernel
theorem dW_1431 : decode code 1431 = .ok (.ifCond .eq 5, 3) := by decide +kernel
theorem dW_1434 : decode code 1434 = .ok (.iconst 0, 1) := by decide +kernel
theorem dW_1435 : decode code 1435 = .ok (.ireturn, 1) := by decide +kernel
theorem dW_1436 : decode code 1436 = .ok (.goto 16, 3) := by decide +kernel
theorem dW_1439 : decode code 1439 = .ok (.aload_n 1, 1) := by decide +kernel
theorem dW_1440 : decode code 1440 = .ok (.invokevirtual 131, 3) := by decide +kernel
theorem dW_1443 : decode code 1443 = .ok (.aload_n 2, 1) := by decide +kernel
theorem dW_1444 : decode code 1444 = .ok (.invokevirtual 134, 3) := by decide +kernel
theorem dW_1447 : decode code 1447 = .ok (.if_icmp .eq 5, 3) := by decide +kernel
theorem dW_1450 : decode code 1450 = .ok (.iconst 0, 1) := by decide +kernel
theorem dW_1451 : decode code 1451 = .ok (.ireturn, 1) := by decide +kernel
theorem dW_1452 : decode code 1452 = .ok (.iinc 4 6, 3) := by decide +kernel
theorem dW_1455 : decode code 1455 = .ok (.goto (-1432), 3) := by decide +kernel
theorem dW_1458 : decode code 1458 = .ok (.iconst 1, 1) := by decide +kernel
theorem dW_1459 : decode code 1459 = .ok (.ireturn, 1) := by decide +kernel
