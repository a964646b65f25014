/-! rows of the law's own code -/
theorem dL_law__1252 : decode cL_law_ 1252 = .ok (.iconst 0, 1) := by decide +kernel
theorem dL_law__1253 : decode cL_law_ 1253 = .ok (.ireturn, 1) := by decide +kernel
theorem dL_law__1254 : decode cL_law_ 1254 = .ok (.iload 5, 2) := by decide +kernel
theorem dL_law__1256 : decode cL_law_ 1256 = .ok (.ifCond .ne 15, 3) := by decide +kernel
theorem dL_law__1259 : decode cL_law_ 1259 = .ok (.aload_n 3, 1) := by decide +kernel
theorem dL_law__1260 : decode cL_law_ 1260 = .ok (.iconst 0, 1) := by decide +kernel
theorem dL_law__1261 : decode cL_law_ 1261 = .ok (.laload, 1) := by decide +kernel
theorem dL_law__1262 : decode cL_law_ 1262 = .ok (.iload 6, 2) := by decide +kernel
theorem dL_law__1264 : decode cL_law_ 1264 = .ok (.i2l, 1) := by decide +kernel
theorem dL_law__1265 : decode cL_law_ 1265 = .ok (.lcmp, 1) := by decide +kernel
theorem dL_law__1266 : decode cL_law_ 1266 = .ok (.ifCond .eq 5, 3) := by decide +kernel
theorem dL_law__1269 : decode cL_law_ 1269 = .ok (.iconst 0, 1) := by decide +kernel
theorem dL_law__1270 : decode cL_law_ 1270 = .ok (.ireturn, 1) := by decide +kernel
theorem dL_law__1271 : decode cL_law_ 1271 = .ok (.goto 1047, 3) := by decide +kernel
theorem dL_law__1274 : decode cL_law_ 1274 = .ok (.aload_n 1, 1) := by decide +kernel
theorem dL_law__1275 : decode cL_law_ 1275 = .ok (.invokevirtual 190, 3) := by decide +kernel
theorem dL_law__1278 : decode cL_law_ 1278 = .ok (.aload_n 2, 1) := by decide +kernel
theorem dL_law__1279 : decode cL_law_ 1279 = .ok (.invokevirtual 193, 3) := by decide +kernel
theorem dL_law__1282 : decode cL_law_ 1282 = .ok (.if_icmp .eq 1036, 3) := by decide +kernel
theorem dL_law__1285 : decode cL_law_ 1285 = .ok (.iconst 0, 1) := by decide +kernel
theorem dL_law__1286 : decode cL_law_ 1286 = .ok (.ireturn, 1) := by decide +kernel
theorem dL_law__1287 : decode cL_law_ 1287 = .ok (.aload_n 1, 1) := by decide +kernel
theorem dL_law__1288 : decode cL_law_ 1288 = .ok (.aload_n 0, 1) := by decide +kernel
theorem dL_law__1289 : decode cL_law_ 1289 = .ok (.iload 4, 2) := by decide +kernel
theorem dL_law__1291 : decode cL_law_ 1291 = .ok (.iconst 1, 1) := by decide +kernel
theorem dL_law__1292 : decode cL_law_ 1292 = .ok (.iadd, 1) := by decide +kernel
theorem dL_law__1293 : decode cL_law_ 1293 = .ok (.iaload, 1) := by decide +kernel
theorem dL_law__1294 : decode cL_law_ 1294 = .ok (.invokevirtual 194, 3) := by decide +kernel
theorem dL_law__1297 : decode cL_law_ 1297 = .ok (.aload_n 2, 1) := by decide +kernel
theorem dL_law__1298 : decode cL_law_ 1298 = .ok (.aload_n 0, 1) := by decide +kernel
theorem dL_law__1299 : decode cL_law_ 1299 = .ok (.iload 4, 2) := by decide +kernel
theorem dL_law__1301 : decode cL_law_ 1301 = .ok (.iconst 1, 1) := by decide +kernel
theorem dL_law__1302 : decode cL_law_ 1302 = .ok (.iadd, 1) := by decide +kernel
theorem dL_law__1303 : decode cL_law_ 1303 = .ok (.iaload, 1) := by decide +kernel
theorem dL_law__1304 : decode cL_law_ 1304 = .ok (.invokevirtual 197, 3) := by decide +kernel
theorem dL_law__1307 : decode cL_law_ 1307 = .ok (.if_icmp .eq 1011, 3) := by decide +kernel
theorem dL_law__1310 : decode cL_law_ 1310 = .ok (.iconst 0, 1) := by decide +kernel
theorem dL_law__1311 : decode cL_law_ 1311 = .ok (.ireturn, 1) := by decide +kernel
theorem dL_law__1312 : decode cL_law_ 1312 = .ok (.aload_n 1, 1) := by decide +kernel
theorem dL_law__1313 : decode cL_law_ 1313 = .ok (.aload_n 0, 1) := by decide +kernel
theorem dL_law__1314 : decode cL_law_ 1314 = .ok (.iload 4, 2) := by decide +kernel
theorem dL_law__1316 : decode cL_law_ 1316 = .ok (.iconst 1, 1) := by decide +kernel
theorem dL_law__1317 : decode cL_law_ 1317 = .ok (.iadd, 1) := by decide +kernel
theorem dL_law__1318 : decode cL_law_ 1318 = .ok (.iaload, 1) := by decide +kernel
theorem dL_law__1319 : decode cL_law_ 1319 = .ok (.aload_n 0, 1) := by decide +kernel
theorem dL_law__1320 : decode cL_law_ 1320 = .ok (.iload 4, 2) := by decide +kernel
theorem dL_law__1322 : decode cL_law_ 1322 = .ok (.iconst 2, 1) := by decide +kernel
theorem dL_law__1323 : decode cL_law_ 1323 = .ok (.iadd, 1) := by decide +kernel
theorem dL_law__1324 : decode cL_law_ 1324 = .ok (.iaload, 1) := by decide +kernel
theorem dL_law__1325 : decode cL_law_ 1325 = .ok (.aload_n 3, 1) := by decide +kernel
theorem dL_law__1326 : decode cL_law_ 1326 = .ok (.invokestatic 198, 3) := by decide +kernel
theorem dL_law__1329 : decode cL_law_ 1329 = .ok (.istore 5, 2) := by decide +kernel
theorem dL_law__1331 : decode cL_law_ 1331 = .ok (.aload_n 2, 1) := by decide +kernel
theorem dL_law__1332 : decode cL_law_ 1332 = .ok (.aload_n 0, 1) := by decide +kernel
theorem dL_law__1333 : decode cL_law_ 1333 = .ok (.iload 4, 2) := by decide +kernel
theorem dL_law__1335 : decode cL_law_ 1335 = .ok (.iconst 1, 1) := by decide +kernel
theorem dL_law__1336 : decode cL_law_ 1336 = .ok (.iadd, 1) := by decide +kernel
theorem dL_law__1337 : decode cL_law_ 1337 = .ok (.iaload, 1) := by decide +kernel
theorem dL_law__1338 : decode cL_law_ 1338 = .ok (.aload_n 0, 1) := by decide +kernel
theorem dL_law__1339 : decode cL_law_ 1339 = .ok (.iload 4, 2) := by decide +kernel
theorem dL_law__1341 : decode cL_law_ 1341 = .ok (.iconst 2, 1) := by decide +kernel
theorem dL_law__1342 : decode cL_law_ 1342 = .ok (.iadd, 1) := by decide +kernel
theorem dL_law__1343 : decode cL_law_ 1343 = .ok (.iaload, 1) := by decide +kernel
theorem dL_law__1344 : decode cL_law_ 1344 = .ok (.invokevirtual 200, 3) := by decide +kernel
theorem dL_law__1347 : decode cL_law_ 1347 = .ok (.istore 6, 2) := by decide +kernel
theorem dL_law__1349 : decode cL_law_ 1349 = .ok (.aload_n 2, 1) := by decide +kernel
theorem dL_law__1350 : decode cL_law_ 1350 = .ok (.invokevirtual 125, 3) := by decide +kernel
theorem dL_law__1353 : decode cL_law_ 1353 = .ok (.iload 5, 2) := by decide +kernel
theorem dL_law__1355 : decode cL_law_ 1355 = .ok (.if_icmp .eq 5, 3) := by decide +kernel
theorem dL_law__1358 : decode cL_law_ 1358 = .ok (.iconst 0, 1) := by decide +kernel
theorem dL_law__1359 : decode cL_law_ 1359 = .ok (.ireturn, 1) := by decide +kernel
theorem dL_law__1360 : decode cL_law_ 1360 = .ok (.iload 5, 2) := by decide +kernel
theorem dL_law__1362 : decode cL_law_ 1362 = .ok (.ifCond .ne 15, 3) := by decide +kernel
theorem dL_law__1365 : decode cL_law_ 1365 = .ok (.aload_n 3, 1) := by decide +kernel
theorem dL_law__1366 : decode cL_law_ 1366 = .ok (.iconst 0, 1) := by decide +kernel
theorem dL_law__1367 : decode cL_law_ 1367 = .ok (.laload, 1) := by decide +kernel
theorem dL_law__1368 : decode cL_law_ 1368 = .ok (.iload 6, 2) := by decide +kernel
theorem dL_law__1370 : decode cL_law_ 1370 = .ok (.i2l, 1) := by decide +kernel
theorem dL_law__1371 : decode cL_law_ 1371 = .ok (.lcmp, 1) := by decide +kernel
theorem dL_law__1372 : decode cL_law_ 1372 = .ok (.ifCond .eq 5, 3) := by decide +kernel
theorem dL_law__1375 : decode cL_law_ 1375 = .ok (.iconst 0, 1) := by decide +kernel
theorem dL_law__1376 : decode cL_law_ 1376 = .ok (.ireturn, 1) := by decide +kernel
theorem dL_law__1377 : decode cL_law_ 1377 = .ok (.goto 941, 3) := by decide +kernel
theorem dL_law__1380 : decode cL_law_ 1380 = .ok (.aload_n 1, 1) := by decide +kernel
theorem dL_law__1381 : decode cL_law_ 1381 = .ok (.aload_n 0, 1) := by decide +kernel
theorem dL_law__1382 : decode cL_law_ 1382 = .ok (.iload 4, 2) := by decide +kernel
theorem dL_law__1384 : decode cL_law_ 1384 = .ok (.iconst 1, 1) := by decide +kernel
theorem dL_law__1385 : decode cL_law_ 1385 = .ok (.iadd, 1) := by decide +kernel
theorem dL_law__1386 : decode cL_law_ 1386 = .ok (.iaload, 1) := by decide +kernel
theorem dL_law__1387 : decode cL_law_ 1387 = .ok (.ifCond .eq 7, 3) := by decide +kernel
theorem dL_law__1390 : decode cL_law_ 1390 = .ok (.iconst 1, 1) := by decide +kernel
theorem dL_law__1391 : decode cL_law_ 1391 = .ok (.goto 4, 3) := by decide +kernel
theorem dL_law__1394 : decode cL_law_ 1394 = .ok (.iconst 0, 1) := by decide +kernel
theorem dL_law__1395 : decode cL_law_ 1395 = .ok (.invokevirtual 201, 3) := by decide +kernel
theorem dL_law__1398 : decode cL_law_ 1398 = .ok (.aload_n 2, 1) := by decide +kernel
theorem dL_law__1399 : decode cL_law_ 1399 = .ok (.aload_n 0, 1) := by decide +kernel
theorem dL_law__1400 : decode cL_law_ 1400 = .ok (.iload 4, 2) := by decide +kernel
theorem dL_law__1402 : decode cL_law_ 1402 = .ok (.iconst 1, 1) := by decide +kernel
theorem dL_law__1403 : decode cL_law_ 1403 = .ok (.iadd, 1) := by decide +kernel
theorem dL_law__1404 : decode cL_law_ 1404 = .ok (.iaload, 1) := by decide +kernel
theorem dL_law__1405 : decode cL_law_ 1405 = .ok (.ifCond .eq 7, 3) := by decide +kernel
theorem dL_law__1408 : decode cL_law_ 1408 = .ok (.iconst 1, 1) := by decide +kernel
theorem dL_law__1409 : decode cL_law_ 1409 = .ok (.goto 4, 3) := by decide +kernel
theorem dL_law__1412 : decode cL_law_ 1412 = .ok (.iconst 0, 1) := by decide +kernel
theorem dL_law__1413 : decode cL_law_ 1413 = .ok (.invokevirtual 205, 3) := by decide +kernel
theorem dL_law__1416 : decode cL_law_ 1416 = .ok (.if_icmp .eq 902, 3) := by decide +kernel
theorem dL_law__1419 : decode cL_law_ 1419 = .ok (.iconst 0, 1) := by decide +kernel
theorem dL_law__1420 : decode cL_law_ 1420 = .ok (.ireturn, 1) := by decide +kernel
theorem dL_law__1421 : decode cL_law_ 1421 = .ok (.aload_n 1, 1) := by decide +kernel
theorem dL_law__1422 : decode cL_law_ 1422 = .ok (.aload_n 0, 1) := by decide +kernel
theorem dL_law__1423 : decode cL_law_ 1423 = .ok (.iload 4, 2) := by decide +kernel
theorem dL_law__1425 : decode cL_law_ 1425 = .ok (.iconst 1, 1) := by decide +kernel
theorem dL_law__1426 : decode cL_law_ 1426 = .ok (.iadd, 1) := by decide +kernel
theorem dL_law__1427 : decode cL_law_ 1427 = .ok (.iaload, 1) := by decide +kernel
theorem dL_law__1428 : decode cL_law_ 1428 = .ok (.ifCond .eq 7, 3) := by decide +kernel
theorem dL_law__1431 : decode cL_law_ 1431 = .ok (.iconst 1, 1) := by decide +kernel
theorem dL_law__1432 : decode cL_law_ 1432 = .ok (.goto 4, 3) := by decide +kernel
theorem dL_law__1435 : decode cL_law_ 1435 = .ok (.iconst 0, 1) := by decide +kernel
theorem dL_law__1436 : decode cL_law_ 1436 = .ok (.invokevirtual 206, 3) := by decide +kernel
theorem dL_law__1439 : decode cL_law_ 1439 = .ok (.aload_n 2, 1) := by decide +kernel
theorem dL_law__1440 : decode cL_law_ 1440 = .ok (.aload_n 0, 1) := by decide +kernel
theorem dL_law__1441 : decode cL_law_ 1441 = .ok (.iload 4, 2) := by decide +kernel
theorem dL_law__1443 : decode cL_law_ 1443 = .ok (.iconst 1, 1) := by decide +kernel
theorem dL_law__1444 : decode cL_law_ 1444 = .ok (.iadd, 1) := by decide +kernel
theorem dL_law__1445 : decode cL_law_ 1445 = .ok (.iaload, 1) := by decide +kernel
theorem dL_law__1446 : decode cL_law_ 1446 = .ok (.ifCond .eq 7, 3) := by decide +kernel
theorem dL_law__1449 : decode cL_law_ 1449 = .ok (.iconst 1, 1) := by decide +kernel
theorem dL_law__1450 : decode cL_law_ 1450 = .ok (.goto 4, 3) := by decide +kernel
theorem dL_law__1453 : decode cL_law_ 1453 = .ok (.iconst 0, 1) := by decide +kernel
theorem dL_law__1454 : decode cL_law_ 1454 = .ok (.invokevirtual 209, 3) := by decide +kernel
theorem dL_law__1457 : decode cL_law_ 1457 = .ok (.if_icmp .eq 861, 3) := by decide +kernel
theorem dL_law__1460 : decode cL_law_ 1460 = .ok (.iconst 0, 1) := by decide +kernel
theorem dL_law__1461 : decode cL_law_ 1461 = .ok (.ireturn, 1) := by decide +kernel
theorem dL_law__1462 : decode cL_law_ 1462 = .ok (.aload_n 1, 1) := by decide +kernel
theorem dL_law__1463 : decode cL_law_ 1463 = .ok (.invokevirtual 210, 3) := by decide +kernel
theorem dL_law__1466 : decode cL_law_ 1466 = .ok (.aload_n 2, 1) := by decide +kernel
theorem dL_law__1467 : decode cL_law_ 1467 = .ok (.invokevirtual 213, 3) := by decide +kernel
theorem dL_law__1470 : decode cL_law_ 1470 = .ok (.if_icmp .eq 848, 3) := by decide +kernel
theorem dL_law__1473 : decode cL_law_ 1473 = .ok (.iconst 0, 1) := by decide +kernel
theorem dL_law__1474 : decode cL_law_ 1474 = .ok (.ireturn, 1) := by decide +kernel
theorem dL_law__1475 : decode cL_law_ 1475 = .ok (.aload_n 1, 1) := by decide +kernel
theorem dL_law__1476 : decode cL_law_ 1476 = .ok (.aload_n 3, 1) := by decide +kernel
theorem dL_law__1477 : decode cL_law_ 1477 = .ok (.invokestatic 214, 3) := by decide +kernel
theorem dL_law__1480 : decode cL_law_ 1480 = .ok (.istore 5, 2) := by decide +kernel
theorem dL_law__1482 : decode cL_law_ 1482 = .ok (.aload_n 2, 1) := by decide +kernel
theorem dL_law__1483 : decode cL_law_ 1483 = .ok (.invokevirtual 216, 3) := by decide +kernel
theorem dL_law__1486 : decode cL_law_ 1486 = .ok (.istore 6, 2) := by decide +kernel
theorem dL_law__1488 : decode cL_law_ 1488 = .ok (.aload_n 2, 1) := by decide +kernel
theorem dL_law__1489 : decode cL_law_ 1489 = .ok (.invokevirtual 125, 3) := by decide +kernel
theorem dL_law__1492 : decode cL_law_ 1492 = .ok (.iload 5, 2) := by decide +kernel
theorem dL_law__1494 : decode cL_law_ 1494 = .ok (.if_icmp .eq 5, 3) := by decide +kernel
theorem dL_law__1497 : decode cL_law_ 1497 = .ok (.iconst 0, 1) := by decide +kernel
theorem dL_law__1498 : decode cL_law_ 1498 = .ok (.ireturn, 1) := by decide +kernel
theorem dL_law__1499 : decode cL_law_ 1499 = .ok (.iload 5, 2) := by decide +kernel
theorem dL_law__1501 : decode cL_law_ 1501 = .ok (.ifCond .ne 15, 3) := by decide +kernel
theorem dL_law__1504 : decode cL_law_ 1504 = .ok (.aload_n 3, 1) := by decide +kernel
theorem dL_law__1505 : decode cL_law_ 1505 = .ok (.iconst 0, 1) := by decide +kernel
theorem dL_law__1506 : decode cL_law_ 1506 = .ok (.laload, 1) := by decide +kernel
theorem dL_law__1507 : decode cL_law_ 1507 = .ok (.iload 6, 2) := by decide +kernel
theorem dL_law__1509 : decode cL_law_ 1509 = .ok (.i2l, 1) := by decide +kernel
theorem dL_law__1510 : decode cL_law_ 1510 = .ok (.lcmp, 1) := by decide +kernel
theorem dL_law__1511 : decode cL_law_ 1511 = .ok (.ifCond .eq 5, 3) := by decide +kernel
theorem dL_law__1514 : decode cL_law_ 1514 = .ok (.iconst 0, 1) := by decide +kernel
theorem dL_law__1515 : decode cL_law_ 1515 = .ok (.ireturn, 1) := by decide +kernel
theorem dL_law__1516 : decode cL_law_ 1516 = .ok (.goto 802, 3) := by decide +kernel
theorem dL_law__1519 : decode cL_law_ 1519 = .ok (.aload_n 1, 1) := by decide +kernel
theorem dL_law__1520 : decode cL_law_ 1520 = .ok (.aload_n 3, 1) := by decide +kernel
theorem dL_law__1521 : decode cL_law_ 1521 = .ok (.invokestatic 217, 3) := by decide +kernel
theorem dL_law__1524 : decode cL_law_ 1524 = .ok (.istore 5, 2) := by decide +kernel
theorem dL_law__1526 : decode cL_law_ 1526 = .ok (.aload_n 2, 1) := by decide +kernel
theorem dL_law__1527 : decode cL_law_ 1527 = .ok (.invokevirtual 219, 3) := by decide +kernel
theorem dL_law__1530 : decode cL_law_ 1530 = .ok (.istore 6, 2) := by decide +kernel
theorem dL_law__1532 : decode cL_law_ 1532 = .ok (.aload_n 2, 1) := by decide +kernel
theorem dL_law__1533 : decode cL_law_ 1533 = .ok (.invokevirtual 125, 3) := by decide +kernel
theorem dL_law__1536 : decode cL_law_ 1536 = .ok (.iload 5, 2) := by decide +kernel
theorem dL_law__1538 : decode cL_law_ 1538 = .ok (.if_icmp .eq 5, 3) := by decide +kernel
theorem dL_law__1541 : decode cL_law_ 1541 = .ok (.iconst 0, 1) := by decide +kernel
theorem dL_law__1542 : decode cL_law_ 1542 = .ok (.ireturn, 1) := by decide +kernel
theorem dL_law__1543 : decode cL_law_ 1543 = .ok (.iload 5, 2) := by decide +kernel
theorem dL_law__1545 : decode cL_law_ 1545 = .ok (.ifCond .ne 15, 3) := by decide +kernel
theorem dL_law__1548 : decode cL_law_ 1548 = .ok (.aload_n 3, 1) := by decide +kernel
theorem dL_law__1549 : decode cL_law_ 1549 = .ok (.iconst 0, 1) := by decide +kernel
theorem dL_law__1550 : decode cL_law_ 1550 = .ok (.laload, 1) := by decide +kernel
theorem dL_law__1551 : decode cL_law_ 1551 = .ok (.iload 6, 2) := by decide +kernel
theorem dL_law__1553 : decode cL_law_ 1553 = .ok (.i2l, 1) := by decide +kernel
theorem dL_law__1554 : decode cL_law_ 1554 = .ok (.lcmp, 1) := by decide +kernel
theorem dL_law__1555 : decode cL_law_ 1555 = .ok (.ifCond .eq 5, 3) := by decide +kernel
theorem dL_law__1558 : decode cL_law_ 1558 = .ok (.iconst 0, 1) := by decide +kernel
theorem dL_law__1559 : decode cL_law_ 1559 = .ok (.ireturn, 1) := by decide +kernel
theorem dL_law__1560 : decode cL_law_ 1560 = .ok (.goto 758, 3) := by decide +kernel
theorem dL_law__1563 : decode cL_law_ 1563 = .ok (.aload_n 1, 1) := by decide +kernel
theorem dL_law__1564 : decode cL_law_ 1564 = .ok (.aload_n 3, 1) := by decide +kernel
theorem dL_law__1565 : decode cL_law_ 1565 = .ok (.invokestatic 220, 3) := by decide +kernel
theorem dL_law__1568 : decode cL_law_ 1568 = .ok (.istore 5, 2) := by decide +kernel
theorem dL_law__1570 : decode cL_law_ 1570 = .ok (.aload_n 2, 1) := by decide +kernel
theorem dL_law__1571 : decode cL_law_ 1571 = .ok (.invokevirtual 222, 3) := by decide +kernel
theorem dL_law__1574 : decode cL_law_ 1574 = .ok (.istore 6, 2) := by decide +kernel
theorem dL_law__1576 : decode cL_law_ 1576 = .ok (.aload_n 2, 1) := by decide +kernel
theorem dL_law__1577 : decode cL_law_ 1577 = .ok (.invokevirtual 125, 3) := by decide +kernel
theorem dL_law__1580 : decode cL_law_ 1580 = .ok (.iload 5, 2) := by decide +kernel
theorem dL_law__1582 : decode cL_law_ 1582 = .ok (.if_icmp .eq 5, 3) := by decide +kernel
theorem dL_law__1585 : decode cL_law_ 1585 = .ok (.iconst 0, 1) := by decide +kernel
theorem dL_law__1586 : decode cL_law_ 1586 = .ok (.ireturn, 1) := by decide +kernel
theorem dL_law__1587 : decode cL_law_ 1587 = .ok (.iload 5, 2) := by decide +kernel
theorem dL_law__1589 : decode cL_law_ 1589 = .ok (.ifCond .ne 15, 3) := by decide +kernel
theorem dL_law__1592 : decode cL_law_ 1592 = .ok (.aload_n 3, 1) := by decide +kernel
theorem dL_law__1593 : decode cL_law_ 1593 = .ok (.iconst 0, 1) := by decide +kernel
theorem dL_law__1594 : decode cL_law_ 1594 = .ok (.laload, 1) := by decide +kernel
theorem dL_law__1595 : decode cL_law_ 1595 = .ok (.iload 6, 2) := by decide +kernel
theorem dL_law__1597 : decode cL_law_ 1597 = .ok (.i2l, 1) := by decide +kernel
theorem dL_law__1598 : decode cL_law_ 1598 = .ok (.lcmp, 1) := by decide +kernel
theorem dL_law__1599 : decode cL_law_ 1599 = .ok (.ifCond .eq 5, 3) := by decide +kernel
theorem dL_law__1602 : decode cL_law_ 1602 = .ok (.iconst 0, 1) := by decide +kernel
theorem dL_law__1603 : decode cL_law_ 1603 = .ok (.ireturn, 1) := by decide +kernel
theorem dL_law__1604 : decode cL_law_ 1604 = .ok (.goto 714, 3) := by decide +kernel
theorem dL_law__1607 : decode cL_law_ 1607 = .ok (.aload_n 1, 1) := by decide +kernel
theorem dL_law__1608 : decode cL_law_ 1608 = .ok (.invokevirtual 223, 3) := by decide +kernel
theorem dL_law__1611 : decode cL_law_ 1611 = .ok (.aload_n 2, 1) := by decide +kernel
theorem dL_law__1612 : decode cL_law_ 1612 = .ok (.invokevirtual 226, 3) := by decide +kernel
theorem dL_law__1615 : decode cL_law_ 1615 = .ok (.if_icmp .eq 703, 3) := by decide +kernel
theorem dL_law__1618 : decode cL_law_ 1618 = .ok (.iconst 0, 1) := by decide +kernel
theorem dL_law__1619 : decode cL_law_ 1619 = .ok (.ireturn, 1) := by decide +kernel
