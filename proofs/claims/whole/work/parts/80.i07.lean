theorem dX7_init_1302 : decode cX7_init 1302 = .ok (.dup, 1) := by decide +kernel
theorem dX7_init_1303 : decode cX7_init 1303 = .ok (.sipush 128, 3) := by decide +kernel
theorem dX7_init_1306 : decode cX7_init 1306 = .ok (.sipush 2037, 3) := by decide +kernel
theorem dX7_init_1309 : decode cX7_init 1309 = .ok (.iastore, 1) := by decide +kernel
theorem dX7_init_1310 : decode cX7_init 1310 = .ok (.dup, 1) := by decide +kernel
theorem dX7_init_1311 : decode cX7_init 1311 = .ok (.sipush 129, 3) := by decide +kernel
theorem dX7_init_1314 : decode cX7_init 1314 = .ok (.sipush 2000, 3) := by decide +kernel
theorem dX7_init_1317 : decode cX7_init 1317 = .ok (.iastore, 1) := by decide +kernel
theorem dX7_init_1318 : decode cX7_init 1318 = .ok (.dup, 1) := by decide +kernel
theorem dX7_init_1319 : decode cX7_init 1319 = .ok (.sipush 130, 3) := by decide +kernel
theorem dX7_init_1322 : decode cX7_init 1322 = .ok (.sipush 1952, 3) := by decide +kernel
theorem dX7_init_1325 : decode cX7_init 1325 = .ok (.iastore, 1) := by decide +kernel
theorem dX7_init_1326 : decode cX7_init 1326 = .ok (.dup, 1) := by decide +kernel
theorem dX7_init_1327 : decode cX7_init 1327 = .ok (.sipush 131, 3) := by decide +kernel
theorem dX7_init_1330 : decode cX7_init 1330 = .ok (.sipush 1893, 3) := by decide +kernel
theorem dX7_init_1333 : decode cX7_init 1333 = .ok (.iastore, 1) := by decide +kernel
theorem dX7_init_1334 : decode cX7_init 1334 = .ok (.dup, 1) := by decide +kernel
theorem dX7_init_1335 : decode cX7_init 1335 = .ok (.sipush 132, 3) := by decide +kernel
theorem dX7_init_1338 : decode cX7_init 1338 = .ok (.sipush 1822, 3) := by decide +kernel
theorem dX7_init_1341 : decode cX7_init 1341 = .ok (.iastore, 1) := by decide +kernel
theorem dX7_init_1342 : decode cX7_init 1342 = .ok (.dup, 1) := by decide +kernel
theorem dX7_init_1343 : decode cX7_init 1343 = .ok (.sipush 133, 3) := by decide +kernel
theorem dX7_init_1346 : decode cX7_init 1346 = .ok (.sipush 1739, 3) := by decide +kernel
theorem dX7_init_1349 : decode cX7_init 1349 = .ok (.iastore, 1) := by decide +kernel
theorem dX7_init_1350 : decode cX7_init 1350 = .ok (.dup, 1) := by decide +kernel
theorem dX7_init_1351 : decode cX7_init 1351 = .ok (.sipush 134, 3) := by decide +kernel
theorem dX7_init_1354 : decode cX7_init 1354 = .ok (.sipush 1644, 3) := by decide +kernel
theorem dX7_init_1357 : decode cX7_init 1357 = .ok (.iastore, 1) := by decide +kernel
theorem dX7_init_1358 : decode cX7_init 1358 = .ok (.dup, 1) := by decide +kernel
theorem dX7_init_1359 : decode cX7_init 1359 = .ok (.sipush 135, 3) := by decide +kernel
theorem dX7_init_1362 : decode cX7_init 1362 = .ok (.sipush 1535, 3) := by decide +kernel
theorem dX7_init_1365 : decode cX7_init 1365 = .ok (.iastore, 1) := by decide +kernel
theorem dX7_init_1366 : decode cX7_init 1366 = .ok (.dup, 1) := by decide +kernel
theorem dX7_init_1367 : decode cX7_init 1367 = .ok (.sipush 136, 3) := by decide +kernel
theorem dX7_init_1370 : decode cX7_init 1370 = .ok (.sipush 1414, 3) := by decide +kernel
theorem dX7_init_1373 : decode cX7_init 1373 = .ok (.iastore, 1) := by decide +kernel
theorem dX7_init_1374 : decode cX7_init 1374 = .ok (.dup, 1) := by decide +kernel
theorem dX7_init_1375 : decode cX7_init 1375 = .ok (.sipush 137, 3) := by decide +kernel
theorem dX7_init_1378 : decode cX7_init 1378 = .ok (.sipush 1280, 3) := by decide +kernel
theorem dX7_init_1381 : decode cX7_init 1381 = .ok (.iastore, 1) := by decide +kernel
theorem dX7_init_1382 : decode cX7_init 1382 = .ok (.dup, 1) := by decide +kernel
theorem dX7_init_1383 : decode cX7_init 1383 = .ok (.sipush 138, 3) := by decide +kernel
theorem dX7_init_1386 : decode cX7_init 1386 = .ok (.sipush 1131, 3) := by decide +kernel
theorem dX7_init_1389 : decode cX7_init 1389 = .ok (.iastore, 1) := by decide +kernel
theorem dX7_init_1390 : decode cX7_init 1390 = .ok (.dup, 1) := by decide +kernel
theorem dX7_init_1391 : decode cX7_init 1391 = .ok (.sipush 139, 3) := by decide +kernel
theorem dX7_init_1394 : decode cX7_init 1394 = .ok (.sipush 970, 3) := by decide +kernel
theorem dX7_init_1397 : decode cX7_init 1397 = .ok (.iastore, 1) := by decide +kernel
theorem dX7_init_1398 : decode cX7_init 1398 = .ok (.dup, 1) := by decide +kernel
theorem dX7_init_1399 : decode cX7_init 1399 = .ok (.sipush 140, 3) := by decide +kernel
theorem dX7_init_1402 : decode cX7_init 1402 = .ok (.sipush 794, 3) := by decide +kernel
theorem dX7_init_1405 : decode cX7_init 1405 = .ok (.iastore, 1) := by decide +kernel
theorem dX7_init_1406 : decode cX7_init 1406 = .ok (.dup, 1) := by decide +kernel
theorem dX7_init_1407 : decode cX7_init 1407 = .ok (.sipush 141, 3) := by decide +kernel
theorem dX7_init_1410 : decode cX7_init 1410 = .ok (.sipush 605, 3) := by decide +kernel
theorem dX7_init_1413 : decode cX7_init 1413 = .ok (.iastore, 1) := by decide +kernel
theorem dX7_init_1414 : decode cX7_init 1414 = .ok (.dup, 1) := by decide +kernel
theorem dX7_init_1415 : decode cX7_init 1415 = .ok (.sipush 142, 3) := by decide +kernel
theorem dX7_init_1418 : decode cX7_init 1418 = .ok (.sipush 402, 3) := by decide +kernel
theorem dX7_init_1421 : decode cX7_init 1421 = .ok (.iastore, 1) := by decide +kernel
theorem dX7_init_1422 : decode cX7_init 1422 = .ok (.dup, 1) := by decide +kernel
theorem dX7_init_1423 : decode cX7_init 1423 = .ok (.sipush 143, 3) := by decide +kernel
theorem dX7_init_1426 : decode cX7_init 1426 = .ok (.sipush 185, 3) := by decide +kernel
theorem dX7_init_1429 : decode cX7_init 1429 = .ok (.iastore, 1) := by decide +kernel
theorem dX7_init_1430 : decode cX7_init 1430 = .ok (.dup, 1) := by decide +kernel
theorem dX7_init_1431 : decode cX7_init 1431 = .ok (.sipush 144, 3) := by decide +kernel
theorem dX7_init_1434 : decode cX7_init 1434 = .ok (.bipush (-45), 2) := by decide +kernel
theorem dX7_init_1436 : decode cX7_init 1436 = .ok (.iastore, 1) := by decide +kernel
theorem dX7_init_1437 : decode cX7_init 1437 = .ok (.dup, 1) := by decide +kernel
theorem dX7_init_1438 : decode cX7_init 1438 = .ok (.sipush 145, 3) := by decide +kernel
theorem dX7_init_1441 : decode cX7_init 1441 = .ok (.sipush (-288), 3) := by decide +kernel
theorem dX7_init_1444 : decode cX7_init 1444 = .ok (.iastore, 1) := by decide +kernel
theorem dX7_init_1445 : decode cX7_init 1445 = .ok (.dup, 1) := by decide +kernel
theorem dX7_init_1446 : decode cX7_init 1446 = .ok (.sipush 146, 3) := by decide +kernel
theorem dX7_init_1449 : decode cX7_init 1449 = .ok (.sipush (-545), 3) := by decide +kernel
theorem dX7_init_1452 : decode cX7_init 1452 = .ok (.iastore, 1) := by decide +kernel
theorem dX7_init_1453 : decode cX7_init 1453 = .ok (.dup, 1) := by decide +kernel
theorem dX7_init_1454 : decode cX7_init 1454 = .ok (.sipush 147, 3) := by decide +kernel
theorem dX7_init_1457 : decode cX7_init 1457 = .ok (.sipush (-814), 3) := by decide +kernel
theorem dX7_init_1460 : decode cX7_init 1460 = .ok (.iastore, 1) := by decide +kernel
theorem dX7_init_1461 : decode cX7_init 1461 = .ok (.dup, 1) := by decide +kernel
theorem dX7_init_1462 : decode cX7_init 1462 = .ok (.sipush 148, 3) := by decide +kernel
theorem dX7_init_1465 : decode cX7_init 1465 = .ok (.sipush (-1095), 3) := by decide +kernel
theorem dX7_init_1468 : decode cX7_init 1468 = .ok (.iastore, 1) := by decide +kernel
theorem dX7_init_1469 : decode cX7_init 1469 = .ok (.dup, 1) := by decide +kernel
theorem dX7_init_1470 : decode cX7_init 1470 = .ok (.sipush 149, 3) := by decide +kernel
theorem dX7_init_1473 : decode cX7_init 1473 = .ok (.sipush (-1388), 3) := by decide +kernel
theorem dX7_init_1476 : decode cX7_init 1476 = .ok (.iastore, 1) := by decide +kernel
theorem dX7_init_1477 : decode cX7_init 1477 = .ok (.dup, 1) := by decide +kernel
theorem dX7_init_1478 : decode cX7_init 1478 = .ok (.sipush 150, 3) := by decide +kernel
theorem dX7_init_1481 : decode cX7_init 1481 = .ok (.sipush (-1692), 3) := by decide +kernel
theorem dX7_init_1484 : decode cX7_init 1484 = .ok (.iastore, 1) := by decide +kernel
theorem dX7_init_1485 : decode cX7_init 1485 = .ok (.dup, 1) := by decide +kernel
theorem dX7_init_1486 : decode cX7_init 1486 = .ok (.sipush 151, 3) := by decide +kernel
theorem dX7_init_1489 : decode cX7_init 1489 = .ok (.sipush (-2006), 3) := by decide +kernel
theorem dX7_init_1492 : decode cX7_init 1492 = .ok (.iastore, 1) := by decide +kernel
theorem dX7_init_1493 : decode cX7_init 1493 = .ok (.dup, 1) := by decide +kernel
theorem dX7_init_1494 : decode cX7_init 1494 = .ok (.sipush 152, 3) := by decide +kernel
theorem dX7_init_1497 : decode cX7_init 1497 = .ok (.sipush (-2330), 3) := by decide +kernel
theorem dX7_init_1500 : decode cX7_init 1500 = .ok (.iastore, 1) := by decide +kernel
theorem dX7_init_1501 : decode cX7_init 1501 = .ok (.dup, 1) := by decide +kernel
theorem dX7_init_1502 : decode cX7_init 1502 = .ok (.sipush 153, 3) := by decide +kernel
theorem dX7_init_1505 : decode cX7_init 1505 = .ok (.sipush (-2663), 3) := by decide +kernel
theorem dX7_init_1508 : decode cX7_init 1508 = .ok (.iastore, 1) := by decide +kernel
theorem dX7_init_1509 : decode cX7_init 1509 = .ok (.dup, 1) := by decide +kernel
theorem dX7_init_1510 : decode cX7_init 1510 = .ok (.sipush 154, 3) := by decide +kernel
theorem dX7_init_1513 : decode cX7_init 1513 = .ok (.sipush (-3004), 3) := by decide +kernel
theorem dX7_init_1516 : decode cX7_init 1516 = .ok (.iastore, 1) := by decide +kernel
theorem dX7_init_1517 : decode cX7_init 1517 = .ok (.dup, 1) := by decide +kernel
theorem dX7_init_1518 : decode cX7_init 1518 = .ok (.sipush 155, 3) := by decide +kernel
theorem dX7_init_1521 : decode cX7_init 1521 = .ok (.sipush (-3351), 3) := by decide +kernel
theorem dX7_init_1524 : decode cX7_init 1524 = .ok (.iastore, 1) := by decide +kernel
theorem dX7_init_1525 : decode cX7_init 1525 = .ok (.dup, 1) := by decide +kernel
theorem dX7_init_1526 : decode cX7_init 1526 = .ok (.sipush 156, 3) := by decide +kernel
theorem dX7_init_1529 : decode cX7_init 1529 = .ok (.sipush (-3705), 3) := by decide +kernel
theorem dX7_init_1532 : decode cX7_init 1532 = .ok (.iastore, 1) := by decide +kernel
theorem dX7_init_1533 : decode cX7_init 1533 = .ok (.dup, 1) := by decide +kernel
theorem dX7_init_1534 : decode cX7_init 1534 = .ok (.sipush 157, 3) := by decide +kernel
theorem dX7_init_1537 : decode cX7_init 1537 = .ok (.sipush (-4063), 3) := by decide +kernel
theorem dX7_init_1540 : decode cX7_init 1540 = .ok (.iastore, 1) := by decide +kernel
theorem dX7_init_1541 : decode cX7_init 1541 = .ok (.dup, 1) := by decide +kernel
theorem dX7_init_1542 : decode cX7_init 1542 = .ok (.sipush 158, 3) := by decide +kernel
theorem dX7_init_1545 : decode cX7_init 1545 = .ok (.sipush (-4425), 3) := by decide +kernel
theorem dX7_init_1548 : decode cX7_init 1548 = .ok (.iastore, 1) := by decide +kernel
theorem dX7_init_1549 : decode cX7_init 1549 = .ok (.dup, 1) := by decide +kernel
theorem dX7_init_1550 : decode cX7_init 1550 = .ok (.sipush 159, 3) := by decide +kernel
theorem dX7_init_1553 : decode cX7_init 1553 = .ok (.sipush (-4788), 3) := by decide +kernel
theorem dX7_init_1556 : decode cX7_init 1556 = .ok (.iastore, 1) := by decide +kernel
theorem dX7_init_1557 : decode cX7_init 1557 = .ok (.dup, 1) := by decide +kernel
theorem dX7_init_1558 : decode cX7_init 1558 = .ok (.sipush 160, 3) := by decide +kernel
