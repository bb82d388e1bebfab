/-! the law: cases -/
theorem r_316_1359 : row 316 1359 = some (.aload_n 1, 1360, 0, 0, 0, 0) := rfl
theorem r_316_1360 : row 316 1360 = some (.aload_n 0, 1361, 0, 0, 0, 0) := rfl
theorem r_316_1361 : row 316 1361 = some (.iload_n 3, 1362, 0, 0, 0, 0) := rfl
theorem r_316_1362 : row 316 1362 = some (.iconst 1, 1363, 1, 0, 0, 0) := rfl
theorem r_316_1363 : row 316 1363 = some (.iadd, 1364, 0, 0, 0, 0) := rfl
theorem r_316_1364 : row 316 1364 = some (.iaload, 1365, 0, 0, 0, 0) := rfl
theorem r_316_1365 : row 316 1365 = some (.invokevirtual 205, 1368, 48, 1, 0, 5070) := rfl
theorem r_316_1368 : row 316 1368 = some (.pop, 1369, 0, 0, 0, 0) := rfl
theorem r_316_1369 : row 316 1369 = some (.aload_n 2, 1370, 0, 0, 0, 0) := rfl
theorem r_316_1370 : row 316 1370 = some (.aload_n 0, 1371, 0, 0, 0, 0) := rfl
theorem r_316_1371 : row 316 1371 = some (.iload_n 3, 1372, 0, 0, 0, 0) := rfl
theorem r_316_1372 : row 316 1372 = some (.iconst 1, 1373, 1, 0, 0, 0) := rfl
theorem r_316_1373 : row 316 1373 = some (.iadd, 1374, 0, 0, 0, 0) := rfl
theorem r_316_1374 : row 316 1374 = some (.iaload, 1375, 0, 0, 0, 0) := rfl
theorem r_316_1375 : row 316 1375 = some (.invokevirtual 208, 1378, 198, 1, 0, 8120) := rfl
theorem r_316_1378 : row 316 1378 = some (.pop, 1379, 0, 0, 0, 0) := rfl
theorem r_316_1379 : row 316 1379 = some (.goto 719, 1382, 2098, 0, 0, 0) := rfl
theorem r_316_1382 : row 316 1382 = some (.aload_n 1, 1383, 0, 0, 0, 0) := rfl
theorem r_316_1383 : row 316 1383 = some (.aload_n 0, 1384, 0, 0, 0, 0) := rfl
theorem r_316_1384 : row 316 1384 = some (.iload_n 3, 1385, 0, 0, 0, 0) := rfl
theorem r_316_1385 : row 316 1385 = some (.iconst 1, 1386, 1, 0, 0, 0) := rfl
theorem r_316_1386 : row 316 1386 = some (.iadd, 1387, 0, 0, 0, 0) := rfl
theorem r_316_1387 : row 316 1387 = some (.iaload, 1388, 0, 0, 0, 0) := rfl
theorem r_316_1388 : row 316 1388 = some (.invokevirtual 209, 1391, 49, 1, 0, 5074) := rfl
theorem r_316_1391 : row 316 1391 = some (.pop, 1392, 0, 0, 0, 0) := rfl
theorem r_316_1392 : row 316 1392 = some (.aload_n 2, 1393, 0, 0, 0, 0) := rfl
theorem r_316_1393 : row 316 1393 = some (.aload_n 0, 1394, 0, 0, 0, 0) := rfl
theorem r_316_1394 : row 316 1394 = some (.iload_n 3, 1395, 0, 0, 0, 0) := rfl
theorem r_316_1395 : row 316 1395 = some (.iconst 1, 1396, 1, 0, 0, 0) := rfl
theorem r_316_1396 : row 316 1396 = some (.iadd, 1397, 0, 0, 0, 0) := rfl
theorem r_316_1397 : row 316 1397 = some (.iaload, 1398, 0, 0, 0, 0) := rfl
theorem r_316_1398 : row 316 1398 = some (.invokevirtual 212, 1401, 200, 1, 0, 8124) := rfl
theorem r_316_1401 : row 316 1401 = some (.pop, 1402, 0, 0, 0, 0) := rfl
theorem r_316_1402 : row 316 1402 = some (.goto 696, 1405, 2098, 0, 0, 0) := rfl
theorem r_316_1405 : row 316 1405 = some (.aload_n 1, 1406, 0, 0, 0, 0) := rfl
theorem r_316_1406 : row 316 1406 = some (.aload_n 0, 1407, 0, 0, 0, 0) := rfl
theorem r_316_1407 : row 316 1407 = some (.iload_n 3, 1408, 0, 0, 0, 0) := rfl
theorem r_316_1408 : row 316 1408 = some (.iconst 1, 1409, 1, 0, 0, 0) := rfl
theorem r_316_1409 : row 316 1409 = some (.iadd, 1410, 0, 0, 0, 0) := rfl
theorem r_316_1410 : row 316 1410 = some (.iaload, 1411, 0, 0, 0, 0) := rfl
theorem r_316_1411 : row 316 1411 = some (.invokevirtual 213, 1414, 50, 1, 0, 5088) := rfl
theorem r_316_1414 : row 316 1414 = some (.pop, 1415, 0, 0, 0, 0) := rfl
theorem r_316_1415 : row 316 1415 = some (.aload_n 2, 1416, 0, 0, 0, 0) := rfl
theorem r_316_1416 : row 316 1416 = some (.aload_n 0, 1417, 0, 0, 0, 0) := rfl
theorem r_316_1417 : row 316 1417 = some (.iload_n 3, 1418, 0, 0, 0, 0) := rfl
theorem r_316_1418 : row 316 1418 = some (.iconst 1, 1419, 1, 0, 0, 0) := rfl
theorem r_316_1419 : row 316 1419 = some (.iadd, 1420, 0, 0, 0, 0) := rfl
theorem r_316_1420 : row 316 1420 = some (.iaload, 1421, 0, 0, 0, 0) := rfl
theorem r_316_1421 : row 316 1421 = some (.invokevirtual 216, 1424, 201, 1, 0, 8132) := rfl
theorem r_316_1424 : row 316 1424 = some (.pop, 1425, 0, 0, 0, 0) := rfl
theorem r_316_1425 : row 316 1425 = some (.goto 673, 1428, 2098, 0, 0, 0) := rfl
theorem r_316_1428 : row 316 1428 = some (.aload_n 1, 1429, 0, 0, 0, 0) := rfl
theorem r_316_1429 : row 316 1429 = some (.aload_n 0, 1430, 0, 0, 0, 0) := rfl
theorem r_316_1430 : row 316 1430 = some (.iload_n 3, 1431, 0, 0, 0, 0) := rfl
theorem r_316_1431 : row 316 1431 = some (.iconst 1, 1432, 1, 0, 0, 0) := rfl
theorem r_316_1432 : row 316 1432 = some (.iadd, 1433, 0, 0, 0, 0) := rfl
theorem r_316_1433 : row 316 1433 = some (.iaload, 1434, 0, 0, 0, 0) := rfl
theorem r_316_1434 : row 316 1434 = some (.aload_n 0, 1435, 0, 0, 0, 0) := rfl
theorem r_316_1435 : row 316 1435 = some (.iload_n 3, 1436, 0, 0, 0, 0) := rfl
theorem r_316_1436 : row 316 1436 = some (.iconst 2, 1437, 2, 0, 0, 0) := rfl
theorem r_316_1437 : row 316 1437 = some (.iadd, 1438, 0, 0, 0, 0) := rfl
theorem r_316_1438 : row 316 1438 = some (.iaload, 1439, 0, 0, 0, 0) := rfl
theorem r_316_1439 : row 316 1439 = some (.invokevirtual 217, 1442, 51, 2, 0, 5093) := rfl
theorem r_316_1442 : row 316 1442 = some (.pop, 1443, 0, 0, 0, 0) := rfl
theorem r_316_1443 : row 316 1443 = some (.aload_n 2, 1444, 0, 0, 0, 0) := rfl
theorem r_316_1444 : row 316 1444 = some (.aload_n 0, 1445, 0, 0, 0, 0) := rfl
theorem r_316_1445 : row 316 1445 = some (.iload_n 3, 1446, 0, 0, 0, 0) := rfl
theorem r_316_1446 : row 316 1446 = some (.iconst 1, 1447, 1, 0, 0, 0) := rfl
theorem r_316_1447 : row 316 1447 = some (.iadd, 1448, 0, 0, 0, 0) := rfl
theorem r_316_1448 : row 316 1448 = some (.iaload, 1449, 0, 0, 0, 0) := rfl
theorem r_316_1449 : row 316 1449 = some (.aload_n 0, 1450, 0, 0, 0, 0) := rfl
theorem r_316_1450 : row 316 1450 = some (.iload_n 3, 1451, 0, 0, 0, 0) := rfl
theorem r_316_1451 : row 316 1451 = some (.iconst 2, 1452, 2, 0, 0, 0) := rfl
theorem r_316_1452 : row 316 1452 = some (.iadd, 1453, 0, 0, 0, 0) := rfl
theorem r_316_1453 : row 316 1453 = some (.iaload, 1454, 0, 0, 0, 0) := rfl
theorem r_316_1454 : row 316 1454 = some (.invokevirtual 220, 1457, 205, 2, 0, 8136) := rfl
theorem r_316_1457 : row 316 1457 = some (.pop, 1458, 0, 0, 0, 0) := rfl
theorem r_316_1458 : row 316 1458 = some (.goto 640, 1461, 2098, 0, 0, 0) := rfl
theorem r_316_1461 : row 316 1461 = some (.aload_n 1, 1462, 0, 0, 0, 0) := rfl
theorem r_316_1462 : row 316 1462 = some (.aload_n 0, 1463, 0, 0, 0, 0) := rfl
theorem r_316_1463 : row 316 1463 = some (.iload_n 3, 1464, 0, 0, 0, 0) := rfl
theorem r_316_1464 : row 316 1464 = some (.iconst 1, 1465, 1, 0, 0, 0) := rfl
theorem r_316_1465 : row 316 1465 = some (.iadd, 1466, 0, 0, 0, 0) := rfl
theorem r_316_1466 : row 316 1466 = some (.iaload, 1467, 0, 0, 0, 0) := rfl
theorem r_316_1467 : row 316 1467 = some (.aload_n 0, 1468, 0, 0, 0, 0) := rfl
theorem r_316_1468 : row 316 1468 = some (.iload_n 3, 1469, 0, 0, 0, 0) := rfl
theorem r_316_1469 : row 316 1469 = some (.iconst 2, 1470, 2, 0, 0, 0) := rfl
theorem r_316_1470 : row 316 1470 = some (.iadd, 1471, 0, 0, 0, 0) := rfl
theorem r_316_1471 : row 316 1471 = some (.iaload, 1472, 0, 0, 0, 0) := rfl
theorem r_316_1472 : row 316 1472 = some (.aload_n 0, 1473, 0, 0, 0, 0) := rfl
theorem r_316_1473 : row 316 1473 = some (.iload_n 3, 1474, 0, 0, 0, 0) := rfl
theorem r_316_1474 : row 316 1474 = some (.iconst 3, 1475, 3, 0, 0, 0) := rfl
theorem r_316_1475 : row 316 1475 = some (.iadd, 1476, 0, 0, 0, 0) := rfl
theorem r_316_1476 : row 316 1476 = some (.iaload, 1477, 0, 0, 0, 0) := rfl
theorem r_316_1477 : row 316 1477 = some (.invokevirtual 221, 1480, 52, 3, 0, 5100) := rfl
theorem r_316_1480 : row 316 1480 = some (.pop, 1481, 0, 0, 0, 0) := rfl
theorem r_316_1481 : row 316 1481 = some (.aload_n 2, 1482, 0, 0, 0, 0) := rfl
theorem r_316_1482 : row 316 1482 = some (.aload_n 0, 1483, 0, 0, 0, 0) := rfl
theorem r_316_1483 : row 316 1483 = some (.iload_n 3, 1484, 0, 0, 0, 0) := rfl
theorem r_316_1484 : row 316 1484 = some (.iconst 1, 1485, 1, 0, 0, 0) := rfl
theorem r_316_1485 : row 316 1485 = some (.iadd, 1486, 0, 0, 0, 0) := rfl
theorem r_316_1486 : row 316 1486 = some (.iaload, 1487, 0, 0, 0, 0) := rfl
theorem r_316_1487 : row 316 1487 = some (.aload_n 0, 1488, 0, 0, 0, 0) := rfl
theorem r_316_1488 : row 316 1488 = some (.iload_n 3, 1489, 0, 0, 0, 0) := rfl
theorem r_316_1489 : row 316 1489 = some (.iconst 2, 1490, 2, 0, 0, 0) := rfl
theorem r_316_1490 : row 316 1490 = some (.iadd, 1491, 0, 0, 0, 0) := rfl
theorem r_316_1491 : row 316 1491 = some (.iaload, 1492, 0, 0, 0, 0) := rfl
theorem r_316_1492 : row 316 1492 = some (.aload_n 0, 1493, 0, 0, 0, 0) := rfl
theorem r_316_1493 : row 316 1493 = some (.iload_n 3, 1494, 0, 0, 0, 0) := rfl
theorem r_316_1494 : row 316 1494 = some (.iconst 3, 1495, 3, 0, 0, 0) := rfl
theorem r_316_1495 : row 316 1495 = some (.iadd, 1496, 0, 0, 0, 0) := rfl
theorem r_316_1496 : row 316 1496 = some (.iaload, 1497, 0, 0, 0, 0) := rfl
theorem r_316_1497 : row 316 1497 = some (.invokevirtual 225, 1500, 206, 3, 0, 8150) := rfl
theorem r_316_1500 : row 316 1500 = some (.pop, 1501, 0, 0, 0, 0) := rfl
theorem r_316_1501 : row 316 1501 = some (.goto 597, 1504, 2098, 0, 0, 0) := rfl
theorem r_316_1504 : row 316 1504 = some (.aload_n 1, 1505, 0, 0, 0, 0) := rfl
theorem r_316_1505 : row 316 1505 = some (.aload_n 0, 1506, 0, 0, 0, 0) := rfl
theorem r_316_1506 : row 316 1506 = some (.iload_n 3, 1507, 0, 0, 0, 0) := rfl
theorem r_316_1507 : row 316 1507 = some (.iconst 1, 1508, 1, 0, 0, 0) := rfl
theorem r_316_1508 : row 316 1508 = some (.iadd, 1509, 0, 0, 0, 0) := rfl
theorem r_316_1509 : row 316 1509 = some (.iaload, 1510, 0, 0, 0, 0) := rfl
theorem r_316_1510 : row 316 1510 = some (.aload_n 0, 1511, 0, 0, 0, 0) := rfl
theorem r_316_1511 : row 316 1511 = some (.iload_n 3, 1512, 0, 0, 0, 0) := rfl
theorem r_316_1512 : row 316 1512 = some (.iconst 2, 1513, 2, 0, 0, 0) := rfl
theorem r_316_1513 : row 316 1513 = some (.iadd, 1514, 0, 0, 0, 0) := rfl
theorem r_316_1514 : row 316 1514 = some (.iaload, 1515, 0, 0, 0, 0) := rfl
theorem r_316_1515 : row 316 1515 = some (.aload_n 0, 1516, 0, 0, 0, 0) := rfl
theorem r_316_1516 : row 316 1516 = some (.iload_n 3, 1517, 0, 0, 0, 0) := rfl
theorem r_316_1517 : row 316 1517 = some (.iconst 3, 1518, 3, 0, 0, 0) := rfl
theorem r_316_1518 : row 316 1518 = some (.iadd, 1519, 0, 0, 0, 0) := rfl
theorem r_316_1519 : row 316 1519 = some (.iaload, 1520, 0, 0, 0, 0) := rfl
theorem r_316_1520 : row 316 1520 = some (.aload_n 0, 1521, 0, 0, 0, 0) := rfl
theorem r_316_1521 : row 316 1521 = some (.iload_n 3, 1522, 0, 0, 0, 0) := rfl
theorem r_316_1522 : row 316 1522 = some (.iconst 4, 1523, 4, 0, 0, 0) := rfl
theorem r_316_1523 : row 316 1523 = some (.iadd, 1524, 0, 0, 0, 0) := rfl
theorem r_316_1524 : row 316 1524 = some (.iaload, 1525, 0, 0, 0, 0) := rfl
theorem r_316_1525 : row 316 1525 = some (.invokevirtual 226, 1528, 53, 4, 0, 5104) := rfl
theorem r_316_1528 : row 316 1528 = some (.pop, 1529, 0, 0, 0, 0) := rfl
theorem r_316_1529 : row 316 1529 = some (.aload_n 2, 1530, 0, 0, 0, 0) := rfl
theorem r_316_1530 : row 316 1530 = some (.aload_n 0, 1531, 0, 0, 0, 0) := rfl
theorem r_316_1531 : row 316 1531 = some (.iload_n 3, 1532, 0, 0, 0, 0) := rfl
theorem r_316_1532 : row 316 1532 = some (.iconst 1, 1533, 1, 0, 0, 0) := rfl
theorem r_316_1533 : row 316 1533 = some (.iadd, 1534, 0, 0, 0, 0) := rfl
theorem r_316_1534 : row 316 1534 = some (.iaload, 1535, 0, 0, 0, 0) := rfl
theorem r_316_1535 : row 316 1535 = some (.aload_n 0, 1536, 0, 0, 0, 0) := rfl
theorem r_316_1536 : row 316 1536 = some (.iload_n 3, 1537, 0, 0, 0, 0) := rfl
theorem r_316_1537 : row 316 1537 = some (.iconst 2, 1538, 2, 0, 0, 0) := rfl
theorem r_316_1538 : row 316 1538 = some (.iadd, 1539, 0, 0, 0, 0) := rfl
theorem r_316_1539 : row 316 1539 = some (.iaload, 1540, 0, 0, 0, 0) := rfl
theorem r_316_1540 : row 316 1540 = some (.aload_n 0, 1541, 0, 0, 0, 0) := rfl
theorem r_316_1541 : row 316 1541 = some (.iload_n 3, 1542, 0, 0, 0, 0) := rfl
theorem r_316_1542 : row 316 1542 = some (.iconst 3, 1543, 3, 0, 0, 0) := rfl
theorem r_316_1543 : row 316 1543 = some (.iadd, 1544, 0, 0, 0, 0) := rfl
theorem r_316_1544 : row 316 1544 = some (.iaload, 1545, 0, 0, 0, 0) := rfl
theorem r_316_1545 : row 316 1545 = some (.aload_n 0, 1546, 0, 0, 0, 0) := rfl
theorem r_316_1546 : row 316 1546 = some (.iload_n 3, 1547, 0, 0, 0, 0) := rfl
theorem r_316_1547 : row 316 1547 = some (.iconst 4, 1548, 4, 0, 0, 0) := rfl
theorem r_316_1548 : row 316 1548 = some (.iadd, 1549, 0, 0, 0, 0) := rfl
theorem r_316_1549 : row 316 1549 = some (.iaload, 1550, 0, 0, 0, 0) := rfl
theorem r_316_1550 : row 316 1550 = some (.invokevirtual 230, 1553, 208, 4, 0, 8158) := rfl
theorem r_316_1553 : row 316 1553 = some (.pop, 1554, 0, 0, 0, 0) := rfl
theorem r_316_1554 : row 316 1554 = some (.goto 544, 1557, 2098, 0, 0, 0) := rfl
theorem r_316_1557 : row 316 1557 = some (.aload_n 1, 1558, 0, 0, 0, 0) := rfl
theorem r_316_1558 : row 316 1558 = some (.aload_n 0, 1559, 0, 0, 0, 0) := rfl
theorem r_316_1559 : row 316 1559 = some (.iload_n 3, 1560, 0, 0, 0, 0) := rfl
theorem r_316_1560 : row 316 1560 = some (.iconst 1, 1561, 1, 0, 0, 0) := rfl
theorem r_316_1561 : row 316 1561 = some (.iadd, 1562, 0, 0, 0, 0) := rfl
theorem r_316_1562 : row 316 1562 = some (.iaload, 1563, 0, 0, 0, 0) := rfl
theorem r_316_1563 : row 316 1563 = some (.aload_n 0, 1564, 0, 0, 0, 0) := rfl
theorem r_316_1564 : row 316 1564 = some (.iload_n 3, 1565, 0, 0, 0, 0) := rfl
theorem r_316_1565 : row 316 1565 = some (.iconst 2, 1566, 2, 0, 0, 0) := rfl
theorem r_316_1566 : row 316 1566 = some (.iadd, 1567, 0, 0, 0, 0) := rfl
theorem r_316_1567 : row 316 1567 = some (.iaload, 1568, 0, 0, 0, 0) := rfl
theorem r_316_1568 : row 316 1568 = some (.aload_n 0, 1569, 0, 0, 0, 0) := rfl
theorem r_316_1569 : row 316 1569 = some (.iload_n 3, 1570, 0, 0, 0, 0) := rfl
theorem r_316_1570 : row 316 1570 = some (.iconst 3, 1571, 3, 0, 0, 0) := rfl
theorem r_316_1571 : row 316 1571 = some (.iadd, 1572, 0, 0, 0, 0) := rfl
theorem r_316_1572 : row 316 1572 = some (.iaload, 1573, 0, 0, 0, 0) := rfl
theorem r_316_1573 : row 316 1573 = some (.invokevirtual 231, 1576, 54, 3, 0, 5111) := rfl
theorem r_316_1576 : row 316 1576 = some (.pop, 1577, 0, 0, 0, 0) := rfl
theorem r_316_1577 : row 316 1577 = some (.aload_n 2, 1578, 0, 0, 0, 0) := rfl
theorem r_316_1578 : row 316 1578 = some (.aload_n 0, 1579, 0, 0, 0, 0) := rfl
theorem r_316_1579 : row 316 1579 = some (.iload_n 3, 1580, 0, 0, 0, 0) := rfl
theorem r_316_1580 : row 316 1580 = some (.iconst 1, 1581, 1, 0, 0, 0) := rfl
theorem r_316_1581 : row 316 1581 = some (.iadd, 1582, 0, 0, 0, 0) := rfl
theorem r_316_1582 : row 316 1582 = some (.iaload, 1583, 0, 0, 0, 0) := rfl
theorem r_316_1583 : row 316 1583 = some (.aload_n 0, 1584, 0, 0, 0, 0) := rfl
theorem r_316_1584 : row 316 1584 = some (.iload_n 3, 1585, 0, 0, 0, 0) := rfl
theorem r_316_1585 : row 316 1585 = some (.iconst 2, 1586, 2, 0, 0, 0) := rfl
theorem r_316_1586 : row 316 1586 = some (.iadd, 1587, 0, 0, 0, 0) := rfl
theorem r_316_1587 : row 316 1587 = some (.iaload, 1588, 0, 0, 0, 0) := rfl
theorem r_316_1588 : row 316 1588 = some (.aload_n 0, 1589, 0, 0, 0, 0) := rfl
theorem r_316_1589 : row 316 1589 = some (.iload_n 3, 1590, 0, 0, 0, 0) := rfl
theorem r_316_1590 : row 316 1590 = some (.iconst 3, 1591, 3, 0, 0, 0) := rfl
theorem r_316_1591 : row 316 1591 = some (.iadd, 1592, 0, 0, 0, 0) := rfl
theorem r_316_1592 : row 316 1592 = some (.iaload, 1593, 0, 0, 0, 0) := rfl
theorem r_316_1593 : row 316 1593 = some (.invokevirtual 234, 1596, 209, 3, 0, 8166) := rfl
theorem r_316_1596 : row 316 1596 = some (.pop, 1597, 0, 0, 0, 0) := rfl
theorem r_316_1597 : row 316 1597 = some (.goto 501, 1600, 2098, 0, 0, 0) := rfl
theorem r_316_1600 : row 316 1600 = some (.aload_n 1, 1601, 0, 0, 0, 0) := rfl
theorem r_316_1601 : row 316 1601 = some (.aload_n 0, 1602, 0, 0, 0, 0) := rfl
theorem r_316_1602 : row 316 1602 = some (.iload_n 3, 1603, 0, 0, 0, 0) := rfl
theorem r_316_1603 : row 316 1603 = some (.iconst 1, 1604, 1, 0, 0, 0) := rfl
theorem r_316_1604 : row 316 1604 = some (.iadd, 1605, 0, 0, 0, 0) := rfl
theorem r_316_1605 : row 316 1605 = some (.iaload, 1606, 0, 0, 0, 0) := rfl
theorem r_316_1606 : row 316 1606 = some (.invokevirtual 235, 1609, 55, 1, 0, 5115) := rfl
theorem r_316_1609 : row 316 1609 = some (.pop2, 1610, 0, 0, 0, 0) := rfl
theorem r_316_1610 : row 316 1610 = some (.aload_n 2, 1611, 0, 0, 0, 0) := rfl
theorem r_316_1611 : row 316 1611 = some (.aload_n 0, 1612, 0, 0, 0, 0) := rfl
theorem r_316_1612 : row 316 1612 = some (.iload_n 3, 1613, 0, 0, 0, 0) := rfl
theorem r_316_1613 : row 316 1613 = some (.iconst 1, 1614, 1, 0, 0, 0) := rfl
theorem r_316_1614 : row 316 1614 = some (.iadd, 1615, 0, 0, 0, 0) := rfl
theorem r_316_1615 : row 316 1615 = some (.iaload, 1616, 0, 0, 0, 0) := rfl
theorem r_316_1616 : row 316 1616 = some (.invokevirtual 239, 1619, 211, 1, 0, 8171) := rfl
theorem r_316_1619 : row 316 1619 = some (.pop2, 1620, 0, 0, 0, 0) := rfl
theorem r_316_1620 : row 316 1620 = some (.goto 478, 1623, 2098, 0, 0, 0) := rfl
theorem r_316_1623 : row 316 1623 = some (.aload_n 1, 1624, 0, 0, 0, 0) := rfl
theorem r_316_1624 : row 316 1624 = some (.aload_n 0, 1625, 0, 0, 0, 0) := rfl
theorem r_316_1625 : row 316 1625 = some (.iload_n 3, 1626, 0, 0, 0, 0) := rfl
theorem r_316_1626 : row 316 1626 = some (.iconst 1, 1627, 1, 0, 0, 0) := rfl
theorem r_316_1627 : row 316 1627 = some (.iadd, 1628, 0, 0, 0, 0) := rfl
theorem r_316_1628 : row 316 1628 = some (.iaload, 1629, 0, 0, 0, 0) := rfl
theorem r_316_1629 : row 316 1629 = some (.invokevirtual 240, 1632, 56, 1, 0, 5124) := rfl
theorem r_316_1632 : row 316 1632 = some (.pop, 1633, 0, 0, 0, 0) := rfl
theorem r_316_1633 : row 316 1633 = some (.aload_n 2, 1634, 0, 0, 0, 0) := rfl
theorem r_316_1634 : row 316 1634 = some (.aload_n 0, 1635, 0, 0, 0, 0) := rfl
theorem r_316_1635 : row 316 1635 = some (.iload_n 3, 1636, 0, 0, 0, 0) := rfl
theorem r_316_1636 : row 316 1636 = some (.iconst 1, 1637, 1, 0, 0, 0) := rfl
theorem r_316_1637 : row 316 1637 = some (.iadd, 1638, 0, 0, 0, 0) := rfl
theorem r_316_1638 : row 316 1638 = some (.iaload, 1639, 0, 0, 0, 0) := rfl
theorem r_316_1639 : row 316 1639 = some (.invokevirtual 243, 1642, 212, 1, 0, 8179) := rfl
theorem r_316_1642 : row 316 1642 = some (.pop, 1643, 0, 0, 0, 0) := rfl
theorem r_316_1643 : row 316 1643 = some (.goto 455, 1646, 2098, 0, 0, 0) := rfl
theorem r_316_1646 : row 316 1646 = some (.aload_n 1, 1647, 0, 0, 0, 0) := rfl
theorem r_316_1647 : row 316 1647 = some (.aload_n 0, 1648, 0, 0, 0, 0) := rfl
theorem r_316_1648 : row 316 1648 = some (.iload_n 3, 1649, 0, 0, 0, 0) := rfl
theorem r_316_1649 : row 316 1649 = some (.iconst 1, 1650, 1, 0, 0, 0) := rfl
theorem r_316_1650 : row 316 1650 = some (.iadd, 1651, 0, 0, 0, 0) := rfl
theorem r_316_1651 : row 316 1651 = some (.iaload, 1652, 0, 0, 0, 0) := rfl
theorem r_316_1652 : row 316 1652 = some (.invokevirtual 244, 1655, 59, 1, 0, 5148) := rfl
theorem r_316_1655 : row 316 1655 = some (.pop, 1656, 0, 0, 0, 0) := rfl
theorem r_316_1656 : row 316 1656 = some (.aload_n 2, 1657, 0, 0, 0, 0) := rfl
theorem r_316_1657 : row 316 1657 = some (.aload_n 0, 1658, 0, 0, 0, 0) := rfl
theorem r_316_1658 : row 316 1658 = some (.iload_n 3, 1659, 0, 0, 0, 0) := rfl
theorem r_316_1659 : row 316 1659 = some (.iconst 1, 1660, 1, 0, 0, 0) := rfl
theorem r_316_1660 : row 316 1660 = some (.iadd, 1661, 0, 0, 0, 0) := rfl
theorem r_316_1661 : row 316 1661 = some (.iaload, 1662, 0, 0, 0, 0) := rfl
theorem r_316_1662 : row 316 1662 = some (.invokevirtual 247, 1665, 215, 1, 0, 8183) := rfl
theorem r_316_1665 : row 316 1665 = some (.pop, 1666, 0, 0, 0, 0) := rfl
theorem r_316_1666 : row 316 1666 = some (.goto 432, 1669, 2098, 0, 0, 0) := rfl
theorem r_316_1669 : row 316 1669 = some (.aload_n 1, 1670, 0, 0, 0, 0) := rfl
theorem r_316_1670 : row 316 1670 = some (.aload_n 0, 1671, 0, 0, 0, 0) := rfl
theorem r_316_1671 : row 316 1671 = some (.iload_n 3, 1672, 0, 0, 0, 0) := rfl
theorem r_316_1672 : row 316 1672 = some (.iconst 1, 1673, 1, 0, 0, 0) := rfl
theorem r_316_1673 : row 316 1673 = some (.iadd, 1674, 0, 0, 0, 0) := rfl
theorem r_316_1674 : row 316 1674 = some (.iaload, 1675, 0, 0, 0, 0) := rfl
theorem r_316_1675 : row 316 1675 = some (.aload_n 0, 1676, 0, 0, 0, 0) := rfl
theorem r_316_1676 : row 316 1676 = some (.iload_n 3, 1677, 0, 0, 0, 0) := rfl
theorem r_316_1677 : row 316 1677 = some (.iconst 2, 1678, 2, 0, 0, 0) := rfl
theorem r_316_1678 : row 316 1678 = some (.iadd, 1679, 0, 0, 0, 0) := rfl
theorem r_316_1679 : row 316 1679 = some (.iaload, 1680, 0, 0, 0, 0) := rfl
theorem r_316_1680 : row 316 1680 = some (.invokevirtual 248, 1683, 60, 2, 0, 5162) := rfl
theorem r_316_1683 : row 316 1683 = some (.pop, 1684, 0, 0, 0, 0) := rfl
theorem r_316_1684 : row 316 1684 = some (.aload_n 2, 1685, 0, 0, 0, 0) := rfl
theorem r_316_1685 : row 316 1685 = some (.aload_n 0, 1686, 0, 0, 0, 0) := rfl
theorem r_316_1686 : row 316 1686 = some (.iload_n 3, 1687, 0, 0, 0, 0) := rfl
theorem r_316_1687 : row 316 1687 = some (.iconst 1, 1688, 1, 0, 0, 0) := rfl
theorem r_316_1688 : row 316 1688 = some (.iadd, 1689, 0, 0, 0, 0) := rfl
theorem r_316_1689 : row 316 1689 = some (.iaload, 1690, 0, 0, 0, 0) := rfl
theorem r_316_1690 : row 316 1690 = some (.aload_n 0, 1691, 0, 0, 0, 0) := rfl
theorem r_316_1691 : row 316 1691 = some (.iload_n 3, 1692, 0, 0, 0, 0) := rfl
theorem r_316_1692 : row 316 1692 = some (.iconst 2, 1693, 2, 0, 0, 0) := rfl
theorem r_316_1693 : row 316 1693 = some (.iadd, 1694, 0, 0, 0, 0) := rfl
theorem r_316_1694 : row 316 1694 = some (.iaload, 1695, 0, 0, 0, 0) := rfl
theorem r_316_1695 : row 316 1695 = some (.invokevirtual 251, 1698, 216, 2, 0, 8195) := rfl
theorem r_316_1698 : row 316 1698 = some (.pop, 1699, 0, 0, 0, 0) := rfl
theorem r_316_1699 : row 316 1699 = some (.goto 399, 1702, 2098, 0, 0, 0) := rfl
theorem r_316_1702 : row 316 1702 = some (.aload_n 1, 1703, 0, 0, 0, 0) := rfl
theorem r_316_1703 : row 316 1703 = some (.aload_n 0, 1704, 0, 0, 0, 0) := rfl
theorem r_316_1704 : row 316 1704 = some (.iload_n 3, 1705, 0, 0, 0, 0) := rfl
theorem r_316_1705 : row 316 1705 = some (.iconst 1, 1706, 1, 0, 0, 0) := rfl
theorem r_316_1706 : row 316 1706 = some (.iadd, 1707, 0, 0, 0, 0) := rfl
theorem r_316_1707 : row 316 1707 = some (.iaload, 1708, 0, 0, 0, 0) := rfl
theorem r_316_1708 : row 316 1708 = some (.invokevirtual 252, 1711, 61, 1, 0, 5166) := rfl
theorem r_316_1711 : row 316 1711 = some (.pop, 1712, 0, 0, 0, 0) := rfl
theorem r_316_1712 : row 316 1712 = some (.aload_n 2, 1713, 0, 0, 0, 0) := rfl
theorem r_316_1713 : row 316 1713 = some (.aload_n 0, 1714, 0, 0, 0, 0) := rfl
theorem r_316_1714 : row 316 1714 = some (.iload_n 3, 1715, 0, 0, 0, 0) := rfl
theorem r_316_1715 : row 316 1715 = some (.iconst 1, 1716, 1, 0, 0, 0) := rfl
theorem r_316_1716 : row 316 1716 = some (.iadd, 1717, 0, 0, 0, 0) := rfl
theorem r_316_1717 : row 316 1717 = some (.iaload, 1718, 0, 0, 0, 0) := rfl
theorem r_316_1718 : row 316 1718 = some (.invokevirtual 255, 1721, 217, 1, 0, 8199) := rfl
theorem r_316_1721 : row 316 1721 = some (.pop, 1722, 0, 0, 0, 0) := rfl
theorem r_316_1722 : row 316 1722 = some (.goto 376, 1725, 2098, 0, 0, 0) := rfl
theorem r_316_1725 : row 316 1725 = some (.aload_n 1, 1726, 0, 0, 0, 0) := rfl
theorem r_316_1726 : row 316 1726 = some (.invokevirtual 256, 1729, 62, 0, 0, 5170) := rfl
theorem r_316_1729 : row 316 1729 = some (.pop, 1730, 0, 0, 0, 0) := rfl
theorem r_316_1730 : row 316 1730 = some (.aload_n 2, 1731, 0, 0, 0, 0) := rfl
theorem r_316_1731 : row 316 1731 = some (.invokevirtual 259, 1734, 218, 0, 0, 8203) := rfl
theorem r_316_1734 : row 316 1734 = some (.pop, 1735, 0, 0, 0, 0) := rfl
theorem r_316_1735 : row 316 1735 = some (.goto 363, 1738, 2098, 0, 0, 0) := rfl
theorem r_316_1738 : row 316 1738 = some (.aload_n 1, 1739, 0, 0, 0, 0) := rfl
theorem r_316_1739 : row 316 1739 = some (.invokevirtual 260, 1742, 63, 0, 0, 5178) := rfl
theorem r_316_1742 : row 316 1742 = some (.pop, 1743, 0, 0, 0, 0) := rfl
theorem r_316_1743 : row 316 1743 = some (.aload_n 2, 1744, 0, 0, 0, 0) := rfl
theorem r_316_1744 : row 316 1744 = some (.invokevirtual 263, 1747, 219, 0, 0, 8207) := rfl
theorem r_316_1747 : row 316 1747 = some (.pop, 1748, 0, 0, 0, 0) := rfl
theorem r_316_1748 : row 316 1748 = some (.goto 350, 1751, 2098, 0, 0, 0) := rfl
theorem r_316_1751 : row 316 1751 = some (.aload_n 1, 1752, 0, 0, 0, 0) := rfl
theorem r_316_1752 : row 316 1752 = some (.aload_n 0, 1753, 0, 0, 0, 0) := rfl
theorem r_316_1753 : row 316 1753 = some (.iload_n 3, 1754, 0, 0, 0, 0) := rfl
theorem r_316_1754 : row 316 1754 = some (.iconst 1, 1755, 1, 0, 0, 0) := rfl
theorem r_316_1755 : row 316 1755 = some (.iadd, 1756, 0, 0, 0, 0) := rfl
theorem r_316_1756 : row 316 1756 = some (.iaload, 1757, 0, 0, 0, 0) := rfl
theorem r_316_1757 : row 316 1757 = some (.aload_n 0, 1758, 0, 0, 0, 0) := rfl
theorem r_316_1758 : row 316 1758 = some (.iload_n 3, 1759, 0, 0, 0, 0) := rfl
theorem r_316_1759 : row 316 1759 = some (.iconst 2, 1760, 2, 0, 0, 0) := rfl
theorem r_316_1760 : row 316 1760 = some (.iadd, 1761, 0, 0, 0, 0) := rfl
theorem r_316_1761 : row 316 1761 = some (.iaload, 1762, 0, 0, 0, 0) := rfl
theorem r_316_1762 : row 316 1762 = some (.invokevirtual 264, 1765, 57, 2, 0, 5129) := rfl
theorem r_316_1765 : row 316 1765 = some (.pop, 1766, 0, 0, 0, 0) := rfl
theorem r_316_1766 : row 316 1766 = some (.aload_n 2, 1767, 0, 0, 0, 0) := rfl
theorem r_316_1767 : row 316 1767 = some (.aload_n 0, 1768, 0, 0, 0, 0) := rfl
theorem r_316_1768 : row 316 1768 = some (.iload_n 3, 1769, 0, 0, 0, 0) := rfl
theorem r_316_1769 : row 316 1769 = some (.iconst 1, 1770, 1, 0, 0, 0) := rfl
theorem r_316_1770 : row 316 1770 = some (.iadd, 1771, 0, 0, 0, 0) := rfl
theorem r_316_1771 : row 316 1771 = some (.iaload, 1772, 0, 0, 0, 0) := rfl
theorem r_316_1772 : row 316 1772 = some (.aload_n 0, 1773, 0, 0, 0, 0) := rfl
theorem r_316_1773 : row 316 1773 = some (.iload_n 3, 1774, 0, 0, 0, 0) := rfl
theorem r_316_1774 : row 316 1774 = some (.iconst 2, 1775, 2, 0, 0, 0) := rfl
theorem r_316_1775 : row 316 1775 = some (.iadd, 1776, 0, 0, 0, 0) := rfl
theorem r_316_1776 : row 316 1776 = some (.iaload, 1777, 0, 0, 0, 0) := rfl
theorem r_316_1777 : row 316 1777 = some (.invokevirtual 267, 1780, 222, 2, 0, 8211) := rfl
theorem r_316_1780 : row 316 1780 = some (.pop, 1781, 0, 0, 0, 0) := rfl
theorem r_316_1781 : row 316 1781 = some (.goto 317, 1784, 2098, 0, 0, 0) := rfl
theorem r_316_1784 : row 316 1784 = some (.aload_n 1, 1785, 0, 0, 0, 0) := rfl
theorem r_316_1785 : row 316 1785 = some (.aload_n 0, 1786, 0, 0, 0, 0) := rfl
theorem r_316_1786 : row 316 1786 = some (.iload_n 3, 1787, 0, 0, 0, 0) := rfl
theorem r_316_1787 : row 316 1787 = some (.iconst 1, 1788, 1, 0, 0, 0) := rfl
theorem r_316_1788 : row 316 1788 = some (.iadd, 1789, 0, 0, 0, 0) := rfl
theorem r_316_1789 : row 316 1789 = some (.iaload, 1790, 0, 0, 0, 0) := rfl
theorem r_316_1790 : row 316 1790 = some (.aload_n 0, 1791, 0, 0, 0, 0) := rfl
theorem r_316_1791 : row 316 1791 = some (.iload_n 3, 1792, 0, 0, 0, 0) := rfl
theorem r_316_1792 : row 316 1792 = some (.iconst 2, 1793, 2, 0, 0, 0) := rfl
theorem r_316_1793 : row 316 1793 = some (.iadd, 1794, 0, 0, 0, 0) := rfl
theorem r_316_1794 : row 316 1794 = some (.iaload, 1795, 0, 0, 0, 0) := rfl
theorem r_316_1795 : row 316 1795 = some (.invokevirtual 268, 1798, 58, 2, 0, 5144) := rfl
theorem r_316_1798 : row 316 1798 = some (.pop, 1799, 0, 0, 0, 0) := rfl
theorem r_316_1799 : row 316 1799 = some (.aload_n 2, 1800, 0, 0, 0, 0) := rfl
theorem r_316_1800 : row 316 1800 = some (.aload_n 0, 1801, 0, 0, 0, 0) := rfl
theorem r_316_1801 : row 316 1801 = some (.iload_n 3, 1802, 0, 0, 0, 0) := rfl
theorem r_316_1802 : row 316 1802 = some (.iconst 1, 1803, 1, 0, 0, 0) := rfl
theorem r_316_1803 : row 316 1803 = some (.iadd, 1804, 0, 0, 0, 0) := rfl
theorem r_316_1804 : row 316 1804 = some (.iaload, 1805, 0, 0, 0, 0) := rfl
theorem r_316_1805 : row 316 1805 = some (.aload_n 0, 1806, 0, 0, 0, 0) := rfl
theorem r_316_1806 : row 316 1806 = some (.iload_n 3, 1807, 0, 0, 0, 0) := rfl
theorem r_316_1807 : row 316 1807 = some (.iconst 2, 1808, 2, 0, 0, 0) := rfl
theorem r_316_1808 : row 316 1808 = some (.iadd, 1809, 0, 0, 0, 0) := rfl
theorem r_316_1809 : row 316 1809 = some (.iaload, 1810, 0, 0, 0, 0) := rfl
theorem r_316_1810 : row 316 1810 = some (.invokevirtual 271, 1813, 223, 2, 0, 8227) := rfl
theorem r_316_1813 : row 316 1813 = some (.pop, 1814, 0, 0, 0, 0) := rfl
theorem r_316_1814 : row 316 1814 = some (.goto 284, 1817, 2098, 0, 0, 0) := rfl
theorem r_316_1817 : row 316 1817 = some (.aload_n 1, 1818, 0, 0, 0, 0) := rfl
theorem r_316_1818 : row 316 1818 = some (.aload_n 0, 1819, 0, 0, 0, 0) := rfl
theorem r_316_1819 : row 316 1819 = some (.iload_n 3, 1820, 0, 0, 0, 0) := rfl
theorem r_316_1820 : row 316 1820 = some (.iconst 1, 1821, 1, 0, 0, 0) := rfl
theorem r_316_1821 : row 316 1821 = some (.iadd, 1822, 0, 0, 0, 0) := rfl
theorem r_316_1822 : row 316 1822 = some (.iaload, 1823, 0, 0, 0, 0) := rfl
theorem r_316_1823 : row 316 1823 = some (.aload_n 0, 1824, 0, 0, 0, 0) := rfl
theorem r_316_1824 : row 316 1824 = some (.iload_n 3, 1825, 0, 0, 0, 0) := rfl
theorem r_316_1825 : row 316 1825 = some (.iconst 2, 1826, 2, 0, 0, 0) := rfl
theorem r_316_1826 : row 316 1826 = some (.iadd, 1827, 0, 0, 0, 0) := rfl
theorem r_316_1827 : row 316 1827 = some (.iaload, 1828, 0, 0, 0, 0) := rfl
theorem r_316_1828 : row 316 1828 = some (.invokevirtual 272, 1831, 64, 2, 0, 5182) := rfl
theorem r_316_1831 : row 316 1831 = some (.pop, 1832, 0, 0, 0, 0) := rfl
theorem r_316_1832 : row 316 1832 = some (.aload_n 2, 1833, 0, 0, 0, 0) := rfl
theorem r_316_1833 : row 316 1833 = some (.aload_n 0, 1834, 0, 0, 0, 0) := rfl
theorem r_316_1834 : row 316 1834 = some (.iload_n 3, 1835, 0, 0, 0, 0) := rfl
theorem r_316_1835 : row 316 1835 = some (.iconst 1, 1836, 1, 0, 0, 0) := rfl
theorem r_316_1836 : row 316 1836 = some (.iadd, 1837, 0, 0, 0, 0) := rfl
theorem r_316_1837 : row 316 1837 = some (.iaload, 1838, 0, 0, 0, 0) := rfl
theorem r_316_1838 : row 316 1838 = some (.aload_n 0, 1839, 0, 0, 0, 0) := rfl
theorem r_316_1839 : row 316 1839 = some (.iload_n 3, 1840, 0, 0, 0, 0) := rfl
theorem r_316_1840 : row 316 1840 = some (.iconst 2, 1841, 2, 0, 0, 0) := rfl
theorem r_316_1841 : row 316 1841 = some (.iadd, 1842, 0, 0, 0, 0) := rfl
theorem r_316_1842 : row 316 1842 = some (.iaload, 1843, 0, 0, 0, 0) := rfl
theorem r_316_1843 : row 316 1843 = some (.invokevirtual 275, 1846, 224, 2, 0, 8232) := rfl
theorem r_316_1846 : row 316 1846 = some (.pop, 1847, 0, 0, 0, 0) := rfl
theorem r_316_1847 : row 316 1847 = some (.goto 251, 1850, 2098, 0, 0, 0) := rfl
theorem r_316_1850 : row 316 1850 = some (.aload_n 1, 1851, 0, 0, 0, 0) := rfl
theorem r_316_1851 : row 316 1851 = some (.aload_n 0, 1852, 0, 0, 0, 0) := rfl
theorem r_316_1852 : row 316 1852 = some (.iload_n 3, 1853, 0, 0, 0, 0) := rfl
theorem r_316_1853 : row 316 1853 = some (.iconst 1, 1854, 1, 0, 0, 0) := rfl
theorem r_316_1854 : row 316 1854 = some (.iadd, 1855, 0, 0, 0, 0) := rfl
theorem r_316_1855 : row 316 1855 = some (.iaload, 1856, 0, 0, 0, 0) := rfl
theorem r_316_1856 : row 316 1856 = some (.invokevirtual 276, 1859, 65, 1, 0, 5186) := rfl
theorem r_316_1859 : row 316 1859 = some (.pop, 1860, 0, 0, 0, 0) := rfl
theorem r_316_1860 : row 316 1860 = some (.aload_n 2, 1861, 0, 0, 0, 0) := rfl
theorem r_316_1861 : row 316 1861 = some (.aload_n 0, 1862, 0, 0, 0, 0) := rfl
theorem r_316_1862 : row 316 1862 = some (.iload_n 3, 1863, 0, 0, 0, 0) := rfl
theorem r_316_1863 : row 316 1863 = some (.iconst 1, 1864, 1, 0, 0, 0) := rfl
theorem r_316_1864 : row 316 1864 = some (.iadd, 1865, 0, 0, 0, 0) := rfl
theorem r_316_1865 : row 316 1865 = some (.iaload, 1866, 0, 0, 0, 0) := rfl
theorem r_316_1866 : row 316 1866 = some (.invokevirtual 279, 1869, 225, 1, 0, 8236) := rfl
theorem r_316_1869 : row 316 1869 = some (.pop, 1870, 0, 0, 0, 0) := rfl
theorem r_316_1870 : row 316 1870 = some (.goto 228, 1873, 2098, 0, 0, 0) := rfl
theorem r_316_1873 : row 316 1873 = some (.aload_n 1, 1874, 0, 0, 0, 0) := rfl
theorem r_316_1874 : row 316 1874 = some (.aload_n 0, 1875, 0, 0, 0, 0) := rfl
theorem r_316_1875 : row 316 1875 = some (.iload_n 3, 1876, 0, 0, 0, 0) := rfl
theorem r_316_1876 : row 316 1876 = some (.iconst 1, 1877, 1, 0, 0, 0) := rfl
theorem r_316_1877 : row 316 1877 = some (.iadd, 1878, 0, 0, 0, 0) := rfl
theorem r_316_1878 : row 316 1878 = some (.iaload, 1879, 0, 0, 0, 0) := rfl
theorem r_316_1879 : row 316 1879 = some (.invokevirtual 280, 1882, 66, 1, 0, 5194) := rfl
theorem r_316_1882 : row 316 1882 = some (.pop, 1883, 0, 0, 0, 0) := rfl
theorem r_316_1883 : row 316 1883 = some (.aload_n 2, 1884, 0, 0, 0, 0) := rfl
theorem r_316_1884 : row 316 1884 = some (.aload_n 0, 1885, 0, 0, 0, 0) := rfl
theorem r_316_1885 : row 316 1885 = some (.iload_n 3, 1886, 0, 0, 0, 0) := rfl
theorem r_316_1886 : row 316 1886 = some (.iconst 1, 1887, 1, 0, 0, 0) := rfl
theorem r_316_1887 : row 316 1887 = some (.iadd, 1888, 0, 0, 0, 0) := rfl
theorem r_316_1888 : row 316 1888 = some (.iaload, 1889, 0, 0, 0, 0) := rfl
theorem r_316_1889 : row 316 1889 = some (.invokevirtual 283, 1892, 88, 1, 0, 6126) := rfl
theorem r_316_1892 : row 316 1892 = some (.pop, 1893, 0, 0, 0, 0) := rfl
theorem r_316_1893 : row 316 1893 = some (.goto 205, 1896, 2098, 0, 0, 0) := rfl
theorem r_316_1896 : row 316 1896 = some (.aload_n 1, 1897, 0, 0, 0, 0) := rfl
theorem r_316_1897 : row 316 1897 = some (.aload_n 0, 1898, 0, 0, 0, 0) := rfl
theorem r_316_1898 : row 316 1898 = some (.iload_n 3, 1899, 0, 0, 0, 0) := rfl
theorem r_316_1899 : row 316 1899 = some (.iconst 1, 1900, 1, 0, 0, 0) := rfl
theorem r_316_1900 : row 316 1900 = some (.iadd, 1901, 0, 0, 0, 0) := rfl
theorem r_316_1901 : row 316 1901 = some (.iaload, 1902, 0, 0, 0, 0) := rfl
theorem r_316_1902 : row 316 1902 = some (.invokevirtual 284, 1905, 67, 1, 0, 5203) := rfl
theorem r_316_1905 : row 316 1905 = some (.pop, 1906, 0, 0, 0, 0) := rfl
theorem r_316_1906 : row 316 1906 = some (.aload_n 2, 1907, 0, 0, 0, 0) := rfl
theorem r_316_1907 : row 316 1907 = some (.aload_n 0, 1908, 0, 0, 0, 0) := rfl
theorem r_316_1908 : row 316 1908 = some (.iload_n 3, 1909, 0, 0, 0, 0) := rfl
theorem r_316_1909 : row 316 1909 = some (.iconst 1, 1910, 1, 0, 0, 0) := rfl
theorem r_316_1910 : row 316 1910 = some (.iadd, 1911, 0, 0, 0, 0) := rfl
theorem r_316_1911 : row 316 1911 = some (.iaload, 1912, 0, 0, 0, 0) := rfl
theorem r_316_1912 : row 316 1912 = some (.invokevirtual 287, 1915, 89, 1, 0, 6134) := rfl
theorem r_316_1915 : row 316 1915 = some (.pop, 1916, 0, 0, 0, 0) := rfl
theorem r_316_1916 : row 316 1916 = some (.goto 182, 1919, 2098, 0, 0, 0) := rfl
theorem r_316_1919 : row 316 1919 = some (.aload_n 1, 1920, 0, 0, 0, 0) := rfl
theorem r_316_1920 : row 316 1920 = some (.aload_n 0, 1921, 0, 0, 0, 0) := rfl
theorem r_316_1921 : row 316 1921 = some (.iload_n 3, 1922, 0, 0, 0, 0) := rfl
theorem r_316_1922 : row 316 1922 = some (.iconst 1, 1923, 1, 0, 0, 0) := rfl
theorem r_316_1923 : row 316 1923 = some (.iadd, 1924, 0, 0, 0, 0) := rfl
theorem r_316_1924 : row 316 1924 = some (.iaload, 1925, 0, 0, 0, 0) := rfl
theorem r_316_1925 : row 316 1925 = some (.aload_n 0, 1926, 0, 0, 0, 0) := rfl
theorem r_316_1926 : row 316 1926 = some (.iload_n 3, 1927, 0, 0, 0, 0) := rfl
theorem r_316_1927 : row 316 1927 = some (.iconst 2, 1928, 2, 0, 0, 0) := rfl
theorem r_316_1928 : row 316 1928 = some (.iadd, 1929, 0, 0, 0, 0) := rfl
theorem r_316_1929 : row 316 1929 = some (.iaload, 1930, 0, 0, 0, 0) := rfl
theorem r_316_1930 : row 316 1930 = some (.aload_n 0, 1931, 0, 0, 0, 0) := rfl
theorem r_316_1931 : row 316 1931 = some (.iload_n 3, 1932, 0, 0, 0, 0) := rfl
theorem r_316_1932 : row 316 1932 = some (.iconst 3, 1933, 3, 0, 0, 0) := rfl
theorem r_316_1933 : row 316 1933 = some (.iadd, 1934, 0, 0, 0, 0) := rfl
theorem r_316_1934 : row 316 1934 = some (.iaload, 1935, 0, 0, 0, 0) := rfl
theorem r_316_1935 : row 316 1935 = some (.invokevirtual 288, 1938, 68, 3, 0, 5207) := rfl
theorem r_316_1938 : row 316 1938 = some (.pop, 1939, 0, 0, 0, 0) := rfl
theorem r_316_1939 : row 316 1939 = some (.aload_n 2, 1940, 0, 0, 0, 0) := rfl
theorem r_316_1940 : row 316 1940 = some (.aload_n 0, 1941, 0, 0, 0, 0) := rfl
theorem r_316_1941 : row 316 1941 = some (.iload_n 3, 1942, 0, 0, 0, 0) := rfl
theorem r_316_1942 : row 316 1942 = some (.iconst 1, 1943, 1, 0, 0, 0) := rfl
theorem r_316_1943 : row 316 1943 = some (.iadd, 1944, 0, 0, 0, 0) := rfl
theorem r_316_1944 : row 316 1944 = some (.iaload, 1945, 0, 0, 0, 0) := rfl
theorem r_316_1945 : row 316 1945 = some (.aload_n 0, 1946, 0, 0, 0, 0) := rfl
theorem r_316_1946 : row 316 1946 = some (.iload_n 3, 1947, 0, 0, 0, 0) := rfl
theorem r_316_1947 : row 316 1947 = some (.iconst 2, 1948, 2, 0, 0, 0) := rfl
theorem r_316_1948 : row 316 1948 = some (.iadd, 1949, 0, 0, 0, 0) := rfl
theorem r_316_1949 : row 316 1949 = some (.iaload, 1950, 0, 0, 0, 0) := rfl
theorem r_316_1950 : row 316 1950 = some (.aload_n 0, 1951, 0, 0, 0, 0) := rfl
theorem r_316_1951 : row 316 1951 = some (.iload_n 3, 1952, 0, 0, 0, 0) := rfl
theorem r_316_1952 : row 316 1952 = some (.iconst 3, 1953, 3, 0, 0, 0) := rfl
theorem r_316_1953 : row 316 1953 = some (.iadd, 1954, 0, 0, 0, 0) := rfl
theorem r_316_1954 : row 316 1954 = some (.iaload, 1955, 0, 0, 0, 0) := rfl
theorem r_316_1955 : row 316 1955 = some (.invokevirtual 291, 1958, 228, 3, 0, 9000) := rfl
theorem r_316_1958 : row 316 1958 = some (.pop, 1959, 0, 0, 0, 0) := rfl
theorem r_316_1959 : row 316 1959 = some (.goto 139, 1962, 2098, 0, 0, 0) := rfl
theorem r_316_1962 : row 316 1962 = some (.aload_n 1, 1963, 0, 0, 0, 0) := rfl
theorem r_316_1963 : row 316 1963 = some (.aload_n 0, 1964, 0, 0, 0, 0) := rfl
theorem r_316_1964 : row 316 1964 = some (.iload_n 3, 1965, 0, 0, 0, 0) := rfl
theorem r_316_1965 : row 316 1965 = some (.iconst 1, 1966, 1, 0, 0, 0) := rfl
theorem r_316_1966 : row 316 1966 = some (.iadd, 1967, 0, 0, 0, 0) := rfl
theorem r_316_1967 : row 316 1967 = some (.iaload, 1968, 0, 0, 0, 0) := rfl
theorem r_316_1968 : row 316 1968 = some (.aload_n 0, 1969, 0, 0, 0, 0) := rfl
theorem r_316_1969 : row 316 1969 = some (.iload_n 3, 1970, 0, 0, 0, 0) := rfl
theorem r_316_1970 : row 316 1970 = some (.iconst 2, 1971, 2, 0, 0, 0) := rfl
theorem r_316_1971 : row 316 1971 = some (.iadd, 1972, 0, 0, 0, 0) := rfl
theorem r_316_1972 : row 316 1972 = some (.iaload, 1973, 0, 0, 0, 0) := rfl
theorem r_316_1973 : row 316 1973 = some (.aload_n 0, 1974, 0, 0, 0, 0) := rfl
theorem r_316_1974 : row 316 1974 = some (.iload_n 3, 1975, 0, 0, 0, 0) := rfl
theorem r_316_1975 : row 316 1975 = some (.iconst 3, 1976, 3, 0, 0, 0) := rfl
theorem r_316_1976 : row 316 1976 = some (.iadd, 1977, 0, 0, 0, 0) := rfl
theorem r_316_1977 : row 316 1977 = some (.iaload, 1978, 0, 0, 0, 0) := rfl
theorem r_316_1978 : row 316 1978 = some (.i2l, 1979, 0, 0, 0, 0) := rfl
theorem r_316_1979 : row 316 1979 = some (.bipush 32, 1981, 32, 0, 0, 0) := rfl
theorem r_316_1981 : row 316 1981 = some (.lshl, 1982, 0, 0, 0, 0) := rfl
theorem r_316_1982 : row 316 1982 = some (.aload_n 0, 1983, 0, 0, 0, 0) := rfl
theorem r_316_1983 : row 316 1983 = some (.iload_n 3, 1984, 0, 0, 0, 0) := rfl
theorem r_316_1984 : row 316 1984 = some (.iconst 4, 1985, 4, 0, 0, 0) := rfl
theorem r_316_1985 : row 316 1985 = some (.iadd, 1986, 0, 0, 0, 0) := rfl
theorem r_316_1986 : row 316 1986 = some (.iaload, 1987, 0, 0, 0, 0) := rfl
theorem r_316_1987 : row 316 1987 = some (.i2l, 1988, 0, 0, 0, 0) := rfl
theorem r_316_1988 : row 316 1988 = some (.ldc2_w 292, 1991, 4294967295, 0, 0, 9015) := rfl
theorem r_316_1991 : row 316 1991 = some (.land, 1992, 0, 0, 0, 0) := rfl
theorem r_316_1992 : row 316 1992 = some (.lor, 1993, 0, 0, 0, 0) := rfl
theorem r_316_1993 : row 316 1993 = some (.invokevirtual 294, 1996, 69, 3, 0, 5215) := rfl
theorem r_316_1996 : row 316 1996 = some (.pop, 1997, 0, 0, 0, 0) := rfl
theorem r_316_1997 : row 316 1997 = some (.aload_n 2, 1998, 0, 0, 0, 0) := rfl
theorem r_316_1998 : row 316 1998 = some (.aload_n 0, 1999, 0, 0, 0, 0) := rfl
theorem r_316_1999 : row 316 1999 = some (.iload_n 3, 2000, 0, 0, 0, 0) := rfl
theorem r_316_2000 : row 316 2000 = some (.iconst 1, 2001, 1, 0, 0, 0) := rfl
theorem r_316_2001 : row 316 2001 = some (.iadd, 2002, 0, 0, 0, 0) := rfl
theorem r_316_2002 : row 316 2002 = some (.iaload, 2003, 0, 0, 0, 0) := rfl
theorem r_316_2003 : row 316 2003 = some (.aload_n 0, 2004, 0, 0, 0, 0) := rfl
theorem r_316_2004 : row 316 2004 = some (.iload_n 3, 2005, 0, 0, 0, 0) := rfl
theorem r_316_2005 : row 316 2005 = some (.iconst 2, 2006, 2, 0, 0, 0) := rfl
theorem r_316_2006 : row 316 2006 = some (.iadd, 2007, 0, 0, 0, 0) := rfl
theorem r_316_2007 : row 316 2007 = some (.iaload, 2008, 0, 0, 0, 0) := rfl
theorem r_316_2008 : row 316 2008 = some (.aload_n 0, 2009, 0, 0, 0, 0) := rfl
theorem r_316_2009 : row 316 2009 = some (.iload_n 3, 2010, 0, 0, 0, 0) := rfl
theorem r_316_2010 : row 316 2010 = some (.iconst 3, 2011, 3, 0, 0, 0) := rfl
theorem r_316_2011 : row 316 2011 = some (.iadd, 2012, 0, 0, 0, 0) := rfl
theorem r_316_2012 : row 316 2012 = some (.iaload, 2013, 0, 0, 0, 0) := rfl
theorem r_316_2013 : row 316 2013 = some (.i2l, 2014, 0, 0, 0, 0) := rfl
theorem r_316_2014 : row 316 2014 = some (.bipush 32, 2016, 32, 0, 0, 0) := rfl
theorem r_316_2016 : row 316 2016 = some (.lshl, 2017, 0, 0, 0, 0) := rfl
theorem r_316_2017 : row 316 2017 = some (.aload_n 0, 2018, 0, 0, 0, 0) := rfl
theorem r_316_2018 : row 316 2018 = some (.iload_n 3, 2019, 0, 0, 0, 0) := rfl
theorem r_316_2019 : row 316 2019 = some (.iconst 4, 2020, 4, 0, 0, 0) := rfl
theorem r_316_2020 : row 316 2020 = some (.iadd, 2021, 0, 0, 0, 0) := rfl
theorem r_316_2021 : row 316 2021 = some (.iaload, 2022, 0, 0, 0, 0) := rfl
theorem r_316_2022 : row 316 2022 = some (.i2l, 2023, 0, 0, 0, 0) := rfl
theorem r_316_2023 : row 316 2023 = some (.ldc2_w 292, 2026, 4294967295, 0, 0, 9015) := rfl
theorem r_316_2026 : row 316 2026 = some (.land, 2027, 0, 0, 0, 0) := rfl
theorem r_316_2027 : row 316 2027 = some (.lor, 2028, 0, 0, 0, 0) := rfl
theorem r_316_2028 : row 316 2028 = some (.invokevirtual 298, 2031, 229, 3, 0, 9004) := rfl
theorem r_316_2031 : row 316 2031 = some (.pop, 2032, 0, 0, 0, 0) := rfl
theorem r_316_2032 : row 316 2032 = some (.goto 66, 2035, 2098, 0, 0, 0) := rfl
theorem r_316_2035 : row 316 2035 = some (.aload_n 1, 2036, 0, 0, 0, 0) := rfl
theorem r_316_2036 : row 316 2036 = some (.aload_n 0, 2037, 0, 0, 0, 0) := rfl
theorem r_316_2037 : row 316 2037 = some (.iload_n 3, 2038, 0, 0, 0, 0) := rfl
theorem r_316_2038 : row 316 2038 = some (.iconst 1, 2039, 1, 0, 0, 0) := rfl
theorem r_316_2039 : row 316 2039 = some (.iadd, 2040, 0, 0, 0, 0) := rfl
theorem r_316_2040 : row 316 2040 = some (.iaload, 2041, 0, 0, 0, 0) := rfl
theorem r_316_2041 : row 316 2041 = some (.aload_n 0, 2042, 0, 0, 0, 0) := rfl
theorem r_316_2042 : row 316 2042 = some (.iload_n 3, 2043, 0, 0, 0, 0) := rfl
theorem r_316_2043 : row 316 2043 = some (.iconst 2, 2044, 2, 0, 0, 0) := rfl
theorem r_316_2044 : row 316 2044 = some (.iadd, 2045, 0, 0, 0, 0) := rfl
theorem r_316_2045 : row 316 2045 = some (.iaload, 2046, 0, 0, 0, 0) := rfl
theorem r_316_2046 : row 316 2046 = some (.aload_n 0, 2047, 0, 0, 0, 0) := rfl
theorem r_316_2047 : row 316 2047 = some (.iload_n 3, 2048, 0, 0, 0, 0) := rfl
theorem r_316_2048 : row 316 2048 = some (.iconst 3, 2049, 3, 0, 0, 0) := rfl
theorem r_316_2049 : row 316 2049 = some (.iadd, 2050, 0, 0, 0, 0) := rfl
theorem r_316_2050 : row 316 2050 = some (.iaload, 2051, 0, 0, 0, 0) := rfl
theorem r_316_2051 : row 316 2051 = some (.aload_n 0, 2052, 0, 0, 0, 0) := rfl
theorem r_316_2052 : row 316 2052 = some (.iload_n 3, 2053, 0, 0, 0, 0) := rfl
theorem r_316_2053 : row 316 2053 = some (.iconst 4, 2054, 4, 0, 0, 0) := rfl
theorem r_316_2054 : row 316 2054 = some (.iadd, 2055, 0, 0, 0, 0) := rfl
theorem r_316_2055 : row 316 2055 = some (.iaload, 2056, 0, 0, 0, 0) := rfl
theorem r_316_2056 : row 316 2056 = some (.aload_n 0, 2057, 0, 0, 0, 0) := rfl
theorem r_316_2057 : row 316 2057 = some (.iload_n 3, 2058, 0, 0, 0, 0) := rfl
theorem r_316_2058 : row 316 2058 = some (.iconst 5, 2059, 5, 0, 0, 0) := rfl
theorem r_316_2059 : row 316 2059 = some (.iadd, 2060, 0, 0, 0, 0) := rfl
theorem r_316_2060 : row 316 2060 = some (.iaload, 2061, 0, 0, 0, 0) := rfl
theorem r_316_2061 : row 316 2061 = some (.invokevirtual 299, 2064, 70, 5, 0, 5227) := rfl
theorem r_316_2064 : row 316 2064 = some (.pop, 2065, 0, 0, 0, 0) := rfl
theorem r_316_2065 : row 316 2065 = some (.aload_n 2, 2066, 0, 0, 0, 0) := rfl
theorem r_316_2066 : row 316 2066 = some (.aload_n 0, 2067, 0, 0, 0, 0) := rfl
theorem r_316_2067 : row 316 2067 = some (.iload_n 3, 2068, 0, 0, 0, 0) := rfl
theorem r_316_2068 : row 316 2068 = some (.iconst 1, 2069, 1, 0, 0, 0) := rfl
theorem r_316_2069 : row 316 2069 = some (.iadd, 2070, 0, 0, 0, 0) := rfl
theorem r_316_2070 : row 316 2070 = some (.iaload, 2071, 0, 0, 0, 0) := rfl
theorem r_316_2071 : row 316 2071 = some (.aload_n 0, 2072, 0, 0, 0, 0) := rfl
theorem r_316_2072 : row 316 2072 = some (.iload_n 3, 2073, 0, 0, 0, 0) := rfl
theorem r_316_2073 : row 316 2073 = some (.iconst 2, 2074, 2, 0, 0, 0) := rfl
theorem r_316_2074 : row 316 2074 = some (.iadd, 2075, 0, 0, 0, 0) := rfl
theorem r_316_2075 : row 316 2075 = some (.iaload, 2076, 0, 0, 0, 0) := rfl
theorem r_316_2076 : row 316 2076 = some (.aload_n 0, 2077, 0, 0, 0, 0) := rfl
theorem r_316_2077 : row 316 2077 = some (.iload_n 3, 2078, 0, 0, 0, 0) := rfl
theorem r_316_2078 : row 316 2078 = some (.iconst 3, 2079, 3, 0, 0, 0) := rfl
theorem r_316_2079 : row 316 2079 = some (.iadd, 2080, 0, 0, 0, 0) := rfl
theorem r_316_2080 : row 316 2080 = some (.iaload, 2081, 0, 0, 0, 0) := rfl
theorem r_316_2081 : row 316 2081 = some (.aload_n 0, 2082, 0, 0, 0, 0) := rfl
theorem r_316_2082 : row 316 2082 = some (.iload_n 3, 2083, 0, 0, 0, 0) := rfl
theorem r_316_2083 : row 316 2083 = some (.iconst 4, 2084, 4, 0, 0, 0) := rfl
theorem r_316_2084 : row 316 2084 = some (.iadd, 2085, 0, 0, 0, 0) := rfl
theorem r_316_2085 : row 316 2085 = some (.iaload, 2086, 0, 0, 0, 0) := rfl
theorem r_316_2086 : row 316 2086 = some (.aload_n 0, 2087, 0, 0, 0, 0) := rfl
theorem r_316_2087 : row 316 2087 = some (.iload_n 3, 2088, 0, 0, 0, 0) := rfl
theorem r_316_2088 : row 316 2088 = some (.iconst 5, 2089, 5, 0, 0, 0) := rfl
theorem r_316_2089 : row 316 2089 = some (.iadd, 2090, 0, 0, 0, 0) := rfl
theorem r_316_2090 : row 316 2090 = some (.iaload, 2091, 0, 0, 0, 0) := rfl
theorem r_316_2091 : row 316 2091 = some (.invokevirtual 302, 2094, 230, 5, 0, 9011) := rfl
theorem r_316_2094 : row 316 2094 = some (.pop, 2095, 0, 0, 0, 0) := rfl
theorem r_316_2095 : row 316 2095 = some (.goto 3, 2098, 2098, 0, 0, 0) := rfl
section LAW
variable {T : List Kd} {xs : Nat → Int32} {L i : Nat} {m : Mm}
theorem pk_48 (hT : TT T) : ConH T cn_48 := fun args m => ((all_con hT 514).1 (by decide)) cn_48 cx_48 args m
theorem pk_198 (hT : TT T) : ConX T cn_198 false false := by
  have z := ((all_con hT 913).2 (by decide)) cn_198 cx_198
  rw [show (Fl 913).2 = (false, false) by decide] at z
  exact z
theorem case_47 (hT : TT T) (h0 : T[0]? = some (100, L)) (hL : L ≤ 3072) (hi : i + 6 ≤ L) (hl : LI xs m) (hnext : ∀ m, LI xs m → GX T 1000 316 2098 [(2, 0), (2, 1), (2, 192), (0, (i : Int))] [] m (fun v _ => v = (0, 1))) : GX T 1000 316 1359 [(2, 0), (2, 1), (2, 192), (0, (i : Int))] [] m (fun v _ => v = (0, 1)) := by
  obtain ⟨s1, e_s1⟩ : ∃ z, z = (xs (i + 1)).toInt := ⟨_, rfl⟩
  have b_s1 := i32_in (xs (i + 1))
  rw [← e_s1] at b_s1
  unfold in32 at b_s1
  obtain ⟨s2, e_s2⟩ : ∃ z, z = (xs (i + 2)).toInt := ⟨_, rfl⟩
  have b_s2 := i32_in (xs (i + 2))
  rw [← e_s2] at b_s2
  unfold in32 at b_s2
  obtain ⟨s3, e_s3⟩ : ∃ z, z = (xs (i + 3)).toInt := ⟨_, rfl⟩
  have b_s3 := i32_in (xs (i + 3))
  rw [← e_s3] at b_s3
  unfold in32 at b_s3
  obtain ⟨s4, e_s4⟩ : ∃ z, z = (xs (i + 4)).toInt := ⟨_, rfl⟩
  have b_s4 := i32_in (xs (i + 4))
  rw [← e_s4] at b_s4
  unfold in32 at b_s4
  obtain ⟨s5, e_s5⟩ : ∃ z, z = (xs (i + 5)).toInt := ⟨_, rfl⟩
  have b_s5 := i32_in (xs (i + 5))
  rw [← e_s5] at b_s5
  unfold in32 at b_s5
  refine gx_st (L' := [(2, 0), (2, 1), (2, 192), (0, (i : Int))]) (S' := [(2, 1)]) r_316_1359 rfl rfl rfl ?_
  refine gx_st (L' := [(2, 0), (2, 1), (2, 192), (0, (i : Int))]) (S' := [(2, 0), (2, 1)]) r_316_1360 rfl rfl rfl ?_
  refine gx_st (L' := [(2, 0), (2, 1), (2, 192), (0, (i : Int))]) (S' := [(0, (i : Int)), (2, 0), (2, 1)]) r_316_1361 rfl rfl rfl ?_
  refine gx_st (L' := [(2, 0), (2, 1), (2, 192), (0, (i : Int))]) (S' := [(0, 1), (0, (i : Int)), (2, 0), (2, 1)]) r_316_1362 rfl rfl rfl ?_
  refine gx_ar (L' := [(2, 0), (2, 1), (2, 192), (0, (i : Int))]) (S' := [(2, 0), (2, 1)]) (t := 0) (e := w32 ((i : Int) + 1)) (z := (i : Int) + 1) r_316_1363 rfl rfl rfl (w32_eq (by omega) (by omega) (by omega)) ?_
  refine gx_ia (n := i + 1) (x := s1) r_316_1364 rfl h0 (by omega) ⟨rfl, by show i + 1 < L; omega⟩ ((hl.2.2.1 (i + 1)).trans e_s1.symm) ?_
  show GX T 1000 316 1365 [(2, 0), (2, 1), (2, 192), (0, (i : Int))] [(0, s1), (2, 1)] m (fun v _ => v = (0, 1))
  refine gx_ci (nx := 1368) (S2 := []) (gx_hi (args := [(2, 1), (0, s1)]) (pk_48 hT) ⟨gq_o1, gq_any (by omega) (by omega), trivial⟩ hl.1 rfl) r_316_1365 rfl rfl rfl rfl rfl (rcv_v rfl (tk_1 hT) (by decide) rfl (by decide)) rfl (by decide) rfl (fun x1365 n1365 q1365 => ?_)
  show GX T 1000 316 1368 [(2, 0), (2, 1), (2, 192), (0, (i : Int))] [(0, x1365)] n1365 (fun v _ => v = (0, 1))
  have ex_n1365 : Ext n1365 := Ext_fr q1365.2.2.2 (by decide) hl.2.1
  have sc_n1365 := sc_fr q1365.2.2.2 (by decide) hl.2.2.1
  have rl_n1365 : RelR n1365 := Rel_fr q1365.2.2.2 (by decide) (by decide) (by decide) (by decide) (by decide) (by decide) (by decide) (by decide) hl.2.2.2
  refine gx_st (L' := [(2, 0), (2, 1), (2, 192), (0, (i : Int))]) (S' := []) r_316_1368 rfl rfl rfl ?_
  refine gx_st (L' := [(2, 0), (2, 1), (2, 192), (0, (i : Int))]) (S' := [(2, 192)]) r_316_1369 rfl rfl rfl ?_
  refine gx_st (L' := [(2, 0), (2, 1), (2, 192), (0, (i : Int))]) (S' := [(2, 0), (2, 192)]) r_316_1370 rfl rfl rfl ?_
  refine gx_st (L' := [(2, 0), (2, 1), (2, 192), (0, (i : Int))]) (S' := [(0, (i : Int)), (2, 0), (2, 192)]) r_316_1371 rfl rfl rfl ?_
  refine gx_st (L' := [(2, 0), (2, 1), (2, 192), (0, (i : Int))]) (S' := [(0, 1), (0, (i : Int)), (2, 0), (2, 192)]) r_316_1372 rfl rfl rfl ?_
  refine gx_ar (L' := [(2, 0), (2, 1), (2, 192), (0, (i : Int))]) (S' := [(2, 0), (2, 192)]) (t := 0) (e := w32 ((i : Int) + 1)) (z := (i : Int) + 1) r_316_1373 rfl rfl rfl (w32_eq (by omega) (by omega) (by omega)) ?_
  refine gx_ia (n := i + 1) (x := s1) r_316_1374 rfl h0 (by omega) ⟨rfl, by show i + 1 < L; omega⟩ ((sc_n1365 (i + 1)).trans e_s1.symm) ?_
  show GX T 1000 316 1375 [(2, 0), (2, 1), (2, 192), (0, (i : Int))] [(0, s1), (2, 192)] n1365 (fun v _ => v = (0, 1))
  refine gx_ci (nx := 1378) (S2 := []) (gx_xi (args := [(2, 192), (0, s1)]) (pk_198 hT) ⟨gq_o192, gq_any (by omega) (by omega), trivial⟩ q1365.2.2.1 ex_n1365 (fun z => absurd z (by decide)) rfl) r_316_1375 rfl rfl rfl rfl rfl (rcv_v rfl (tk_192 hT) (by decide) rfl (by decide)) rfl (by decide) rfl (fun x1375 n1375 q1375 => ?_)
  show GX T 1000 316 1378 [(2, 0), (2, 1), (2, 192), (0, (i : Int))] [(0, x1375)] n1375 (fun v _ => v = (0, 1))
  have sc_n1375 := sc_fr q1375.2.2.2.2.1 (by decide) sc_n1365
  have rl_n1375 : RelR n1375 := Rel_fr q1375.2.2.2.2.1 (by decide) (by decide) (by decide) (by decide) (by decide) (by decide) (by decide) (by decide) rl_n1365
  refine gx_st (L' := [(2, 0), (2, 1), (2, 192), (0, (i : Int))]) (S' := []) r_316_1378 rfl rfl rfl ?_
  refine gx_st (L' := [(2, 0), (2, 1), (2, 192), (0, (i : Int))]) (S' := []) r_316_1379 rfl rfl rfl ?_
  exact hnext n1375 ⟨q1375.2.2.1, q1375.2.2.2.1, sc_n1375, rl_n1375⟩
theorem pk_49 (hT : TT T) : ConH T cn_49 := fun args m => ((all_con hT 521).1 (by decide)) cn_49 cx_49 args m
theorem pk_200 (hT : TT T) : ConX T cn_200 false false := by
  have z := ((all_con hT 915).2 (by decide)) cn_200 cx_200
  rw [show (Fl 915).2 = (false, false) by decide] at z
  exact z
theorem case_48 (hT : TT T) (h0 : T[0]? = some (100, L)) (hL : L ≤ 3072) (hi : i + 6 ≤ L) (hl : LI xs m) (hnext : ∀ m, LI xs m → GX T 1000 316 2098 [(2, 0), (2, 1), (2, 192), (0, (i : Int))] [] m (fun v _ => v = (0, 1))) : GX T 1000 316 1382 [(2, 0), (2, 1), (2, 192), (0, (i : Int))] [] m (fun v _ => v = (0, 1)) := by
  obtain ⟨s1, e_s1⟩ : ∃ z, z = (xs (i + 1)).toInt := ⟨_, rfl⟩
  have b_s1 := i32_in (xs (i + 1))
  rw [← e_s1] at b_s1
  unfold in32 at b_s1
  obtain ⟨s2, e_s2⟩ : ∃ z, z = (xs (i + 2)).toInt := ⟨_, rfl⟩
  have b_s2 := i32_in (xs (i + 2))
  rw [← e_s2] at b_s2
  unfold in32 at b_s2
  obtain ⟨s3, e_s3⟩ : ∃ z, z = (xs (i + 3)).toInt := ⟨_, rfl⟩
  have b_s3 := i32_in (xs (i + 3))
  rw [← e_s3] at b_s3
  unfold in32 at b_s3
  obtain ⟨s4, e_s4⟩ : ∃ z, z = (xs (i + 4)).toInt := ⟨_, rfl⟩
  have b_s4 := i32_in (xs (i + 4))
  rw [← e_s4] at b_s4
  unfold in32 at b_s4
  obtain ⟨s5, e_s5⟩ : ∃ z, z = (xs (i + 5)).toInt := ⟨_, rfl⟩
  have b_s5 := i32_in (xs (i + 5))
  rw [← e_s5] at b_s5
  unfold in32 at b_s5
  refine gx_st (L' := [(2, 0), (2, 1), (2, 192), (0, (i : Int))]) (S' := [(2, 1)]) r_316_1382 rfl rfl rfl ?_
  refine gx_st (L' := [(2, 0), (2, 1), (2, 192), (0, (i : Int))]) (S' := [(2, 0), (2, 1)]) r_316_1383 rfl rfl rfl ?_
  refine gx_st (L' := [(2, 0), (2, 1), (2, 192), (0, (i : Int))]) (S' := [(0, (i : Int)), (2, 0), (2, 1)]) r_316_1384 rfl rfl rfl ?_
  refine gx_st (L' := [(2, 0), (2, 1), (2, 192), (0, (i : Int))]) (S' := [(0, 1), (0, (i : Int)), (2, 0), (2, 1)]) r_316_1385 rfl rfl rfl ?_
  refine gx_ar (L' := [(2, 0), (2, 1), (2, 192), (0, (i : Int))]) (S' := [(2, 0), (2, 1)]) (t := 0) (e := w32 ((i : Int) + 1)) (z := (i : Int) + 1) r_316_1386 rfl rfl rfl (w32_eq (by omega) (by omega) (by omega)) ?_
  refine gx_ia (n := i + 1) (x := s1) r_316_1387 rfl h0 (by omega) ⟨rfl, by show i + 1 < L; omega⟩ ((hl.2.2.1 (i + 1)).trans e_s1.symm) ?_
  show GX T 1000 316 1388 [(2, 0), (2, 1), (2, 192), (0, (i : Int))] [(0, s1), (2, 1)] m (fun v _ => v = (0, 1))
  refine gx_ci (nx := 1391) (S2 := []) (gx_hi (args := [(2, 1), (0, s1)]) (pk_49 hT) ⟨gq_o1, gq_any (by omega) (by omega), trivial⟩ hl.1 rfl) r_316_1388 rfl rfl rfl rfl rfl (rcv_v rfl (tk_1 hT) (by decide) rfl (by decide)) rfl (by decide) rfl (fun x1388 n1388 q1388 => ?_)
  show GX T 1000 316 1391 [(2, 0), (2, 1), (2, 192), (0, (i : Int))] [(0, x1388)] n1388 (fun v _ => v = (0, 1))
  have ex_n1388 : Ext n1388 := Ext_fr q1388.2.2.2 (by decide) hl.2.1
  have sc_n1388 := sc_fr q1388.2.2.2 (by decide) hl.2.2.1
  have rl_n1388 : RelR n1388 := Rel_fr q1388.2.2.2 (by decide) (by decide) (by decide) (by decide) (by decide) (by decide) (by decide) (by decide) hl.2.2.2
  refine gx_st (L' := [(2, 0), (2, 1), (2, 192), (0, (i : Int))]) (S' := []) r_316_1391 rfl rfl rfl ?_
  refine gx_st (L' := [(2, 0), (2, 1), (2, 192), (0, (i : Int))]) (S' := [(2, 192)]) r_316_1392 rfl rfl rfl ?_
  refine gx_st (L' := [(2, 0), (2, 1), (2, 192), (0, (i : Int))]) (S' := [(2, 0), (2, 192)]) r_316_1393 rfl rfl rfl ?_
  refine gx_st (L' := [(2, 0), (2, 1), (2, 192), (0, (i : Int))]) (S' := [(0, (i : Int)), (2, 0), (2, 192)]) r_316_1394 rfl rfl rfl ?_
  refine gx_st (L' := [(2, 0), (2, 1), (2, 192), (0, (i : Int))]) (S' := [(0, 1), (0, (i : Int)), (2, 0), (2, 192)]) r_316_1395 rfl rfl rfl ?_
  refine gx_ar (L' := [(2, 0), (2, 1), (2, 192), (0, (i : Int))]) (S' := [(2, 0), (2, 192)]) (t := 0) (e := w32 ((i : Int) + 1)) (z := (i : Int) + 1) r_316_1396 rfl rfl rfl (w32_eq (by omega) (by omega) (by omega)) ?_
  refine gx_ia (n := i + 1) (x := s1) r_316_1397 rfl h0 (by omega) ⟨rfl, by show i + 1 < L; omega⟩ ((sc_n1388 (i + 1)).trans e_s1.symm) ?_
  show GX T 1000 316 1398 [(2, 0), (2, 1), (2, 192), (0, (i : Int))] [(0, s1), (2, 192)] n1388 (fun v _ => v = (0, 1))
  refine gx_ci (nx := 1401) (S2 := []) (gx_xi (args := [(2, 192), (0, s1)]) (pk_200 hT) ⟨gq_o192, gq_any (by omega) (by omega), trivial⟩ q1388.2.2.1 ex_n1388 (fun z => absurd z (by decide)) rfl) r_316_1398 rfl rfl rfl rfl rfl (rcv_v rfl (tk_192 hT) (by decide) rfl (by decide)) rfl (by decide) rfl (fun x1398 n1398 q1398 => ?_)
  show GX T 1000 316 1401 [(2, 0), (2, 1), (2, 192), (0, (i : Int))] [(0, x1398)] n1398 (fun v _ => v = (0, 1))
  have sc_n1398 := sc_fr q1398.2.2.2.2.1 (by decide) sc_n1388
  have rl_n1398 : RelR n1398 := Rel_fr q1398.2.2.2.2.1 (by decide) (by decide) (by decide) (by decide) (by decide) (by decide) (by decide) (by decide) rl_n1388
  refine gx_st (L' := [(2, 0), (2, 1), (2, 192), (0, (i : Int))]) (S' := []) r_316_1401 rfl rfl rfl ?_
  refine gx_st (L' := [(2, 0), (2, 1), (2, 192), (0, (i : Int))]) (S' := []) r_316_1402 rfl rfl rfl ?_
  exact hnext n1398 ⟨q1398.2.2.1, q1398.2.2.2.1, sc_n1398, rl_n1398⟩
theorem pk_50 (hT : TT T) : ConH T cn_50 := fun args m => ((all_con hT 525).1 (by decide)) cn_50 cx_50 args m
theorem pk_201 (hT : TT T) : ConX T cn_201 false false := by
  have z := ((all_con hT 916).2 (by decide)) cn_201 cx_201
  rw [show (Fl 916).2 = (false, false) by decide] at z
  exact z
theorem case_49 (hT : TT T) (h0 : T[0]? = some (100, L)) (hL : L ≤ 3072) (hi : i + 6 ≤ L) (hl : LI xs m) (hnext : ∀ m, LI xs m → GX T 1000 316 2098 [(2, 0), (2, 1), (2, 192), (0, (i : Int))] [] m (fun v _ => v = (0, 1))) : GX T 1000 316 1405 [(2, 0), (2, 1), (2, 192), (0, (i : Int))] [] m (fun v _ => v = (0, 1)) := by
  obtain ⟨s1, e_s1⟩ : ∃ z, z = (xs (i + 1)).toInt := ⟨_, rfl⟩
  have b_s1 := i32_in (xs (i + 1))
  rw [← e_s1] at b_s1
  unfold in32 at b_s1
  obtain ⟨s2, e_s2⟩ : ∃ z, z = (xs (i + 2)).toInt := ⟨_, rfl⟩
  have b_s2 := i32_in (xs (i + 2))
  rw [← e_s2] at b_s2
  unfold in32 at b_s2
  obtain ⟨s3, e_s3⟩ : ∃ z, z = (xs (i + 3)).toInt := ⟨_, rfl⟩
  have b_s3 := i32_in (xs (i + 3))
  rw [← e_s3] at b_s3
  unfold in32 at b_s3
  obtain ⟨s4, e_s4⟩ : ∃ z, z = (xs (i + 4)).toInt := ⟨_, rfl⟩
  have b_s4 := i32_in (xs (i + 4))
  rw [← e_s4] at b_s4
  unfold in32 at b_s4
  obtain ⟨s5, e_s5⟩ : ∃ z, z = (xs (i + 5)).toInt := ⟨_, rfl⟩
  have b_s5 := i32_in (xs (i + 5))
  rw [← e_s5] at b_s5
  unfold in32 at b_s5
  refine gx_st (L' := [(2, 0), (2, 1), (2, 192), (0, (i : Int))]) (S' := [(2, 1)]) r_316_1405 rfl rfl rfl ?_
  refine gx_st (L' := [(2, 0), (2, 1), (2, 192), (0, (i : Int))]) (S' := [(2, 0), (2, 1)]) r_316_1406 rfl rfl rfl ?_
  refine gx_st (L' := [(2, 0), (2, 1), (2, 192), (0, (i : Int))]) (S' := [(0, (i : Int)), (2, 0), (2, 1)]) r_316_1407 rfl rfl rfl ?_
  refine gx_st (L' := [(2, 0), (2, 1), (2, 192), (0, (i : Int))]) (S' := [(0, 1), (0, (i : Int)), (2, 0), (2, 1)]) r_316_1408 rfl rfl rfl ?_
  refine gx_ar (L' := [(2, 0), (2, 1), (2, 192), (0, (i : Int))]) (S' := [(2, 0), (2, 1)]) (t := 0) (e := w32 ((i : Int) + 1)) (z := (i : Int) + 1) r_316_1409 rfl rfl rfl (w32_eq (by omega) (by omega) (by omega)) ?_
  refine gx_ia (n := i + 1) (x := s1) r_316_1410 rfl h0 (by omega) ⟨rfl, by show i + 1 < L; omega⟩ ((hl.2.2.1 (i + 1)).trans e_s1.symm) ?_
  show GX T 1000 316 1411 [(2, 0), (2, 1), (2, 192), (0, (i : Int))] [(0, s1), (2, 1)] m (fun v _ => v = (0, 1))
  refine gx_ci (nx := 1414) (S2 := []) (gx_hi (args := [(2, 1), (0, s1)]) (pk_50 hT) ⟨gq_o1, gq_any (by omega) (by omega), trivial⟩ hl.1 rfl) r_316_1411 rfl rfl rfl rfl rfl (rcv_v rfl (tk_1 hT) (by decide) rfl (by decide)) rfl (by decide) rfl (fun x1411 n1411 q1411 => ?_)
  show GX T 1000 316 1414 [(2, 0), (2, 1), (2, 192), (0, (i : Int))] [(0, x1411)] n1411 (fun v _ => v = (0, 1))
  have ex_n1411 : Ext n1411 := Ext_fr q1411.2.2.2 (by decide) hl.2.1
  have sc_n1411 := sc_fr q1411.2.2.2 (by decide) hl.2.2.1
  have rl_n1411 : RelR n1411 := Rel_fr q1411.2.2.2 (by decide) (by decide) (by decide) (by decide) (by decide) (by decide) (by decide) (by decide) hl.2.2.2
  refine gx_st (L' := [(2, 0), (2, 1), (2, 192), (0, (i : Int))]) (S' := []) r_316_1414 rfl rfl rfl ?_
  refine gx_st (L' := [(2, 0), (2, 1), (2, 192), (0, (i : Int))]) (S' := [(2, 192)]) r_316_1415 rfl rfl rfl ?_
  refine gx_st (L' := [(2, 0), (2, 1), (2, 192), (0, (i : Int))]) (S' := [(2, 0), (2, 192)]) r_316_1416 rfl rfl rfl ?_
  refine gx_st (L' := [(2, 0), (2, 1), (2, 192), (0, (i : Int))]) (S' := [(0, (i : Int)), (2, 0), (2, 192)]) r_316_1417 rfl rfl rfl ?_
  refine gx_st (L' := [(2, 0), (2, 1), (2, 192), (0, (i : Int))]) (S' := [(0, 1), (0, (i : Int)), (2, 0), (2, 192)]) r_316_1418 rfl rfl rfl ?_
  refine gx_ar (L' := [(2, 0), (2, 1), (2, 192), (0, (i : Int))]) (S' := [(2, 0), (2, 192)]) (t := 0) (e := w32 ((i : Int) + 1)) (z := (i : Int) + 1) r_316_1419 rfl rfl rfl (w32_eq (by omega) (by omega) (by omega)) ?_
  refine gx_ia (n := i + 1) (x := s1) r_316_1420 rfl h0 (by omega) ⟨rfl, by show i + 1 < L; omega⟩ ((sc_n1411 (i + 1)).trans e_s1.symm) ?_
  show GX T 1000 316 1421 [(2, 0), (2, 1), (2, 192), (0, (i : Int))] [(0, s1), (2, 192)] n1411 (fun v _ => v = (0, 1))
  refine gx_ci (nx := 1424) (S2 := []) (gx_xi (args := [(2, 192), (0, s1)]) (pk_201 hT) ⟨gq_o192, gq_any (by omega) (by omega), trivial⟩ q1411.2.2.1 ex_n1411 (fun z => absurd z (by decide)) rfl) r_316_1421 rfl rfl rfl rfl rfl (rcv_v rfl (tk_192 hT) (by decide) rfl (by decide)) rfl (by decide) rfl (fun x1421 n1421 q1421 => ?_)
  show GX T 1000 316 1424 [(2, 0), (2, 1), (2, 192), (0, (i : Int))] [(0, x1421)] n1421 (fun v _ => v = (0, 1))
  have sc_n1421 := sc_fr q1421.2.2.2.2.1 (by decide) sc_n1411
  have rl_n1421 : RelR n1421 := Rel_fr q1421.2.2.2.2.1 (by decide) (by decide) (by decide) (by decide) (by decide) (by decide) (by decide) (by decide) rl_n1411
  refine gx_st (L' := [(2, 0), (2, 1), (2, 192), (0, (i : Int))]) (S' := []) r_316_1424 rfl rfl rfl ?_
  refine gx_st (L' := [(2, 0), (2, 1), (2, 192), (0, (i : Int))]) (S' := []) r_316_1425 rfl rfl rfl ?_
  exact hnext n1421 ⟨q1421.2.2.1, q1421.2.2.2.1, sc_n1421, rl_n1421⟩
theorem pk_51 (hT : TT T) : ConH T cn_51 := fun args m => ((all_con hT 528).1 (by decide)) cn_51 cx_51 args m
theorem pk_205 (hT : TT T) : ConH T cn_205 := fun args m => ((all_con hT 921).1 (by decide)) cn_205 cx_205 args m
theorem case_50 (hT : TT T) (h0 : T[0]? = some (100, L)) (hL : L ≤ 3072) (hi : i + 6 ≤ L) (hl : LI xs m) (hnext : ∀ m, LI xs m → GX T 1000 316 2098 [(2, 0), (2, 1), (2, 192), (0, (i : Int))] [] m (fun v _ => v = (0, 1))) : GX T 1000 316 1428 [(2, 0), (2, 1), (2, 192), (0, (i : Int))] [] m (fun v _ => v = (0, 1)) := by
  obtain ⟨s1, e_s1⟩ : ∃ z, z = (xs (i + 1)).toInt := ⟨_, rfl⟩
  have b_s1 := i32_in (xs (i + 1))
  rw [← e_s1] at b_s1
  unfold in32 at b_s1
  obtain ⟨s2, e_s2⟩ : ∃ z, z = (xs (i + 2)).toInt := ⟨_, rfl⟩
  have b_s2 := i32_in (xs (i + 2))
  rw [← e_s2] at b_s2
  unfold in32 at b_s2
  obtain ⟨s3, e_s3⟩ : ∃ z, z = (xs (i + 3)).toInt := ⟨_, rfl⟩
  have b_s3 := i32_in (xs (i + 3))
  rw [← e_s3] at b_s3
  unfold in32 at b_s3
  obtain ⟨s4, e_s4⟩ : ∃ z, z = (xs (i + 4)).toInt := ⟨_, rfl⟩
  have b_s4 := i32_in (xs (i + 4))
  rw [← e_s4] at b_s4
  unfold in32 at b_s4
  obtain ⟨s5, e_s5⟩ : ∃ z, z = (xs (i + 5)).toInt := ⟨_, rfl⟩
  have b_s5 := i32_in (xs (i + 5))
  rw [← e_s5] at b_s5
  unfold in32 at b_s5
  refine gx_st (L' := [(2, 0), (2, 1), (2, 192), (0, (i : Int))]) (S' := [(2, 1)]) r_316_1428 rfl rfl rfl ?_
  refine gx_st (L' := [(2, 0), (2, 1), (2, 192), (0, (i : Int))]) (S' := [(2, 0), (2, 1)]) r_316_1429 rfl rfl rfl ?_
  refine gx_st (L' := [(2, 0), (2, 1), (2, 192), (0, (i : Int))]) (S' := [(0, (i : Int)), (2, 0), (2, 1)]) r_316_1430 rfl rfl rfl ?_
  refine gx_st (L' := [(2, 0), (2, 1), (2, 192), (0, (i : Int))]) (S' := [(0, 1), (0, (i : Int)), (2, 0), (2, 1)]) r_316_1431 rfl rfl rfl ?_
  refine gx_ar (L' := [(2, 0), (2, 1), (2, 192), (0, (i : Int))]) (S' := [(2, 0), (2, 1)]) (t := 0) (e := w32 ((i : Int) + 1)) (z := (i : Int) + 1) r_316_1432 rfl rfl rfl (w32_eq (by omega) (by omega) (by omega)) ?_
  refine gx_ia (n := i + 1) (x := s1) r_316_1433 rfl h0 (by omega) ⟨rfl, by show i + 1 < L; omega⟩ ((hl.2.2.1 (i + 1)).trans e_s1.symm) ?_
  show GX T 1000 316 1434 [(2, 0), (2, 1), (2, 192), (0, (i : Int))] [(0, s1), (2, 1)] m (fun v _ => v = (0, 1))
  refine gx_st (L' := [(2, 0), (2, 1), (2, 192), (0, (i : Int))]) (S' := [(2, 0), (0, s1), (2, 1)]) r_316_1434 rfl rfl rfl ?_
  refine gx_st (L' := [(2, 0), (2, 1), (2, 192), (0, (i : Int))]) (S' := [(0, (i : Int)), (2, 0), (0, s1), (2, 1)]) r_316_1435 rfl rfl rfl ?_
  refine gx_st (L' := [(2, 0), (2, 1), (2, 192), (0, (i : Int))]) (S' := [(0, 2), (0, (i : Int)), (2, 0), (0, s1), (2, 1)]) r_316_1436 rfl rfl rfl ?_
  refine gx_ar (L' := [(2, 0), (2, 1), (2, 192), (0, (i : Int))]) (S' := [(2, 0), (0, s1), (2, 1)]) (t := 0) (e := w32 ((i : Int) + 2)) (z := (i : Int) + 2) r_316_1437 rfl rfl rfl (w32_eq (by omega) (by omega) (by omega)) ?_
  refine gx_ia (n := i + 2) (x := s2) r_316_1438 rfl h0 (by omega) ⟨rfl, by show i + 2 < L; omega⟩ ((hl.2.2.1 (i + 2)).trans e_s2.symm) ?_
  show GX T 1000 316 1439 [(2, 0), (2, 1), (2, 192), (0, (i : Int))] [(0, s2), (0, s1), (2, 1)] m (fun v _ => v = (0, 1))
  refine gx_ci (nx := 1442) (S2 := []) (gx_hi (args := [(2, 1), (0, s1), (0, s2)]) (pk_51 hT) ⟨gq_o1, gq_any (by omega) (by omega), gq_any (by omega) (by omega), trivial⟩ hl.1 rfl) r_316_1439 rfl rfl rfl rfl rfl (rcv_v rfl (tk_1 hT) (by decide) rfl (by decide)) rfl (by decide) rfl (fun x1439 n1439 q1439 => ?_)
  show GX T 1000 316 1442 [(2, 0), (2, 1), (2, 192), (0, (i : Int))] [(0, x1439)] n1439 (fun v _ => v = (0, 1))
  have ex_n1439 : Ext n1439 := Ext_fr q1439.2.2.2 (by decide) hl.2.1
  have sc_n1439 := sc_fr q1439.2.2.2 (by decide) hl.2.2.1
  have rl_n1439 : RelR n1439 := Rel_fr q1439.2.2.2 (by decide) (by decide) (by decide) (by decide) (by decide) (by decide) (by decide) (by decide) hl.2.2.2
  refine gx_st (L' := [(2, 0), (2, 1), (2, 192), (0, (i : Int))]) (S' := []) r_316_1442 rfl rfl rfl ?_
  refine gx_st (L' := [(2, 0), (2, 1), (2, 192), (0, (i : Int))]) (S' := [(2, 192)]) r_316_1443 rfl rfl rfl ?_
  refine gx_st (L' := [(2, 0), (2, 1), (2, 192), (0, (i : Int))]) (S' := [(2, 0), (2, 192)]) r_316_1444 rfl rfl rfl ?_
  refine gx_st (L' := [(2, 0), (2, 1), (2, 192), (0, (i : Int))]) (S' := [(0, (i : Int)), (2, 0), (2, 192)]) r_316_1445 rfl rfl rfl ?_
  refine gx_st (L' := [(2, 0), (2, 1), (2, 192), (0, (i : Int))]) (S' := [(0, 1), (0, (i : Int)), (2, 0), (2, 192)]) r_316_1446 rfl rfl rfl ?_
  refine gx_ar (L' := [(2, 0), (2, 1), (2, 192), (0, (i : Int))]) (S' := [(2, 0), (2, 192)]) (t := 0) (e := w32 ((i : Int) + 1)) (z := (i : Int) + 1) r_316_1447 rfl rfl rfl (w32_eq (by omega) (by omega) (by omega)) ?_
  refine gx_ia (n := i + 1) (x := s1) r_316_1448 rfl h0 (by omega) ⟨rfl, by show i + 1 < L; omega⟩ ((sc_n1439 (i + 1)).trans e_s1.symm) ?_
  show GX T 1000 316 1449 [(2, 0), (2, 1), (2, 192), (0, (i : Int))] [(0, s1), (2, 192)] n1439 (fun v _ => v = (0, 1))
  refine gx_st (L' := [(2, 0), (2, 1), (2, 192), (0, (i : Int))]) (S' := [(2, 0), (0, s1), (2, 192)]) r_316_1449 rfl rfl rfl ?_
  refine gx_st (L' := [(2, 0), (2, 1), (2, 192), (0, (i : Int))]) (S' := [(0, (i : Int)), (2, 0), (0, s1), (2, 192)]) r_316_1450 rfl rfl rfl ?_
  refine gx_st (L' := [(2, 0), (2, 1), (2, 192), (0, (i : Int))]) (S' := [(0, 2), (0, (i : Int)), (2, 0), (0, s1), (2, 192)]) r_316_1451 rfl rfl rfl ?_
  refine gx_ar (L' := [(2, 0), (2, 1), (2, 192), (0, (i : Int))]) (S' := [(2, 0), (0, s1), (2, 192)]) (t := 0) (e := w32 ((i : Int) + 2)) (z := (i : Int) + 2) r_316_1452 rfl rfl rfl (w32_eq (by omega) (by omega) (by omega)) ?_
  refine gx_ia (n := i + 2) (x := s2) r_316_1453 rfl h0 (by omega) ⟨rfl, by show i + 2 < L; omega⟩ ((sc_n1439 (i + 2)).trans e_s2.symm) ?_
  show GX T 1000 316 1454 [(2, 0), (2, 1), (2, 192), (0, (i : Int))] [(0, s2), (0, s1), (2, 192)] n1439 (fun v _ => v = (0, 1))
  refine gx_ci (nx := 1457) (S2 := []) (gx_hi (args := [(2, 192), (0, s1), (0, s2)]) (pk_205 hT) ⟨gq_o192, gq_any (by omega) (by omega), gq_any (by omega) (by omega), trivial⟩ q1439.2.2.1 rfl) r_316_1454 rfl rfl rfl rfl rfl (rcv_v rfl (tk_192 hT) (by decide) rfl (by decide)) rfl (by decide) rfl (fun x1454 n1454 q1454 => ?_)
  show GX T 1000 316 1457 [(2, 0), (2, 1), (2, 192), (0, (i : Int))] [(0, x1454)] n1454 (fun v _ => v = (0, 1))
  have ex_n1454 : Ext n1454 := Ext_fr q1454.2.2.2 (by decide) ex_n1439
  have sc_n1454 := sc_fr q1454.2.2.2 (by decide) sc_n1439
  have rl_n1454 : RelR n1454 := Rel_fr q1454.2.2.2 (by decide) (by decide) (by decide) (by decide) (by decide) (by decide) (by decide) (by decide) rl_n1439
  refine gx_st (L' := [(2, 0), (2, 1), (2, 192), (0, (i : Int))]) (S' := []) r_316_1457 rfl rfl rfl ?_
  refine gx_st (L' := [(2, 0), (2, 1), (2, 192), (0, (i : Int))]) (S' := []) r_316_1458 rfl rfl rfl ?_
  exact hnext n1454 ⟨q1454.2.2.1, ex_n1454, sc_n1454, rl_n1454⟩
theorem pk_52 (hT : TT T) : ConH T cn_52 := fun args m => ((all_con hT 530).1 (by decide)) cn_52 cx_52 args m
theorem pk_206 (hT : TT T) : ConH T cn_206 := fun args m => ((all_con hT 924).1 (by decide)) cn_206 cx_206 args m
theorem case_51 (hT : TT T) (h0 : T[0]? = some (100, L)) (hL : L ≤ 3072) (hi : i + 6 ≤ L) (hl : LI xs m) (hnext : ∀ m, LI xs m → GX T 1000 316 2098 [(2, 0), (2, 1), (2, 192), (0, (i : Int))] [] m (fun v _ => v = (0, 1))) : GX T 1000 316 1461 [(2, 0), (2, 1), (2, 192), (0, (i : Int))] [] m (fun v _ => v = (0, 1)) := by
  obtain ⟨s1, e_s1⟩ : ∃ z, z = (xs (i + 1)).toInt := ⟨_, rfl⟩
  have b_s1 := i32_in (xs (i + 1))
  rw [← e_s1] at b_s1
  unfold in32 at b_s1
  obtain ⟨s2, e_s2⟩ : ∃ z, z = (xs (i + 2)).toInt := ⟨_, rfl⟩
  have b_s2 := i32_in (xs (i + 2))
  rw [← e_s2] at b_s2
  unfold in32 at b_s2
  obtain ⟨s3, e_s3⟩ : ∃ z, z = (xs (i + 3)).toInt := ⟨_, rfl⟩
  have b_s3 := i32_in (xs (i + 3))
  rw [← e_s3] at b_s3
  unfold in32 at b_s3
  obtain ⟨s4, e_s4⟩ : ∃ z, z = (xs (i + 4)).toInt := ⟨_, rfl⟩
  have b_s4 := i32_in (xs (i + 4))
  rw [← e_s4] at b_s4
  unfold in32 at b_s4
  obtain ⟨s5, e_s5⟩ : ∃ z, z = (xs (i + 5)).toInt := ⟨_, rfl⟩
  have b_s5 := i32_in (xs (i + 5))
  rw [← e_s5] at b_s5
  unfold in32 at b_s5
  refine gx_st (L' := [(2, 0), (2, 1), (2, 192), (0, (i : Int))]) (S' := [(2, 1)]) r_316_1461 rfl rfl rfl ?_
  refine gx_st (L' := [(2, 0), (2, 1), (2, 192), (0, (i : Int))]) (S' := [(2, 0), (2, 1)]) r_316_1462 rfl rfl rfl ?_
  refine gx_st (L' := [(2, 0), (2, 1), (2, 192), (0, (i : Int))]) (S' := [(0, (i : Int)), (2, 0), (2, 1)]) r_316_1463 rfl rfl rfl ?_
  refine gx_st (L' := [(2, 0), (2, 1), (2, 192), (0, (i : Int))]) (S' := [(0, 1), (0, (i : Int)), (2, 0), (2, 1)]) r_316_1464 rfl rfl rfl ?_
  refine gx_ar (L' := [(2, 0), (2, 1), (2, 192), (0, (i : Int))]) (S' := [(2, 0), (2, 1)]) (t := 0) (e := w32 ((i : Int) + 1)) (z := (i : Int) + 1) r_316_1465 rfl rfl rfl (w32_eq (by omega) (by omega) (by omega)) ?_
  refine gx_ia (n := i + 1) (x := s1) r_316_1466 rfl h0 (by omega) ⟨rfl, by show i + 1 < L; omega⟩ ((hl.2.2.1 (i + 1)).trans e_s1.symm) ?_
  show GX T 1000 316 1467 [(2, 0), (2, 1), (2, 192), (0, (i : Int))] [(0, s1), (2, 1)] m (fun v _ => v = (0, 1))
  refine gx_st (L' := [(2, 0), (2, 1), (2, 192), (0, (i : Int))]) (S' := [(2, 0), (0, s1), (2, 1)]) r_316_1467 rfl rfl rfl ?_
  refine gx_st (L' := [(2, 0), (2, 1), (2, 192), (0, (i : Int))]) (S' := [(0, (i : Int)), (2, 0), (0, s1), (2, 1)]) r_316_1468 rfl rfl rfl ?_
  refine gx_st (L' := [(2, 0), (2, 1), (2, 192), (0, (i : Int))]) (S' := [(0, 2), (0, (i : Int)), (2, 0), (0, s1), (2, 1)]) r_316_1469 rfl rfl rfl ?_
  refine gx_ar (L' := [(2, 0), (2, 1), (2, 192), (0, (i : Int))]) (S' := [(2, 0), (0, s1), (2, 1)]) (t := 0) (e := w32 ((i : Int) + 2)) (z := (i : Int) + 2) r_316_1470 rfl rfl rfl (w32_eq (by omega) (by omega) (by omega)) ?_
  refine gx_ia (n := i + 2) (x := s2) r_316_1471 rfl h0 (by omega) ⟨rfl, by show i + 2 < L; omega⟩ ((hl.2.2.1 (i + 2)).trans e_s2.symm) ?_
  show GX T 1000 316 1472 [(2, 0), (2, 1), (2, 192), (0, (i : Int))] [(0, s2), (0, s1), (2, 1)] m (fun v _ => v = (0, 1))
  refine gx_st (L' := [(2, 0), (2, 1), (2, 192), (0, (i : Int))]) (S' := [(2, 0), (0, s2), (0, s1), (2, 1)]) r_316_1472 rfl rfl rfl ?_
  refine gx_st (L' := [(2, 0), (2, 1), (2, 192), (0, (i : Int))]) (S' := [(0, (i : Int)), (2, 0), (0, s2), (0, s1), (2, 1)]) r_316_1473 rfl rfl rfl ?_
  refine gx_st (L' := [(2, 0), (2, 1), (2, 192), (0, (i : Int))]) (S' := [(0, 3), (0, (i : Int)), (2, 0), (0, s2), (0, s1), (2, 1)]) r_316_1474 rfl rfl rfl ?_
  refine gx_ar (L' := [(2, 0), (2, 1), (2, 192), (0, (i : Int))]) (S' := [(2, 0), (0, s2), (0, s1), (2, 1)]) (t := 0) (e := w32 ((i : Int) + 3)) (z := (i : Int) + 3) r_316_1475 rfl rfl rfl (w32_eq (by omega) (by omega) (by omega)) ?_
  refine gx_ia (n := i + 3) (x := s3) r_316_1476 rfl h0 (by omega) ⟨rfl, by show i + 3 < L; omega⟩ ((hl.2.2.1 (i + 3)).trans e_s3.symm) ?_
  show GX T 1000 316 1477 [(2, 0), (2, 1), (2, 192), (0, (i : Int))] [(0, s3), (0, s2), (0, s1), (2, 1)] m (fun v _ => v = (0, 1))
  refine gx_ci (nx := 1480) (S2 := []) (gx_hi (args := [(2, 1), (0, s1), (0, s2), (0, s3)]) (pk_52 hT) ⟨gq_o1, gq_any (by omega) (by omega), gq_any (by omega) (by omega), gq_any (by omega) (by omega), trivial⟩ hl.1 rfl) r_316_1477 rfl rfl rfl rfl rfl (rcv_v rfl (tk_1 hT) (by decide) rfl (by decide)) rfl (by decide) rfl (fun x1477 n1477 q1477 => ?_)
  show GX T 1000 316 1480 [(2, 0), (2, 1), (2, 192), (0, (i : Int))] [(0, x1477)] n1477 (fun v _ => v = (0, 1))
  have ex_n1477 : Ext n1477 := Ext_fr q1477.2.2.2 (by decide) hl.2.1
  have sc_n1477 := sc_fr q1477.2.2.2 (by decide) hl.2.2.1
  have rl_n1477 : RelR n1477 := Rel_fr q1477.2.2.2 (by decide) (by decide) (by decide) (by decide) (by decide) (by decide) (by decide) (by decide) hl.2.2.2
  refine gx_st (L' := [(2, 0), (2, 1), (2, 192), (0, (i : Int))]) (S' := []) r_316_1480 rfl rfl rfl ?_
  refine gx_st (L' := [(2, 0), (2, 1), (2, 192), (0, (i : Int))]) (S' := [(2, 192)]) r_316_1481 rfl rfl rfl ?_
  refine gx_st (L' := [(2, 0), (2, 1), (2, 192), (0, (i : Int))]) (S' := [(2, 0), (2, 192)]) r_316_1482 rfl rfl rfl ?_
  refine gx_st (L' := [(2, 0), (2, 1), (2, 192), (0, (i : Int))]) (S' := [(0, (i : Int)), (2, 0), (2, 192)]) r_316_1483 rfl rfl rfl ?_
  refine gx_st (L' := [(2, 0), (2, 1), (2, 192), (0, (i : Int))]) (S' := [(0, 1), (0, (i : Int)), (2, 0), (2, 192)]) r_316_1484 rfl rfl rfl ?_
  refine gx_ar (L' := [(2, 0), (2, 1), (2, 192), (0, (i : Int))]) (S' := [(2, 0), (2, 192)]) (t := 0) (e := w32 ((i : Int) + 1)) (z := (i : Int) + 1) r_316_1485 rfl rfl rfl (w32_eq (by omega) (by omega) (by omega)) ?_
  refine gx_ia (n := i + 1) (x := s1) r_316_1486 rfl h0 (by omega) ⟨rfl, by show i + 1 < L; omega⟩ ((sc_n1477 (i + 1)).trans e_s1.symm) ?_
  show GX T 1000 316 1487 [(2, 0), (2, 1), (2, 192), (0, (i : Int))] [(0, s1), (2, 192)] n1477 (fun v _ => v = (0, 1))
  refine gx_st (L' := [(2, 0), (2, 1), (2, 192), (0, (i : Int))]) (S' := [(2, 0), (0, s1), (2, 192)]) r_316_1487 rfl rfl rfl ?_
  refine gx_st (L' := [(2, 0), (2, 1), (2, 192), (0, (i : Int))]) (S' := [(0, (i : Int)), (2, 0), (0, s1), (2, 192)]) r_316_1488 rfl rfl rfl ?_
  refine gx_st (L' := [(2, 0), (2, 1), (2, 192), (0, (i : Int))]) (S' := [(0, 2), (0, (i : Int)), (2, 0), (0, s1), (2, 192)]) r_316_1489 rfl rfl rfl ?_
  refine gx_ar (L' := [(2, 0), (2, 1), (2, 192), (0, (i : Int))]) (S' := [(2, 0), (0, s1), (2, 192)]) (t := 0) (e := w32 ((i : Int) + 2)) (z := (i : Int) + 2) r_316_1490 rfl rfl rfl (w32_eq (by omega) (by omega) (by omega)) ?_
  refine gx_ia (n := i + 2) (x := s2) r_316_1491 rfl h0 (by omega) ⟨rfl, by show i + 2 < L; omega⟩ ((sc_n1477 (i + 2)).trans e_s2.symm) ?_
  show GX T 1000 316 1492 [(2, 0), (2, 1), (2, 192), (0, (i : Int))] [(0, s2), (0, s1), (2, 192)] n1477 (fun v _ => v = (0, 1))
  refine gx_st (L' := [(2, 0), (2, 1), (2, 192), (0, (i : Int))]) (S' := [(2, 0), (0, s2), (0, s1), (2, 192)]) r_316_1492 rfl rfl rfl ?_
  refine gx_st (L' := [(2, 0), (2, 1), (2, 192), (0, (i : Int))]) (S' := [(0, (i : Int)), (2, 0), (0, s2), (0, s1), (2, 192)]) r_316_1493 rfl rfl rfl ?_
  refine gx_st (L' := [(2, 0), (2, 1), (2, 192), (0, (i : Int))]) (S' := [(0, 3), (0, (i : Int)), (2, 0), (0, s2), (0, s1), (2, 192)]) r_316_1494 rfl rfl rfl ?_
  refine gx_ar (L' := [(2, 0), (2, 1), (2, 192), (0, (i : Int))]) (S' := [(2, 0), (0, s2), (0, s1), (2, 192)]) (t := 0) (e := w32 ((i : Int) + 3)) (z := (i : Int) + 3) r_316_1495 rfl rfl rfl (w32_eq (by omega) (by omega) (by omega)) ?_
  refine gx_ia (n := i + 3) (x := s3) r_316_1496 rfl h0 (by omega) ⟨rfl, by show i + 3 < L; omega⟩ ((sc_n1477 (i + 3)).trans e_s3.symm) ?_
  show GX T 1000 316 1497 [(2, 0), (2, 1), (2, 192), (0, (i : Int))] [(0, s3), (0, s2), (0, s1), (2, 192)] n1477 (fun v _ => v = (0, 1))
  refine gx_ci (nx := 1500) (S2 := []) (gx_hi (args := [(2, 192), (0, s1), (0, s2), (0, s3)]) (pk_206 hT) ⟨gq_o192, gq_any (by omega) (by omega), gq_any (by omega) (by omega), gq_any (by omega) (by omega), trivial⟩ q1477.2.2.1 rfl) r_316_1497 rfl rfl rfl rfl rfl (rcv_v rfl (tk_192 hT) (by decide) rfl (by decide)) rfl (by decide) rfl (fun x1497 n1497 q1497 => ?_)
  show GX T 1000 316 1500 [(2, 0), (2, 1), (2, 192), (0, (i : Int))] [(0, x1497)] n1497 (fun v _ => v = (0, 1))
  have ex_n1497 : Ext n1497 := Ext_fr q1497.2.2.2 (by decide) ex_n1477
  have sc_n1497 := sc_fr q1497.2.2.2 (by decide) sc_n1477
  have rl_n1497 : RelR n1497 := Rel_fr q1497.2.2.2 (by decide) (by decide) (by decide) (by decide) (by decide) (by decide) (by decide) (by decide) rl_n1477
  refine gx_st (L' := [(2, 0), (2, 1), (2, 192), (0, (i : Int))]) (S' := []) r_316_1500 rfl rfl rfl ?_
  refine gx_st (L' := [(2, 0), (2, 1), (2, 192), (0, (i : Int))]) (S' := []) r_316_1501 rfl rfl rfl ?_
  exact hnext n1497 ⟨q1497.2.2.1, ex_n1497, sc_n1497, rl_n1497⟩
theorem pk_53 (hT : TT T) : ConH T cn_53 := fun args m => ((all_con hT 533).1 (by decide)) cn_53 cx_53 args m
theorem pk_208 (hT : TT T) : ConH T cn_208 := fun args m => ((all_con hT 925).1 (by decide)) cn_208 cx_208 args m
theorem case_52 (hT : TT T) (h0 : T[0]? = some (100, L)) (hL : L ≤ 3072) (hi : i + 6 ≤ L) (hl : LI xs m) (hnext : ∀ m, LI xs m → GX T 1000 316 2098 [(2, 0), (2, 1), (2, 192), (0, (i : Int))] [] m (fun v _ => v = (0, 1))) : GX T 1000 316 1504 [(2, 0), (2, 1), (2, 192), (0, (i : Int))] [] m (fun v _ => v = (0, 1)) := by
  obtain ⟨s1, e_s1⟩ : ∃ z, z = (xs (i + 1)).toInt := ⟨_, rfl⟩
  have b_s1 := i32_in (xs (i + 1))
  rw [← e_s1] at b_s1
  unfold in32 at b_s1
  obtain ⟨s2, e_s2⟩ : ∃ z, z = (xs (i + 2)).toInt := ⟨_, rfl⟩
  have b_s2 := i32_in (xs (i + 2))
  rw [← e_s2] at b_s2
  unfold in32 at b_s2
  obtain ⟨s3, e_s3⟩ : ∃ z, z = (xs (i + 3)).toInt := ⟨_, rfl⟩
  have b_s3 := i32_in (xs (i + 3))
  rw [← e_s3] at b_s3
  unfold in32 at b_s3
  obtain ⟨s4, e_s4⟩ : ∃ z, z = (xs (i + 4)).toInt := ⟨_, rfl⟩
  have b_s4 := i32_in (xs (i + 4))
  rw [← e_s4] at b_s4
  unfold in32 at b_s4
  obtain ⟨s5, e_s5⟩ : ∃ z, z = (xs (i + 5)).toInt := ⟨_, rfl⟩
  have b_s5 := i32_in (xs (i + 5))
  rw [← e_s5] at b_s5
  unfold in32 at b_s5
  refine gx_st (L' := [(2, 0), (2, 1), (2, 192), (0, (i : Int))]) (S' := [(2, 1)]) r_316_1504 rfl rfl rfl ?_
  refine gx_st (L' := [(2, 0), (2, 1), (2, 192), (0, (i : Int))]) (S' := [(2, 0), (2, 1)]) r_316_1505 rfl rfl rfl ?_
  refine gx_st (L' := [(2, 0), (2, 1), (2, 192), (0, (i : Int))]) (S' := [(0, (i : Int)), (2, 0), (2, 1)]) r_316_1506 rfl rfl rfl ?_
  refine gx_st (L' := [(2, 0), (2, 1), (2, 192), (0, (i : Int))]) (S' := [(0, 1), (0, (i : Int)), (2, 0), (2, 1)]) r_316_1507 rfl rfl rfl ?_
  refine gx_ar (L' := [(2, 0), (2, 1), (2, 192), (0, (i : Int))]) (S' := [(2, 0), (2, 1)]) (t := 0) (e := w32 ((i : Int) + 1)) (z := (i : Int) + 1) r_316_1508 rfl rfl rfl (w32_eq (by omega) (by omega) (by omega)) ?_
  refine gx_ia (n := i + 1) (x := s1) r_316_1509 rfl h0 (by omega) ⟨rfl, by show i + 1 < L; omega⟩ ((hl.2.2.1 (i + 1)).trans e_s1.symm) ?_
  show GX T 1000 316 1510 [(2, 0), (2, 1), (2, 192), (0, (i : Int))] [(0, s1), (2, 1)] m (fun v _ => v = (0, 1))
  refine gx_st (L' := [(2, 0), (2, 1), (2, 192), (0, (i : Int))]) (S' := [(2, 0), (0, s1), (2, 1)]) r_316_1510 rfl rfl rfl ?_
  refine gx_st (L' := [(2, 0), (2, 1), (2, 192), (0, (i : Int))]) (S' := [(0, (i : Int)), (2, 0), (0, s1), (2, 1)]) r_316_1511 rfl rfl rfl ?_
  refine gx_st (L' := [(2, 0), (2, 1), (2, 192), (0, (i : Int))]) (S' := [(0, 2), (0, (i : Int)), (2, 0), (0, s1), (2, 1)]) r_316_1512 rfl rfl rfl ?_
  refine gx_ar (L' := [(2, 0), (2, 1), (2, 192), (0, (i : Int))]) (S' := [(2, 0), (0, s1), (2, 1)]) (t := 0) (e := w32 ((i : Int) + 2)) (z := (i : Int) + 2) r_316_1513 rfl rfl rfl (w32_eq (by omega) (by omega) (by omega)) ?_
  refine gx_ia (n := i + 2) (x := s2) r_316_1514 rfl h0 (by omega) ⟨rfl, by show i + 2 < L; omega⟩ ((hl.2.2.1 (i + 2)).trans e_s2.symm) ?_
  show GX T 1000 316 1515 [(2, 0), (2, 1), (2, 192), (0, (i : Int))] [(0, s2), (0, s1), (2, 1)] m (fun v _ => v = (0, 1))
  refine gx_st (L' := [(2, 0), (2, 1), (2, 192), (0, (i : Int))]) (S' := [(2, 0), (0, s2), (0, s1), (2, 1)]) r_316_1515 rfl rfl rfl ?_
  refine gx_st (L' := [(2, 0), (2, 1), (2, 192), (0, (i : Int))]) (S' := [(0, (i : Int)), (2, 0), (0, s2), (0, s1), (2, 1)]) r_316_1516 rfl rfl rfl ?_
  refine gx_st (L' := [(2, 0), (2, 1), (2, 192), (0, (i : Int))]) (S' := [(0, 3), (0, (i : Int)), (2, 0), (0, s2), (0, s1), (2, 1)]) r_316_1517 rfl rfl rfl ?_
  refine gx_ar (L' := [(2, 0), (2, 1), (2, 192), (0, (i : Int))]) (S' := [(2, 0), (0, s2), (0, s1), (2, 1)]) (t := 0) (e := w32 ((i : Int) + 3)) (z := (i : Int) + 3) r_316_1518 rfl rfl rfl (w32_eq (by omega) (by omega) (by omega)) ?_
  refine gx_ia (n := i + 3) (x := s3) r_316_1519 rfl h0 (by omega) ⟨rfl, by show i + 3 < L; omega⟩ ((hl.2.2.1 (i + 3)).trans e_s3.symm) ?_
  show GX T 1000 316 1520 [(2, 0), (2, 1), (2, 192), (0, (i : Int))] [(0, s3), (0, s2), (0, s1), (2, 1)] m (fun v _ => v = (0, 1))
  refine gx_st (L' := [(2, 0), (2, 1), (2, 192), (0, (i : Int))]) (S' := [(2, 0), (0, s3), (0, s2), (0, s1), (2, 1)]) r_316_1520 rfl rfl rfl ?_
  refine gx_st (L' := [(2, 0), (2, 1), (2, 192), (0, (i : Int))]) (S' := [(0, (i : Int)), (2, 0), (0, s3), (0, s2), (0, s1), (2, 1)]) r_316_1521 rfl rfl rfl ?_
  refine gx_st (L' := [(2, 0), (2, 1), (2, 192), (0, (i : Int))]) (S' := [(0, 4), (0, (i : Int)), (2, 0), (0, s3), (0, s2), (0, s1), (2, 1)]) r_316_1522 rfl rfl rfl ?_
  refine gx_ar (L' := [(2, 0), (2, 1), (2, 192), (0, (i : Int))]) (S' := [(2, 0), (0, s3), (0, s2), (0, s1), (2, 1)]) (t := 0) (e := w32 ((i : Int) + 4)) (z := (i : Int) + 4) r_316_1523 rfl rfl rfl (w32_eq (by omega) (by omega) (by omega)) ?_
  refine gx_ia (n := i + 4) (x := s4) r_316_1524 rfl h0 (by omega) ⟨rfl, by show i + 4 < L; omega⟩ ((hl.2.2.1 (i + 4)).trans e_s4.symm) ?_
  show GX T 1000 316 1525 [(2, 0), (2, 1), (2, 192), (0, (i : Int))] [(0, s4), (0, s3), (0, s2), (0, s1), (2, 1)] m (fun v _ => v = (0, 1))
  refine gx_ci (nx := 1528) (S2 := []) (gx_hi (args := [(2, 1), (0, s1), (0, s2), (0, s3), (0, s4)]) (pk_53 hT) ⟨gq_o1, gq_any (by omega) (by omega), gq_any (by omega) (by omega), gq_any (by omega) (by omega), gq_any (by omega) (by omega), trivial⟩ hl.1 rfl) r_316_1525 rfl rfl rfl rfl rfl (rcv_v rfl (tk_1 hT) (by decide) rfl (by decide)) rfl (by decide) rfl (fun x1525 n1525 q1525 => ?_)
  show GX T 1000 316 1528 [(2, 0), (2, 1), (2, 192), (0, (i : Int))] [(0, x1525)] n1525 (fun v _ => v = (0, 1))
  have ex_n1525 : Ext n1525 := Ext_fr q1525.2.2.2 (by decide) hl.2.1
  have sc_n1525 := sc_fr q1525.2.2.2 (by decide) hl.2.2.1
  have rl_n1525 : RelR n1525 := Rel_fr q1525.2.2.2 (by decide) (by decide) (by decide) (by decide) (by decide) (by decide) (by decide) (by decide) hl.2.2.2
  refine gx_st (L' := [(2, 0), (2, 1), (2, 192), (0, (i : Int))]) (S' := []) r_316_1528 rfl rfl rfl ?_
  refine gx_st (L' := [(2, 0), (2, 1), (2, 192), (0, (i : Int))]) (S' := [(2, 192)]) r_316_1529 rfl rfl rfl ?_
  refine gx_st (L' := [(2, 0), (2, 1), (2, 192), (0, (i : Int))]) (S' := [(2, 0), (2, 192)]) r_316_1530 rfl rfl rfl ?_
  refine gx_st (L' := [(2, 0), (2, 1), (2, 192), (0, (i : Int))]) (S' := [(0, (i : Int)), (2, 0), (2, 192)]) r_316_1531 rfl rfl rfl ?_
  refine gx_st (L' := [(2, 0), (2, 1), (2, 192), (0, (i : Int))]) (S' := [(0, 1), (0, (i : Int)), (2, 0), (2, 192)]) r_316_1532 rfl rfl rfl ?_
  refine gx_ar (L' := [(2, 0), (2, 1), (2, 192), (0, (i : Int))]) (S' := [(2, 0), (2, 192)]) (t := 0) (e := w32 ((i : Int) + 1)) (z := (i : Int) + 1) r_316_1533 rfl rfl rfl (w32_eq (by omega) (by omega) (by omega)) ?_
  refine gx_ia (n := i + 1) (x := s1) r_316_1534 rfl h0 (by omega) ⟨rfl, by show i + 1 < L; omega⟩ ((sc_n1525 (i + 1)).trans e_s1.symm) ?_
  show GX T 1000 316 1535 [(2, 0), (2, 1), (2, 192), (0, (i : Int))] [(0, s1), (2, 192)] n1525 (fun v _ => v = (0, 1))
  refine gx_st (L' := [(2, 0), (2, 1), (2, 192), (0, (i : Int))]) (S' := [(2, 0), (0, s1), (2, 192)]) r_316_1535 rfl rfl rfl ?_
  refine gx_st (L' := [(2, 0), (2, 1), (2, 192), (0, (i : Int))]) (S' := [(0, (i : Int)), (2, 0), (0, s1), (2, 192)]) r_316_1536 rfl rfl rfl ?_
  refine gx_st (L' := [(2, 0), (2, 1), (2, 192), (0, (i : Int))]) (S' := [(0, 2), (0, (i : Int)), (2, 0), (0, s1), (2, 192)]) r_316_1537 rfl rfl rfl ?_
  refine gx_ar (L' := [(2, 0), (2, 1), (2, 192), (0, (i : Int))]) (S' := [(2, 0), (0, s1), (2, 192)]) (t := 0) (e := w32 ((i : Int) + 2)) (z := (i : Int) + 2) r_316_1538 rfl rfl rfl (w32_eq (by omega) (by omega) (by omega)) ?_
  refine gx_ia (n := i + 2) (x := s2) r_316_1539 rfl h0 (by omega) ⟨rfl, by show i + 2 < L; omega⟩ ((sc_n1525 (i + 2)).trans e_s2.symm) ?_
  show GX T 1000 316 1540 [(2, 0), (2, 1), (2, 192), (0, (i : Int))] [(0, s2), (0, s1), (2, 192)] n1525 (fun v _ => v = (0, 1))
  refine gx_st (L' := [(2, 0), (2, 1), (2, 192), (0, (i : Int))]) (S' := [(2, 0), (0, s2), (0, s1), (2, 192)]) r_316_1540 rfl rfl rfl ?_
  refine gx_st (L' := [(2, 0), (2, 1), (2, 192), (0, (i : Int))]) (S' := [(0, (i : Int)), (2, 0), (0, s2), (0, s1), (2, 192)]) r_316_1541 rfl rfl rfl ?_
  refine gx_st (L' := [(2, 0), (2, 1), (2, 192), (0, (i : Int))]) (S' := [(0, 3), (0, (i : Int)), (2, 0), (0, s2), (0, s1), (2, 192)]) r_316_1542 rfl rfl rfl ?_
  refine gx_ar (L' := [(2, 0), (2, 1), (2, 192), (0, (i : Int))]) (S' := [(2, 0), (0, s2), (0, s1), (2, 192)]) (t := 0) (e := w32 ((i : Int) + 3)) (z := (i : Int) + 3) r_316_1543 rfl rfl rfl (w32_eq (by omega) (by omega) (by omega)) ?_
  refine gx_ia (n := i + 3) (x := s3) r_316_1544 rfl h0 (by omega) ⟨rfl, by show i + 3 < L; omega⟩ ((sc_n1525 (i + 3)).trans e_s3.symm) ?_
  show GX T 1000 316 1545 [(2, 0), (2, 1), (2, 192), (0, (i : Int))] [(0, s3), (0, s2), (0, s1), (2, 192)] n1525 (fun v _ => v = (0, 1))
  refine gx_st (L' := [(2, 0), (2, 1), (2, 192), (0, (i : Int))]) (S' := [(2, 0), (0, s3), (0, s2), (0, s1), (2, 192)]) r_316_1545 rfl rfl rfl ?_
  refine gx_st (L' := [(2, 0), (2, 1), (2, 192), (0, (i : Int))]) (S' := [(0, (i : Int)), (2, 0), (0, s3), (0, s2), (0, s1), (2, 192)]) r_316_1546 rfl rfl rfl ?_
  refine gx_st (L' := [(2, 0), (2, 1), (2, 192), (0, (i : Int))]) (S' := [(0, 4), (0, (i : Int)), (2, 0), (0, s3), (0, s2), (0, s1), (2, 192)]) r_316_1547 rfl rfl rfl ?_
  refine gx_ar (L' := [(2, 0), (2, 1), (2, 192), (0, (i : Int))]) (S' := [(2, 0), (0, s3), (0, s2), (0, s1), (2, 192)]) (t := 0) (e := w32 ((i : Int) + 4)) (z := (i : Int) + 4) r_316_1548 rfl rfl rfl (w32_eq (by omega) (by omega) (by omega)) ?_
  refine gx_ia (n := i + 4) (x := s4) r_316_1549 rfl h0 (by omega) ⟨rfl, by show i + 4 < L; omega⟩ ((sc_n1525 (i + 4)).trans e_s4.symm) ?_
  show GX T 1000 316 1550 [(2, 0), (2, 1), (2, 192), (0, (i : Int))] [(0, s4), (0, s3), (0, s2), (0, s1), (2, 192)] n1525 (fun v _ => v = (0, 1))
  refine gx_ci (nx := 1553) (S2 := []) (gx_hi (args := [(2, 192), (0, s1), (0, s2), (0, s3), (0, s4)]) (pk_208 hT) ⟨gq_o192, gq_any (by omega) (by omega), gq_any (by omega) (by omega), gq_any (by omega) (by omega), gq_any (by omega) (by omega), trivial⟩ q1525.2.2.1 rfl) r_316_1550 rfl rfl rfl rfl rfl (rcv_v rfl (tk_192 hT) (by decide) rfl (by decide)) rfl (by decide) rfl (fun x1550 n1550 q1550 => ?_)
  show GX T 1000 316 1553 [(2, 0), (2, 1), (2, 192), (0, (i : Int))] [(0, x1550)] n1550 (fun v _ => v = (0, 1))
  have ex_n1550 : Ext n1550 := Ext_fr q1550.2.2.2 (by decide) ex_n1525
  have sc_n1550 := sc_fr q1550.2.2.2 (by decide) sc_n1525
  have rl_n1550 : RelR n1550 := Rel_fr q1550.2.2.2 (by decide) (by decide) (by decide) (by decide) (by decide) (by decide) (by decide) (by decide) rl_n1525
  refine gx_st (L' := [(2, 0), (2, 1), (2, 192), (0, (i : Int))]) (S' := []) r_316_1553 rfl rfl rfl ?_
  refine gx_st (L' := [(2, 0), (2, 1), (2, 192), (0, (i : Int))]) (S' := []) r_316_1554 rfl rfl rfl ?_
  exact hnext n1550 ⟨q1550.2.2.1, ex_n1550, sc_n1550, rl_n1550⟩
theorem pk_54 (hT : TT T) : ConH T cn_54 := fun args m => ((all_con hT 535).1 (by decide)) cn_54 cx_54 args m
theorem pk_209 (hT : TT T) : ConH T cn_209 := fun args m => ((all_con hT 926).1 (by decide)) cn_209 cx_209 args m
theorem case_53 (hT : TT T) (h0 : T[0]? = some (100, L)) (hL : L ≤ 3072) (hi : i + 6 ≤ L) (hl : LI xs m) (hnext : ∀ m, LI xs m → GX T 1000 316 2098 [(2, 0), (2, 1), (2, 192), (0, (i : Int))] [] m (fun v _ => v = (0, 1))) : GX T 1000 316 1557 [(2, 0), (2, 1), (2, 192), (0, (i : Int))] [] m (fun v _ => v = (0, 1)) := by
  obtain ⟨s1, e_s1⟩ : ∃ z, z = (xs (i + 1)).toInt := ⟨_, rfl⟩
  have b_s1 := i32_in (xs (i + 1))
  rw [← e_s1] at b_s1
  unfold in32 at b_s1
  obtain ⟨s2, e_s2⟩ : ∃ z, z = (xs (i + 2)).toInt := ⟨_, rfl⟩
  have b_s2 := i32_in (xs (i + 2))
  rw [← e_s2] at b_s2
  unfold in32 at b_s2
  obtain ⟨s3, e_s3⟩ : ∃ z, z = (xs (i + 3)).toInt := ⟨_, rfl⟩
  have b_s3 := i32_in (xs (i + 3))
  rw [← e_s3] at b_s3
  unfold in32 at b_s3
  obtain ⟨s4, e_s4⟩ : ∃ z, z = (xs (i + 4)).toInt := ⟨_, rfl⟩
  have b_s4 := i32_in (xs (i + 4))
  rw [← e_s4] at b_s4
  unfold in32 at b_s4
  obtain ⟨s5, e_s5⟩ : ∃ z, z = (xs (i + 5)).toInt := ⟨_, rfl⟩
  have b_s5 := i32_in (xs (i + 5))
  rw [← e_s5] at b_s5
  unfold in32 at b_s5
  refine gx_st (L' := [(2, 0), (2, 1), (2, 192), (0, (i : Int))]) (S' := [(2, 1)]) r_316_1557 rfl rfl rfl ?_
  refine gx_st (L' := [(2, 0), (2, 1), (2, 192), (0, (i : Int))]) (S' := [(2, 0), (2, 1)]) r_316_1558 rfl rfl rfl ?_
  refine gx_st (L' := [(2, 0), (2, 1), (2, 192), (0, (i : Int))]) (S' := [(0, (i : Int)), (2, 0), (2, 1)]) r_316_1559 rfl rfl rfl ?_
  refine gx_st (L' := [(2, 0), (2, 1), (2, 192), (0, (i : Int))]) (S' := [(0, 1), (0, (i : Int)), (2, 0), (2, 1)]) r_316_1560 rfl rfl rfl ?_
  refine gx_ar (L' := [(2, 0), (2, 1), (2, 192), (0, (i : Int))]) (S' := [(2, 0), (2, 1)]) (t := 0) (e := w32 ((i : Int) + 1)) (z := (i : Int) + 1) r_316_1561 rfl rfl rfl (w32_eq (by omega) (by omega) (by omega)) ?_
  refine gx_ia (n := i + 1) (x := s1) r_316_1562 rfl h0 (by omega) ⟨rfl, by show i + 1 < L; omega⟩ ((hl.2.2.1 (i + 1)).trans e_s1.symm) ?_
  show GX T 1000 316 1563 [(2, 0), (2, 1), (2, 192), (0, (i : Int))] [(0, s1), (2, 1)] m (fun v _ => v = (0, 1))
  refine gx_st (L' := [(2, 0), (2, 1), (2, 192), (0, (i : Int))]) (S' := [(2, 0), (0, s1), (2, 1)]) r_316_1563 rfl rfl rfl ?_
  refine gx_st (L' := [(2, 0), (2, 1), (2, 192), (0, (i : Int))]) (S' := [(0, (i : Int)), (2, 0), (0, s1), (2, 1)]) r_316_1564 rfl rfl rfl ?_
  refine gx_st (L' := [(2, 0), (2, 1), (2, 192), (0, (i : Int))]) (S' := [(0, 2), (0, (i : Int)), (2, 0), (0, s1), (2, 1)]) r_316_1565 rfl rfl rfl ?_
  refine gx_ar (L' := [(2, 0), (2, 1), (2, 192), (0, (i : Int))]) (S' := [(2, 0), (0, s1), (2, 1)]) (t := 0) (e := w32 ((i : Int) + 2)) (z := (i : Int) + 2) r_316_1566 rfl rfl rfl (w32_eq (by omega) (by omega) (by omega)) ?_
  refine gx_ia (n := i + 2) (x := s2) r_316_1567 rfl h0 (by omega) ⟨rfl, by show i + 2 < L; omega⟩ ((hl.2.2.1 (i + 2)).trans e_s2.symm) ?_
  show GX T 1000 316 1568 [(2, 0), (2, 1), (2, 192), (0, (i : Int))] [(0, s2), (0, s1), (2, 1)] m (fun v _ => v = (0, 1))
  refine gx_st (L' := [(2, 0), (2, 1), (2, 192), (0, (i : Int))]) (S' := [(2, 0), (0, s2), (0, s1), (2, 1)]) r_316_1568 rfl rfl rfl ?_
  refine gx_st (L' := [(2, 0), (2, 1), (2, 192), (0, (i : Int))]) (S' := [(0, (i : Int)), (2, 0), (0, s2), (0, s1), (2, 1)]) r_316_1569 rfl rfl rfl ?_
  refine gx_st (L' := [(2, 0), (2, 1), (2, 192), (0, (i : Int))]) (S' := [(0, 3), (0, (i : Int)), (2, 0), (0, s2), (0, s1), (2, 1)]) r_316_1570 rfl rfl rfl ?_
  refine gx_ar (L' := [(2, 0), (2, 1), (2, 192), (0, (i : Int))]) (S' := [(2, 0), (0, s2), (0, s1), (2, 1)]) (t := 0) (e := w32 ((i : Int) + 3)) (z := (i : Int) + 3) r_316_1571 rfl rfl rfl (w32_eq (by omega) (by omega) (by omega)) ?_
  refine gx_ia (n := i + 3) (x := s3) r_316_1572 rfl h0 (by omega) ⟨rfl, by show i + 3 < L; omega⟩ ((hl.2.2.1 (i + 3)).trans e_s3.symm) ?_
  show GX T 1000 316 1573 [(2, 0), (2, 1), (2, 192), (0, (i : Int))] [(0, s3), (0, s2), (0, s1), (2, 1)] m (fun v _ => v = (0, 1))
  refine gx_ci (nx := 1576) (S2 := []) (gx_hi (args := [(2, 1), (0, s1), (0, s2), (0, s3)]) (pk_54 hT) ⟨gq_o1, gq_any (by omega) (by omega), gq_any (by omega) (by omega), gq_any (by omega) (by omega), trivial⟩ hl.1 rfl) r_316_1573 rfl rfl rfl rfl rfl (rcv_v rfl (tk_1 hT) (by decide) rfl (by decide)) rfl (by decide) rfl (fun x1573 n1573 q1573 => ?_)
  show GX T 1000 316 1576 [(2, 0), (2, 1), (2, 192), (0, (i : Int))] [(0, x1573)] n1573 (fun v _ => v = (0, 1))
  have ex_n1573 : Ext n1573 := Ext_fr q1573.2.2.2 (by decide) hl.2.1
  have sc_n1573 := sc_fr q1573.2.2.2 (by decide) hl.2.2.1
  have rl_n1573 : RelR n1573 := Rel_fr q1573.2.2.2 (by decide) (by decide) (by decide) (by decide) (by decide) (by decide) (by decide) (by decide) hl.2.2.2
  refine gx_st (L' := [(2, 0), (2, 1), (2, 192), (0, (i : Int))]) (S' := []) r_316_1576 rfl rfl rfl ?_
  refine gx_st (L' := [(2, 0), (2, 1), (2, 192), (0, (i : Int))]) (S' := [(2, 192)]) r_316_1577 rfl rfl rfl ?_
  refine gx_st (L' := [(2, 0), (2, 1), (2, 192), (0, (i : Int))]) (S' := [(2, 0), (2, 192)]) r_316_1578 rfl rfl rfl ?_
  refine gx_st (L' := [(2, 0), (2, 1), (2, 192), (0, (i : Int))]) (S' := [(0, (i : Int)), (2, 0), (2, 192)]) r_316_1579 rfl rfl rfl ?_
  refine gx_st (L' := [(2, 0), (2, 1), (2, 192), (0, (i : Int))]) (S' := [(0, 1), (0, (i : Int)), (2, 0), (2, 192)]) r_316_1580 rfl rfl rfl ?_
  refine gx_ar (L' := [(2, 0), (2, 1), (2, 192), (0, (i : Int))]) (S' := [(2, 0), (2, 192)]) (t := 0) (e := w32 ((i : Int) + 1)) (z := (i : Int) + 1) r_316_1581 rfl rfl rfl (w32_eq (by omega) (by omega) (by omega)) ?_
  refine gx_ia (n := i + 1) (x := s1) r_316_1582 rfl h0 (by omega) ⟨rfl, by show i + 1 < L; omega⟩ ((sc_n1573 (i + 1)).trans e_s1.symm) ?_
  show GX T 1000 316 1583 [(2, 0), (2, 1), (2, 192), (0, (i : Int))] [(0, s1), (2, 192)] n1573 (fun v _ => v = (0, 1))
  refine gx_st (L' := [(2, 0), (2, 1), (2, 192), (0, (i : Int))]) (S' := [(2, 0), (0, s1), (2, 192)]) r_316_1583 rfl rfl rfl ?_
  refine gx_st (L' := [(2, 0), (2, 1), (2, 192), (0, (i : Int))]) (S' := [(0, (i : Int)), (2, 0), (0, s1), (2, 192)]) r_316_1584 rfl rfl rfl ?_
  refine gx_st (L' := [(2, 0), (2, 1), (2, 192), (0, (i : Int))]) (S' := [(0, 2), (0, (i : Int)), (2, 0), (0, s1), (2, 192)]) r_316_1585 rfl rfl rfl ?_
  refine gx_ar (L' := [(2, 0), (2, 1), (2, 192), (0, (i : Int))]) (S' := [(2, 0), (0, s1), (2, 192)]) (t := 0) (e := w32 ((i : Int) + 2)) (z := (i : Int) + 2) r_316_1586 rfl rfl rfl (w32_eq (by omega) (by omega) (by omega)) ?_
  refine gx_ia (n := i + 2) (x := s2) r_316_1587 rfl h0 (by omega) ⟨rfl, by show i + 2 < L; omega⟩ ((sc_n1573 (i + 2)).trans e_s2.symm) ?_
  show GX T 1000 316 1588 [(2, 0), (2, 1), (2, 192), (0, (i : Int))] [(0, s2), (0, s1), (2, 192)] n1573 (fun v _ => v = (0, 1))
  refine gx_st (L' := [(2, 0), (2, 1), (2, 192), (0, (i : Int))]) (S' := [(2, 0), (0, s2), (0, s1), (2, 192)]) r_316_1588 rfl rfl rfl ?_
  refine gx_st (L' := [(2, 0), (2, 1), (2, 192), (0, (i : Int))]) (S' := [(0, (i : Int)), (2, 0), (0, s2), (0, s1), (2, 192)]) r_316_1589 rfl rfl rfl ?_
  refine gx_st (L' := [(2, 0), (2, 1), (2, 192), (0, (i : Int))]) (S' := [(0, 3), (0, (i : Int)), (2, 0), (0, s2), (0, s1), (2, 192)]) r_316_1590 rfl rfl rfl ?_
  refine gx_ar (L' := [(2, 0), (2, 1), (2, 192), (0, (i : Int))]) (S' := [(2, 0), (0, s2), (0, s1), (2, 192)]) (t := 0) (e := w32 ((i : Int) + 3)) (z := (i : Int) + 3) r_316_1591 rfl rfl rfl (w32_eq (by omega) (by omega) (by omega)) ?_
  refine gx_ia (n := i + 3) (x := s3) r_316_1592 rfl h0 (by omega) ⟨rfl, by show i + 3 < L; omega⟩ ((sc_n1573 (i + 3)).trans e_s3.symm) ?_
  show GX T 1000 316 1593 [(2, 0), (2, 1), (2, 192), (0, (i : Int))] [(0, s3), (0, s2), (0, s1), (2, 192)] n1573 (fun v _ => v = (0, 1))
  refine gx_ci (nx := 1596) (S2 := []) (gx_hi (args := [(2, 192), (0, s1), (0, s2), (0, s3)]) (pk_209 hT) ⟨gq_o192, gq_any (by omega) (by omega), gq_any (by omega) (by omega), gq_any (by omega) (by omega), trivial⟩ q1573.2.2.1 rfl) r_316_1593 rfl rfl rfl rfl rfl (rcv_v rfl (tk_192 hT) (by decide) rfl (by decide)) rfl (by decide) rfl (fun x1593 n1593 q1593 => ?_)
  show GX T 1000 316 1596 [(2, 0), (2, 1), (2, 192), (0, (i : Int))] [(0, x1593)] n1593 (fun v _ => v = (0, 1))
  have ex_n1593 : Ext n1593 := Ext_fr q1593.2.2.2 (by decide) ex_n1573
  have sc_n1593 := sc_fr q1593.2.2.2 (by decide) sc_n1573
  have rl_n1593 : RelR n1593 := Rel_fr q1593.2.2.2 (by decide) (by decide) (by decide) (by decide) (by decide) (by decide) (by decide) (by decide) rl_n1573
  refine gx_st (L' := [(2, 0), (2, 1), (2, 192), (0, (i : Int))]) (S' := []) r_316_1596 rfl rfl rfl ?_
  refine gx_st (L' := [(2, 0), (2, 1), (2, 192), (0, (i : Int))]) (S' := []) r_316_1597 rfl rfl rfl ?_
  exact hnext n1593 ⟨q1593.2.2.1, ex_n1593, sc_n1593, rl_n1593⟩
theorem pk_55 (hT : TT T) : ConH T cn_55 := fun args m => ((all_con hT 537).1 (by decide)) cn_55 cx_55 args m
theorem pk_211 (hT : TT T) : ConX T cn_211 false false := by
  have z := ((all_con hT 927).2 (by decide)) cn_211 cx_211
  rw [show (Fl 927).2 = (false, false) by decide] at z
  exact z
theorem case_54 (hT : TT T) (h0 : T[0]? = some (100, L)) (hL : L ≤ 3072) (hi : i + 6 ≤ L) (hl : LI xs m) (hnext : ∀ m, LI xs m → GX T 1000 316 2098 [(2, 0), (2, 1), (2, 192), (0, (i : Int))] [] m (fun v _ => v = (0, 1))) : GX T 1000 316 1600 [(2, 0), (2, 1), (2, 192), (0, (i : Int))] [] m (fun v _ => v = (0, 1)) := by
  obtain ⟨s1, e_s1⟩ : ∃ z, z = (xs (i + 1)).toInt := ⟨_, rfl⟩
  have b_s1 := i32_in (xs (i + 1))
  rw [← e_s1] at b_s1
  unfold in32 at b_s1
  obtain ⟨s2, e_s2⟩ : ∃ z, z = (xs (i + 2)).toInt := ⟨_, rfl⟩
  have b_s2 := i32_in (xs (i + 2))
  rw [← e_s2] at b_s2
  unfold in32 at b_s2
  obtain ⟨s3, e_s3⟩ : ∃ z, z = (xs (i + 3)).toInt := ⟨_, rfl⟩
  have b_s3 := i32_in (xs (i + 3))
  rw [← e_s3] at b_s3
  unfold in32 at b_s3
  obtain ⟨s4, e_s4⟩ : ∃ z, z = (xs (i + 4)).toInt := ⟨_, rfl⟩
  have b_s4 := i32_in (xs (i + 4))
  rw [← e_s4] at b_s4
  unfold in32 at b_s4
  obtain ⟨s5, e_s5⟩ : ∃ z, z = (xs (i + 5)).toInt := ⟨_, rfl⟩
  have b_s5 := i32_in (xs (i + 5))
  rw [← e_s5] at b_s5
  unfold in32 at b_s5
  refine gx_st (L' := [(2, 0), (2, 1), (2, 192), (0, (i : Int))]) (S' := [(2, 1)]) r_316_1600 rfl rfl rfl ?_
  refine gx_st (L' := [(2, 0), (2, 1), (2, 192), (0, (i : Int))]) (S' := [(2, 0), (2, 1)]) r_316_1601 rfl rfl rfl ?_
  refine gx_st (L' := [(2, 0), (2, 1), (2, 192), (0, (i : Int))]) (S' := [(0, (i : Int)), (2, 0), (2, 1)]) r_316_1602 rfl rfl rfl ?_
  refine gx_st (L' := [(2, 0), (2, 1), (2, 192), (0, (i : Int))]) (S' := [(0, 1), (0, (i : Int)), (2, 0), (2, 1)]) r_316_1603 rfl rfl rfl ?_
  refine gx_ar (L' := [(2, 0), (2, 1), (2, 192), (0, (i : Int))]) (S' := [(2, 0), (2, 1)]) (t := 0) (e := w32 ((i : Int) + 1)) (z := (i : Int) + 1) r_316_1604 rfl rfl rfl (w32_eq (by omega) (by omega) (by omega)) ?_
  refine gx_ia (n := i + 1) (x := s1) r_316_1605 rfl h0 (by omega) ⟨rfl, by show i + 1 < L; omega⟩ ((hl.2.2.1 (i + 1)).trans e_s1.symm) ?_
  show GX T 1000 316 1606 [(2, 0), (2, 1), (2, 192), (0, (i : Int))] [(0, s1), (2, 1)] m (fun v _ => v = (0, 1))
  refine gx_cl (nx := 1609) (S2 := []) (gx_hl (args := [(2, 1), (0, s1)]) (pk_55 hT) ⟨gq_o1, gq_any (by omega) (by omega), trivial⟩ hl.1 rfl) r_316_1606 rfl rfl rfl rfl rfl (rcv_v rfl (tk_1 hT) (by decide) rfl (by decide)) rfl (by decide) rfl (fun x1606 n1606 q1606 => ?_)
  show GX T 1000 316 1609 [(2, 0), (2, 1), (2, 192), (0, (i : Int))] [(1, x1606)] n1606 (fun v _ => v = (0, 1))
  have ex_n1606 : Ext n1606 := Ext_fr q1606.2.2.2 (by decide) hl.2.1
  have sc_n1606 := sc_fr q1606.2.2.2 (by decide) hl.2.2.1
  have rl_n1606 : RelR n1606 := Rel_fr q1606.2.2.2 (by decide) (by decide) (by decide) (by decide) (by decide) (by decide) (by decide) (by decide) hl.2.2.2
  refine gx_st (L' := [(2, 0), (2, 1), (2, 192), (0, (i : Int))]) (S' := []) r_316_1609 rfl rfl rfl ?_
  refine gx_st (L' := [(2, 0), (2, 1), (2, 192), (0, (i : Int))]) (S' := [(2, 192)]) r_316_1610 rfl rfl rfl ?_
  refine gx_st (L' := [(2, 0), (2, 1), (2, 192), (0, (i : Int))]) (S' := [(2, 0), (2, 192)]) r_316_1611 rfl rfl rfl ?_
  refine gx_st (L' := [(2, 0), (2, 1), (2, 192), (0, (i : Int))]) (S' := [(0, (i : Int)), (2, 0), (2, 192)]) r_316_1612 rfl rfl rfl ?_
  refine gx_st (L' := [(2, 0), (2, 1), (2, 192), (0, (i : Int))]) (S' := [(0, 1), (0, (i : Int)), (2, 0), (2, 192)]) r_316_1613 rfl rfl rfl ?_
  refine gx_ar (L' := [(2, 0), (2, 1), (2, 192), (0, (i : Int))]) (S' := [(2, 0), (2, 192)]) (t := 0) (e := w32 ((i : Int) + 1)) (z := (i : Int) + 1) r_316_1614 rfl rfl rfl (w32_eq (by omega) (by omega) (by omega)) ?_
  refine gx_ia (n := i + 1) (x := s1) r_316_1615 rfl h0 (by omega) ⟨rfl, by show i + 1 < L; omega⟩ ((sc_n1606 (i + 1)).trans e_s1.symm) ?_
  show GX T 1000 316 1616 [(2, 0), (2, 1), (2, 192), (0, (i : Int))] [(0, s1), (2, 192)] n1606 (fun v _ => v = (0, 1))
  refine gx_cl (nx := 1619) (S2 := []) (gx_xl (args := [(2, 192), (0, s1)]) (pk_211 hT) ⟨gq_o192, gq_any (by omega) (by omega), trivial⟩ q1606.2.2.1 ex_n1606 (fun z => absurd z (by decide)) rfl) r_316_1616 rfl rfl rfl rfl rfl (rcv_v rfl (tk_192 hT) (by decide) rfl (by decide)) rfl (by decide) rfl (fun x1616 n1616 q1616 => ?_)
  show GX T 1000 316 1619 [(2, 0), (2, 1), (2, 192), (0, (i : Int))] [(1, x1616)] n1616 (fun v _ => v = (0, 1))
  have sc_n1616 := sc_fr q1616.2.2.2.2.1 (by decide) sc_n1606
  have rl_n1616 : RelR n1616 := Rel_fr q1616.2.2.2.2.1 (by decide) (by decide) (by decide) (by decide) (by decide) (by decide) (by decide) (by decide) rl_n1606
  refine gx_st (L' := [(2, 0), (2, 1), (2, 192), (0, (i : Int))]) (S' := []) r_316_1619 rfl rfl rfl ?_
  refine gx_st (L' := [(2, 0), (2, 1), (2, 192), (0, (i : Int))]) (S' := []) r_316_1620 rfl rfl rfl ?_
  exact hnext n1616 ⟨q1616.2.2.1, q1616.2.2.2.1, sc_n1616, rl_n1616⟩
theorem pk_56 (hT : TT T) : ConH T cn_56 := fun args m => ((all_con hT 538).1 (by decide)) cn_56 cx_56 args m
theorem pk_212 (hT : TT T) : ConX T cn_212 false false := by
  have z := ((all_con hT 928).2 (by decide)) cn_212 cx_212
  rw [show (Fl 928).2 = (false, false) by decide] at z
  exact z
theorem case_55 (hT : TT T) (h0 : T[0]? = some (100, L)) (hL : L ≤ 3072) (hi : i + 6 ≤ L) (hl : LI xs m) (hnext : ∀ m, LI xs m → GX T 1000 316 2098 [(2, 0), (2, 1), (2, 192), (0, (i : Int))] [] m (fun v _ => v = (0, 1))) : GX T 1000 316 1623 [(2, 0), (2, 1), (2, 192), (0, (i : Int))] [] m (fun v _ => v = (0, 1)) := by
  obtain ⟨s1, e_s1⟩ : ∃ z, z = (xs (i + 1)).toInt := ⟨_, rfl⟩
  have b_s1 := i32_in (xs (i + 1))
  rw [← e_s1] at b_s1
  unfold in32 at b_s1
  obtain ⟨s2, e_s2⟩ : ∃ z, z = (xs (i + 2)).toInt := ⟨_, rfl⟩
  have b_s2 := i32_in (xs (i + 2))
  rw [← e_s2] at b_s2
  unfold in32 at b_s2
  obtain ⟨s3, e_s3⟩ : ∃ z, z = (xs (i + 3)).toInt := ⟨_, rfl⟩
  have b_s3 := i32_in (xs (i + 3))
  rw [← e_s3] at b_s3
  unfold in32 at b_s3
  obtain ⟨s4, e_s4⟩ : ∃ z, z = (xs (i + 4)).toInt := ⟨_, rfl⟩
  have b_s4 := i32_in (xs (i + 4))
  rw [← e_s4] at b_s4
  unfold in32 at b_s4
  obtain ⟨s5, e_s5⟩ : ∃ z, z = (xs (i + 5)).toInt := ⟨_, rfl⟩
  have b_s5 := i32_in (xs (i + 5))
  rw [← e_s5] at b_s5
  unfold in32 at b_s5
  refine gx_st (L' := [(2, 0), (2, 1), (2, 192), (0, (i : Int))]) (S' := [(2, 1)]) r_316_1623 rfl rfl rfl ?_
  refine gx_st (L' := [(2, 0), (2, 1), (2, 192), (0, (i : Int))]) (S' := [(2, 0), (2, 1)]) r_316_1624 rfl rfl rfl ?_
  refine gx_st (L' := [(2, 0), (2, 1), (2, 192), (0, (i : Int))]) (S' := [(0, (i : Int)), (2, 0), (2, 1)]) r_316_1625 rfl rfl rfl ?_
  refine gx_st (L' := [(2, 0), (2, 1), (2, 192), (0, (i : Int))]) (S' := [(0, 1), (0, (i : Int)), (2, 0), (2, 1)]) r_316_1626 rfl rfl rfl ?_
  refine gx_ar (L' := [(2, 0), (2, 1), (2, 192), (0, (i : Int))]) (S' := [(2, 0), (2, 1)]) (t := 0) (e := w32 ((i : Int) + 1)) (z := (i : Int) + 1) r_316_1627 rfl rfl rfl (w32_eq (by omega) (by omega) (by omega)) ?_
  refine gx_ia (n := i + 1) (x := s1) r_316_1628 rfl h0 (by omega) ⟨rfl, by show i + 1 < L; omega⟩ ((hl.2.2.1 (i + 1)).trans e_s1.symm) ?_
  show GX T 1000 316 1629 [(2, 0), (2, 1), (2, 192), (0, (i : Int))] [(0, s1), (2, 1)] m (fun v _ => v = (0, 1))
  refine gx_ci (nx := 1632) (S2 := []) (gx_hi (args := [(2, 1), (0, s1)]) (pk_56 hT) ⟨gq_o1, gq_any (by omega) (by omega), trivial⟩ hl.1 rfl) r_316_1629 rfl rfl rfl rfl rfl (rcv_v rfl (tk_1 hT) (by decide) rfl (by decide)) rfl (by decide) rfl (fun x1629 n1629 q1629 => ?_)
  show GX T 1000 316 1632 [(2, 0), (2, 1), (2, 192), (0, (i : Int))] [(0, x1629)] n1629 (fun v _ => v = (0, 1))
  have ex_n1629 : Ext n1629 := Ext_fr q1629.2.2.2 (by decide) hl.2.1
  have sc_n1629 := sc_fr q1629.2.2.2 (by decide) hl.2.2.1
  have rl_n1629 : RelR n1629 := Rel_fr q1629.2.2.2 (by decide) (by decide) (by decide) (by decide) (by decide) (by decide) (by decide) (by decide) hl.2.2.2
  refine gx_st (L' := [(2, 0), (2, 1), (2, 192), (0, (i : Int))]) (S' := []) r_316_1632 rfl rfl rfl ?_
  refine gx_st (L' := [(2, 0), (2, 1), (2, 192), (0, (i : Int))]) (S' := [(2, 192)]) r_316_1633 rfl rfl rfl ?_
  refine gx_st (L' := [(2, 0), (2, 1), (2, 192), (0, (i : Int))]) (S' := [(2, 0), (2, 192)]) r_316_1634 rfl rfl rfl ?_
  refine gx_st (L' := [(2, 0), (2, 1), (2, 192), (0, (i : Int))]) (S' := [(0, (i : Int)), (2, 0), (2, 192)]) r_316_1635 rfl rfl rfl ?_
  refine gx_st (L' := [(2, 0), (2, 1), (2, 192), (0, (i : Int))]) (S' := [(0, 1), (0, (i : Int)), (2, 0), (2, 192)]) r_316_1636 rfl rfl rfl ?_
  refine gx_ar (L' := [(2, 0), (2, 1), (2, 192), (0, (i : Int))]) (S' := [(2, 0), (2, 192)]) (t := 0) (e := w32 ((i : Int) + 1)) (z := (i : Int) + 1) r_316_1637 rfl rfl rfl (w32_eq (by omega) (by omega) (by omega)) ?_
  refine gx_ia (n := i + 1) (x := s1) r_316_1638 rfl h0 (by omega) ⟨rfl, by show i + 1 < L; omega⟩ ((sc_n1629 (i + 1)).trans e_s1.symm) ?_
  show GX T 1000 316 1639 [(2, 0), (2, 1), (2, 192), (0, (i : Int))] [(0, s1), (2, 192)] n1629 (fun v _ => v = (0, 1))
  refine gx_ci (nx := 1642) (S2 := []) (gx_xi (args := [(2, 192), (0, s1)]) (pk_212 hT) ⟨gq_o192, gq_any (by omega) (by omega), trivial⟩ q1629.2.2.1 ex_n1629 (fun z => absurd z (by decide)) rfl) r_316_1639 rfl rfl rfl rfl rfl (rcv_v rfl (tk_192 hT) (by decide) rfl (by decide)) rfl (by decide) rfl (fun x1639 n1639 q1639 => ?_)
  show GX T 1000 316 1642 [(2, 0), (2, 1), (2, 192), (0, (i : Int))] [(0, x1639)] n1639 (fun v _ => v = (0, 1))
  have sc_n1639 := sc_fr q1639.2.2.2.2.1 (by decide) sc_n1629
  have rl_n1639 : RelR n1639 := Rel_fr q1639.2.2.2.2.1 (by decide) (by decide) (by decide) (by decide) (by decide) (by decide) (by decide) (by decide) rl_n1629
  refine gx_st (L' := [(2, 0), (2, 1), (2, 192), (0, (i : Int))]) (S' := []) r_316_1642 rfl rfl rfl ?_
  refine gx_st (L' := [(2, 0), (2, 1), (2, 192), (0, (i : Int))]) (S' := []) r_316_1643 rfl rfl rfl ?_
  exact hnext n1639 ⟨q1639.2.2.1, q1639.2.2.2.1, sc_n1639, rl_n1639⟩
theorem pk_59 (hT : TT T) : ConH T cn_59 := fun args m => ((all_con hT 548).1 (by decide)) cn_59 cx_59 args m
theorem pk_215 (hT : TT T) : ConX T cn_215 false false := by
  have z := ((all_con hT 940).2 (by decide)) cn_215 cx_215
  rw [show (Fl 940).2 = (false, false) by decide] at z
  exact z
theorem case_56 (hT : TT T) (h0 : T[0]? = some (100, L)) (hL : L ≤ 3072) (hi : i + 6 ≤ L) (hl : LI xs m) (hnext : ∀ m, LI xs m → GX T 1000 316 2098 [(2, 0), (2, 1), (2, 192), (0, (i : Int))] [] m (fun v _ => v = (0, 1))) : GX T 1000 316 1646 [(2, 0), (2, 1), (2, 192), (0, (i : Int))] [] m (fun v _ => v = (0, 1)) := by
  obtain ⟨s1, e_s1⟩ : ∃ z, z = (xs (i + 1)).toInt := ⟨_, rfl⟩
  have b_s1 := i32_in (xs (i + 1))
  rw [← e_s1] at b_s1
  unfold in32 at b_s1
  obtain ⟨s2, e_s2⟩ : ∃ z, z = (xs (i + 2)).toInt := ⟨_, rfl⟩
  have b_s2 := i32_in (xs (i + 2))
  rw [← e_s2] at b_s2
  unfold in32 at b_s2
  obtain ⟨s3, e_s3⟩ : ∃ z, z = (xs (i + 3)).toInt := ⟨_, rfl⟩
  have b_s3 := i32_in (xs (i + 3))
  rw [← e_s3] at b_s3
  unfold in32 at b_s3
  obtain ⟨s4, e_s4⟩ : ∃ z, z = (xs (i + 4)).toInt := ⟨_, rfl⟩
  have b_s4 := i32_in (xs (i + 4))
  rw [← e_s4] at b_s4
  unfold in32 at b_s4
  obtain ⟨s5, e_s5⟩ : ∃ z, z = (xs (i + 5)).toInt := ⟨_, rfl⟩
  have b_s5 := i32_in (xs (i + 5))
  rw [← e_s5] at b_s5
  unfold in32 at b_s5
  refine gx_st (L' := [(2, 0), (2, 1), (2, 192), (0, (i : Int))]) (S' := [(2, 1)]) r_316_1646 rfl rfl rfl ?_
  refine gx_st (L' := [(2, 0), (2, 1), (2, 192), (0, (i : Int))]) (S' := [(2, 0), (2, 1)]) r_316_1647 rfl rfl rfl ?_
  refine gx_st (L' := [(2, 0), (2, 1), (2, 192), (0, (i : Int))]) (S' := [(0, (i : Int)), (2, 0), (2, 1)]) r_316_1648 rfl rfl rfl ?_
  refine gx_st (L' := [(2, 0), (2, 1), (2, 192), (0, (i : Int))]) (S' := [(0, 1), (0, (i : Int)), (2, 0), (2, 1)]) r_316_1649 rfl rfl rfl ?_
  refine gx_ar (L' := [(2, 0), (2, 1), (2, 192), (0, (i : Int))]) (S' := [(2, 0), (2, 1)]) (t := 0) (e := w32 ((i : Int) + 1)) (z := (i : Int) + 1) r_316_1650 rfl rfl rfl (w32_eq (by omega) (by omega) (by omega)) ?_
  refine gx_ia (n := i + 1) (x := s1) r_316_1651 rfl h0 (by omega) ⟨rfl, by show i + 1 < L; omega⟩ ((hl.2.2.1 (i + 1)).trans e_s1.symm) ?_
  show GX T 1000 316 1652 [(2, 0), (2, 1), (2, 192), (0, (i : Int))] [(0, s1), (2, 1)] m (fun v _ => v = (0, 1))
  obtain ⟨n, wn1, wn2, wn3, wn4, wn5, wn6, wn7⟩ := wa_pre hl.1 hl.2.1 hl.2.2.2.2.2.1
  refine gx_ci (nx := 1655) (S2 := []) (gx_ai (x_59 hT hl.1 hl.2.2.2.1 wn1 wn5 wn4 s1) (gx_hi (args := [(2, 1), (0, s1)]) (pk_59 hT) ⟨gq_o1, gq_any (by omega) (by omega), trivial⟩ hl.1 rfl)) r_316_1652 rfl rfl rfl rfl rfl (rcv_v rfl (tk_1 hT) (by decide) rfl (by decide)) rfl (by decide) rfl (fun x1652 n1652 q1652 => ?_)
  show GX T 1000 316 1655 [(2, 0), (2, 1), (2, 192), (0, (i : Int))] [(0, x1652)] n1652 (fun v _ => v = (0, 1))
  have ex_n1652 : Ext n1652 := Ext_fr q1652.2.2.2.2 (by decide) hl.2.1
  have sc_n1652 := sc_fr q1652.2.2.2.2 (by decide) hl.2.2.1
  have pn_n1652 : PinR n1652 := PinR_fr q1652.2.2.2.2 (by decide) hl.2.2.2.1
  refine gx_st (L' := [(2, 0), (2, 1), (2, 192), (0, (i : Int))]) (S' := []) r_316_1655 rfl rfl rfl ?_
  refine gx_st (L' := [(2, 0), (2, 1), (2, 192), (0, (i : Int))]) (S' := [(2, 192)]) r_316_1656 rfl rfl rfl ?_
  refine gx_st (L' := [(2, 0), (2, 1), (2, 192), (0, (i : Int))]) (S' := [(2, 0), (2, 192)]) r_316_1657 rfl rfl rfl ?_
  refine gx_st (L' := [(2, 0), (2, 1), (2, 192), (0, (i : Int))]) (S' := [(0, (i : Int)), (2, 0), (2, 192)]) r_316_1658 rfl rfl rfl ?_
  refine gx_st (L' := [(2, 0), (2, 1), (2, 192), (0, (i : Int))]) (S' := [(0, 1), (0, (i : Int)), (2, 0), (2, 192)]) r_316_1659 rfl rfl rfl ?_
  refine gx_ar (L' := [(2, 0), (2, 1), (2, 192), (0, (i : Int))]) (S' := [(2, 0), (2, 192)]) (t := 0) (e := w32 ((i : Int) + 1)) (z := (i : Int) + 1) r_316_1660 rfl rfl rfl (w32_eq (by omega) (by omega) (by omega)) ?_
  refine gx_ia (n := i + 1) (x := s1) r_316_1661 rfl h0 (by omega) ⟨rfl, by show i + 1 < L; omega⟩ ((sc_n1652 (i + 1)).trans e_s1.symm) ?_
  show GX T 1000 316 1662 [(2, 0), (2, 1), (2, 192), (0, (i : Int))] [(0, s1), (2, 192)] n1652 (fun v _ => v = (0, 1))
  refine gx_ci (nx := 1665) (S2 := []) (gx_ai (y_215 hT (pv_136 hT) q1652.2.2.2.1 ex_n1652 pn_n1652 s1) (gx_xi (args := [(2, 192), (0, s1)]) (pk_215 hT) ⟨gq_o192, gq_any (by omega) (by omega), trivial⟩ q1652.2.2.2.1 ex_n1652 (fun z => absurd z (by decide)) rfl)) r_316_1662 rfl rfl rfl rfl rfl (rcv_v rfl (tk_192 hT) (by decide) rfl (by decide)) rfl (by decide) rfl (fun x1662 n1662 q1662 => ?_)
  show GX T 1000 316 1665 [(2, 0), (2, 1), (2, 192), (0, (i : Int))] [(0, x1662)] n1662 (fun v _ => v = (0, 1))
  have sc_n1662 := sc_fr q1662.2.2.2.2.2.1 (by decide) sc_n1652
  have rl_n1662 : RelR n1662 := ⟨PinR_fr q1662.2.2.2.2.2.1 (by decide) (PinR_fr q1652.2.2.2.2 (by decide) hl.2.2.2.1), TBr_fr q1662.2.2.2.2.2.1 rfl rfl rfl rfl (TBr_fr q1652.2.2.2.2 rfl rfl rfl rfl hl.2.2.2.2.1), wx_off hl.1 hl.2.1 hl.2.2.2.2.2.1 wn2 ⟨by decide, by decide⟩ q1652.1 q1652.2.2.2.2 (by decide) q1662.1 q1662.2.2.2.2.2.1 (by decide), planx_fr q1662.2.2.2.2.2.1 (by decide) (planx_fr q1652.2.2.2.2 (by decide) hl.2.2.2.2.2.2.1), zx_2 hl.2.2.2.2.2.2.2 q1652.2.2.2.2 (by decide) q1662.2.2.2.2.2.1 rfl (ke_off q1652.2.2.2.1 q1662.1)⟩
  refine gx_st (L' := [(2, 0), (2, 1), (2, 192), (0, (i : Int))]) (S' := []) r_316_1665 rfl rfl rfl ?_
  refine gx_st (L' := [(2, 0), (2, 1), (2, 192), (0, (i : Int))]) (S' := []) r_316_1666 rfl rfl rfl ?_
  exact hnext n1662 ⟨q1662.2.2.2.1, q1662.2.2.2.2.1, sc_n1662, rl_n1662⟩
theorem pk_60 (hT : TT T) : ConH T cn_60 := fun args m => ((all_con hT 549).1 (by decide)) cn_60 cx_60 args m
theorem pk_216 (hT : TT T) : ConX T cn_216 false false := by
  have z := ((all_con hT 953).2 (by decide)) cn_216 cx_216
  rw [show (Fl 953).2 = (false, false) by decide] at z
  exact z
theorem case_57 (hT : TT T) (h0 : T[0]? = some (100, L)) (hL : L ≤ 3072) (hi : i + 6 ≤ L) (hl : LI xs m) (hnext : ∀ m, LI xs m → GX T 1000 316 2098 [(2, 0), (2, 1), (2, 192), (0, (i : Int))] [] m (fun v _ => v = (0, 1))) : GX T 1000 316 1669 [(2, 0), (2, 1), (2, 192), (0, (i : Int))] [] m (fun v _ => v = (0, 1)) := by
  obtain ⟨s1, e_s1⟩ : ∃ z, z = (xs (i + 1)).toInt := ⟨_, rfl⟩
  have b_s1 := i32_in (xs (i + 1))
  rw [← e_s1] at b_s1
  unfold in32 at b_s1
  obtain ⟨s2, e_s2⟩ : ∃ z, z = (xs (i + 2)).toInt := ⟨_, rfl⟩
  have b_s2 := i32_in (xs (i + 2))
  rw [← e_s2] at b_s2
  unfold in32 at b_s2
  obtain ⟨s3, e_s3⟩ : ∃ z, z = (xs (i + 3)).toInt := ⟨_, rfl⟩
  have b_s3 := i32_in (xs (i + 3))
  rw [← e_s3] at b_s3
  unfold in32 at b_s3
  obtain ⟨s4, e_s4⟩ : ∃ z, z = (xs (i + 4)).toInt := ⟨_, rfl⟩
  have b_s4 := i32_in (xs (i + 4))
  rw [← e_s4] at b_s4
  unfold in32 at b_s4
  obtain ⟨s5, e_s5⟩ : ∃ z, z = (xs (i + 5)).toInt := ⟨_, rfl⟩
  have b_s5 := i32_in (xs (i + 5))
  rw [← e_s5] at b_s5
  unfold in32 at b_s5
  refine gx_st (L' := [(2, 0), (2, 1), (2, 192), (0, (i : Int))]) (S' := [(2, 1)]) r_316_1669 rfl rfl rfl ?_
  refine gx_st (L' := [(2, 0), (2, 1), (2, 192), (0, (i : Int))]) (S' := [(2, 0), (2, 1)]) r_316_1670 rfl rfl rfl ?_
  refine gx_st (L' := [(2, 0), (2, 1), (2, 192), (0, (i : Int))]) (S' := [(0, (i : Int)), (2, 0), (2, 1)]) r_316_1671 rfl rfl rfl ?_
  refine gx_st (L' := [(2, 0), (2, 1), (2, 192), (0, (i : Int))]) (S' := [(0, 1), (0, (i : Int)), (2, 0), (2, 1)]) r_316_1672 rfl rfl rfl ?_
  refine gx_ar (L' := [(2, 0), (2, 1), (2, 192), (0, (i : Int))]) (S' := [(2, 0), (2, 1)]) (t := 0) (e := w32 ((i : Int) + 1)) (z := (i : Int) + 1) r_316_1673 rfl rfl rfl (w32_eq (by omega) (by omega) (by omega)) ?_
  refine gx_ia (n := i + 1) (x := s1) r_316_1674 rfl h0 (by omega) ⟨rfl, by show i + 1 < L; omega⟩ ((hl.2.2.1 (i + 1)).trans e_s1.symm) ?_
  show GX T 1000 316 1675 [(2, 0), (2, 1), (2, 192), (0, (i : Int))] [(0, s1), (2, 1)] m (fun v _ => v = (0, 1))
  refine gx_st (L' := [(2, 0), (2, 1), (2, 192), (0, (i : Int))]) (S' := [(2, 0), (0, s1), (2, 1)]) r_316_1675 rfl rfl rfl ?_
  refine gx_st (L' := [(2, 0), (2, 1), (2, 192), (0, (i : Int))]) (S' := [(0, (i : Int)), (2, 0), (0, s1), (2, 1)]) r_316_1676 rfl rfl rfl ?_
  refine gx_st (L' := [(2, 0), (2, 1), (2, 192), (0, (i : Int))]) (S' := [(0, 2), (0, (i : Int)), (2, 0), (0, s1), (2, 1)]) r_316_1677 rfl rfl rfl ?_
  refine gx_ar (L' := [(2, 0), (2, 1), (2, 192), (0, (i : Int))]) (S' := [(2, 0), (0, s1), (2, 1)]) (t := 0) (e := w32 ((i : Int) + 2)) (z := (i : Int) + 2) r_316_1678 rfl rfl rfl (w32_eq (by omega) (by omega) (by omega)) ?_
  refine gx_ia (n := i + 2) (x := s2) r_316_1679 rfl h0 (by omega) ⟨rfl, by show i + 2 < L; omega⟩ ((hl.2.2.1 (i + 2)).trans e_s2.symm) ?_
  show GX T 1000 316 1680 [(2, 0), (2, 1), (2, 192), (0, (i : Int))] [(0, s2), (0, s1), (2, 1)] m (fun v _ => v = (0, 1))
  obtain ⟨n, wn1, wn2, wn3, wn4, wn5, wn6, wn7⟩ := wa_pre hl.1 hl.2.1 hl.2.2.2.2.2.1
  refine gx_ci (nx := 1683) (S2 := []) (gx_ai (x_60 hT hl.1 hl.2.2.2.1 wn1 wn5 wn4 s1 s2 wn6) (gx_hi (args := [(2, 1), (0, s1), (0, s2)]) (pk_60 hT) ⟨gq_o1, gq_any (by omega) (by omega), gq_any (by omega) (by omega), trivial⟩ hl.1 rfl)) r_316_1680 rfl rfl rfl rfl rfl (rcv_v rfl (tk_1 hT) (by decide) rfl (by decide)) rfl (by decide) rfl (fun x1680 n1680 q1680 => ?_)
  show GX T 1000 316 1683 [(2, 0), (2, 1), (2, 192), (0, (i : Int))] [(0, x1680)] n1680 (fun v _ => v = (0, 1))
  have ex_n1680 : Ext n1680 := Ext_fr q1680.2.2.2.2 (by decide) hl.2.1
  have sc_n1680 := sc_fr q1680.2.2.2.2 (by decide) hl.2.2.1
  have pn_n1680 : PinR n1680 := PinR_fr q1680.2.2.2.2 (by decide) hl.2.2.2.1
  refine gx_st (L' := [(2, 0), (2, 1), (2, 192), (0, (i : Int))]) (S' := []) r_316_1683 rfl rfl rfl ?_
  refine gx_st (L' := [(2, 0), (2, 1), (2, 192), (0, (i : Int))]) (S' := [(2, 192)]) r_316_1684 rfl rfl rfl ?_
  refine gx_st (L' := [(2, 0), (2, 1), (2, 192), (0, (i : Int))]) (S' := [(2, 0), (2, 192)]) r_316_1685 rfl rfl rfl ?_
  refine gx_st (L' := [(2, 0), (2, 1), (2, 192), (0, (i : Int))]) (S' := [(0, (i : Int)), (2, 0), (2, 192)]) r_316_1686 rfl rfl rfl ?_
  refine gx_st (L' := [(2, 0), (2, 1), (2, 192), (0, (i : Int))]) (S' := [(0, 1), (0, (i : Int)), (2, 0), (2, 192)]) r_316_1687 rfl rfl rfl ?_
  refine gx_ar (L' := [(2, 0), (2, 1), (2, 192), (0, (i : Int))]) (S' := [(2, 0), (2, 192)]) (t := 0) (e := w32 ((i : Int) + 1)) (z := (i : Int) + 1) r_316_1688 rfl rfl rfl (w32_eq (by omega) (by omega) (by omega)) ?_
  refine gx_ia (n := i + 1) (x := s1) r_316_1689 rfl h0 (by omega) ⟨rfl, by show i + 1 < L; omega⟩ ((sc_n1680 (i + 1)).trans e_s1.symm) ?_
  show GX T 1000 316 1690 [(2, 0), (2, 1), (2, 192), (0, (i : Int))] [(0, s1), (2, 192)] n1680 (fun v _ => v = (0, 1))
  refine gx_st (L' := [(2, 0), (2, 1), (2, 192), (0, (i : Int))]) (S' := [(2, 0), (0, s1), (2, 192)]) r_316_1690 rfl rfl rfl ?_
  refine gx_st (L' := [(2, 0), (2, 1), (2, 192), (0, (i : Int))]) (S' := [(0, (i : Int)), (2, 0), (0, s1), (2, 192)]) r_316_1691 rfl rfl rfl ?_
  refine gx_st (L' := [(2, 0), (2, 1), (2, 192), (0, (i : Int))]) (S' := [(0, 2), (0, (i : Int)), (2, 0), (0, s1), (2, 192)]) r_316_1692 rfl rfl rfl ?_
  refine gx_ar (L' := [(2, 0), (2, 1), (2, 192), (0, (i : Int))]) (S' := [(2, 0), (0, s1), (2, 192)]) (t := 0) (e := w32 ((i : Int) + 2)) (z := (i : Int) + 2) r_316_1693 rfl rfl rfl (w32_eq (by omega) (by omega) (by omega)) ?_
  refine gx_ia (n := i + 2) (x := s2) r_316_1694 rfl h0 (by omega) ⟨rfl, by show i + 2 < L; omega⟩ ((sc_n1680 (i + 2)).trans e_s2.symm) ?_
  show GX T 1000 316 1695 [(2, 0), (2, 1), (2, 192), (0, (i : Int))] [(0, s2), (0, s1), (2, 192)] n1680 (fun v _ => v = (0, 1))
  refine gx_ci (nx := 1698) (S2 := []) (gx_ai (y_216 hT (pv_136 hT) q1680.2.2.2.1 ex_n1680 pn_n1680 s1 s2) (gx_xi (args := [(2, 192), (0, s1), (0, s2)]) (pk_216 hT) ⟨gq_o192, gq_any (by omega) (by omega), gq_any (by omega) (by omega), trivial⟩ q1680.2.2.2.1 ex_n1680 (fun z => absurd z (by decide)) rfl)) r_316_1695 rfl rfl rfl rfl rfl (rcv_v rfl (tk_192 hT) (by decide) rfl (by decide)) rfl (by decide) rfl (fun x1695 n1695 q1695 => ?_)
  show GX T 1000 316 1698 [(2, 0), (2, 1), (2, 192), (0, (i : Int))] [(0, x1695)] n1695 (fun v _ => v = (0, 1))
  have sc_n1695 := sc_fr q1695.2.2.2.2.2.1 (by decide) sc_n1680
  have rl_n1695 : RelR n1695 := ⟨PinR_fr q1695.2.2.2.2.2.1 (by decide) (PinR_fr q1680.2.2.2.2 (by decide) hl.2.2.2.1), TBr_fr q1695.2.2.2.2.2.1 rfl rfl rfl rfl (TBr_fr q1680.2.2.2.2 rfl rfl rfl rfl hl.2.2.2.2.1), wx_car hl.1 hl.2.1 hl.2.2.2.2.2.1 wn2 q1680.1 q1680.2.2.2.2 (by decide) q1695.1 q1695.2.2.2.2.2.1 (by decide), planx_fr q1695.2.2.2.2.2.1 (by decide) (planx_fr q1680.2.2.2.2 (by decide) hl.2.2.2.2.2.2.1), zx_2 hl.2.2.2.2.2.2.2 q1680.2.2.2.2 (by decide) q1695.2.2.2.2.2.1 rfl (ke_car q1680.2.2.2.1 q1695.1)⟩
  refine gx_st (L' := [(2, 0), (2, 1), (2, 192), (0, (i : Int))]) (S' := []) r_316_1698 rfl rfl rfl ?_
  refine gx_st (L' := [(2, 0), (2, 1), (2, 192), (0, (i : Int))]) (S' := []) r_316_1699 rfl rfl rfl ?_
  exact hnext n1695 ⟨q1695.2.2.2.1, q1695.2.2.2.2.1, sc_n1695, rl_n1695⟩
theorem pk_61 (hT : TT T) : ConH T cn_61 := fun args m => ((all_con hT 550).1 (by decide)) cn_61 cx_61 args m
theorem pk_217 (hT : TT T) : ConX T cn_217 false false := by
  have z := ((all_con hT 957).2 (by decide)) cn_217 cx_217
  rw [show (Fl 957).2 = (false, false) by decide] at z
  exact z
theorem case_58 (hT : TT T) (h0 : T[0]? = some (100, L)) (hL : L ≤ 3072) (hi : i + 6 ≤ L) (hl : LI xs m) (hnext : ∀ m, LI xs m → GX T 1000 316 2098 [(2, 0), (2, 1), (2, 192), (0, (i : Int))] [] m (fun v _ => v = (0, 1))) : GX T 1000 316 1702 [(2, 0), (2, 1), (2, 192), (0, (i : Int))] [] m (fun v _ => v = (0, 1)) := by
  obtain ⟨s1, e_s1⟩ : ∃ z, z = (xs (i + 1)).toInt := ⟨_, rfl⟩
  have b_s1 := i32_in (xs (i + 1))
  rw [← e_s1] at b_s1
  unfold in32 at b_s1
  obtain ⟨s2, e_s2⟩ : ∃ z, z = (xs (i + 2)).toInt := ⟨_, rfl⟩
  have b_s2 := i32_in (xs (i + 2))
  rw [← e_s2] at b_s2
  unfold in32 at b_s2
  obtain ⟨s3, e_s3⟩ : ∃ z, z = (xs (i + 3)).toInt := ⟨_, rfl⟩
  have b_s3 := i32_in (xs (i + 3))
  rw [← e_s3] at b_s3
  unfold in32 at b_s3
  obtain ⟨s4, e_s4⟩ : ∃ z, z = (xs (i + 4)).toInt := ⟨_, rfl⟩
  have b_s4 := i32_in (xs (i + 4))
  rw [← e_s4] at b_s4
  unfold in32 at b_s4
  obtain ⟨s5, e_s5⟩ : ∃ z, z = (xs (i + 5)).toInt := ⟨_, rfl⟩
  have b_s5 := i32_in (xs (i + 5))
  rw [← e_s5] at b_s5
  unfold in32 at b_s5
  refine gx_st (L' := [(2, 0), (2, 1), (2, 192), (0, (i : Int))]) (S' := [(2, 1)]) r_316_1702 rfl rfl rfl ?_
  refine gx_st (L' := [(2, 0), (2, 1), (2, 192), (0, (i : Int))]) (S' := [(2, 0), (2, 1)]) r_316_1703 rfl rfl rfl ?_
  refine gx_st (L' := [(2, 0), (2, 1), (2, 192), (0, (i : Int))]) (S' := [(0, (i : Int)), (2, 0), (2, 1)]) r_316_1704 rfl rfl rfl ?_
  refine gx_st (L' := [(2, 0), (2, 1), (2, 192), (0, (i : Int))]) (S' := [(0, 1), (0, (i : Int)), (2, 0), (2, 1)]) r_316_1705 rfl rfl rfl ?_
  refine gx_ar (L' := [(2, 0), (2, 1), (2, 192), (0, (i : Int))]) (S' := [(2, 0), (2, 1)]) (t := 0) (e := w32 ((i : Int) + 1)) (z := (i : Int) + 1) r_316_1706 rfl rfl rfl (w32_eq (by omega) (by omega) (by omega)) ?_
  refine gx_ia (n := i + 1) (x := s1) r_316_1707 rfl h0 (by omega) ⟨rfl, by show i + 1 < L; omega⟩ ((hl.2.2.1 (i + 1)).trans e_s1.symm) ?_
  show GX T 1000 316 1708 [(2, 0), (2, 1), (2, 192), (0, (i : Int))] [(0, s1), (2, 1)] m (fun v _ => v = (0, 1))
  obtain ⟨n, wn1, wn2, wn3, wn4, wn5, wn6, wn7⟩ := wa_pre hl.1 hl.2.1 hl.2.2.2.2.2.1
  refine gx_ci (nx := 1711) (S2 := []) (gx_ai (x_61 hT hl.1 hl.2.2.2.1 wn1 wn5 wn4 s1) (gx_hi (args := [(2, 1), (0, s1)]) (pk_61 hT) ⟨gq_o1, gq_any (by omega) (by omega), trivial⟩ hl.1 rfl)) r_316_1708 rfl rfl rfl rfl rfl (rcv_v rfl (tk_1 hT) (by decide) rfl (by decide)) rfl (by decide) rfl (fun x1708 n1708 q1708 => ?_)
  show GX T 1000 316 1711 [(2, 0), (2, 1), (2, 192), (0, (i : Int))] [(0, x1708)] n1708 (fun v _ => v = (0, 1))
  have ex_n1708 : Ext n1708 := Ext_fr q1708.2.2.2.2 (by decide) hl.2.1
  have sc_n1708 := sc_fr q1708.2.2.2.2 (by decide) hl.2.2.1
  have pn_n1708 : PinR n1708 := PinR_fr q1708.2.2.2.2 (by decide) hl.2.2.2.1
  refine gx_st (L' := [(2, 0), (2, 1), (2, 192), (0, (i : Int))]) (S' := []) r_316_1711 rfl rfl rfl ?_
  refine gx_st (L' := [(2, 0), (2, 1), (2, 192), (0, (i : Int))]) (S' := [(2, 192)]) r_316_1712 rfl rfl rfl ?_
  refine gx_st (L' := [(2, 0), (2, 1), (2, 192), (0, (i : Int))]) (S' := [(2, 0), (2, 192)]) r_316_1713 rfl rfl rfl ?_
  refine gx_st (L' := [(2, 0), (2, 1), (2, 192), (0, (i : Int))]) (S' := [(0, (i : Int)), (2, 0), (2, 192)]) r_316_1714 rfl rfl rfl ?_
  refine gx_st (L' := [(2, 0), (2, 1), (2, 192), (0, (i : Int))]) (S' := [(0, 1), (0, (i : Int)), (2, 0), (2, 192)]) r_316_1715 rfl rfl rfl ?_
  refine gx_ar (L' := [(2, 0), (2, 1), (2, 192), (0, (i : Int))]) (S' := [(2, 0), (2, 192)]) (t := 0) (e := w32 ((i : Int) + 1)) (z := (i : Int) + 1) r_316_1716 rfl rfl rfl (w32_eq (by omega) (by omega) (by omega)) ?_
  refine gx_ia (n := i + 1) (x := s1) r_316_1717 rfl h0 (by omega) ⟨rfl, by show i + 1 < L; omega⟩ ((sc_n1708 (i + 1)).trans e_s1.symm) ?_
  show GX T 1000 316 1718 [(2, 0), (2, 1), (2, 192), (0, (i : Int))] [(0, s1), (2, 192)] n1708 (fun v _ => v = (0, 1))
  refine gx_ci (nx := 1721) (S2 := []) (gx_ai (y_217 hT (pv_136 hT) q1708.2.2.2.1 ex_n1708 pn_n1708 s1) (gx_xi (args := [(2, 192), (0, s1)]) (pk_217 hT) ⟨gq_o192, gq_any (by omega) (by omega), trivial⟩ q1708.2.2.2.1 ex_n1708 (fun z => absurd z (by decide)) rfl)) r_316_1718 rfl rfl rfl rfl rfl (rcv_v rfl (tk_192 hT) (by decide) rfl (by decide)) rfl (by decide) rfl (fun x1718 n1718 q1718 => ?_)
  show GX T 1000 316 1721 [(2, 0), (2, 1), (2, 192), (0, (i : Int))] [(0, x1718)] n1718 (fun v _ => v = (0, 1))
  have sc_n1718 := sc_fr q1718.2.2.2.2.2.1 (by decide) sc_n1708
  have rl_n1718 : RelR n1718 := ⟨PinR_fr q1718.2.2.2.2.2.1 (by decide) (PinR_fr q1708.2.2.2.2 (by decide) hl.2.2.2.1), TBr_fr q1718.2.2.2.2.2.1 rfl rfl rfl rfl (TBr_fr q1708.2.2.2.2 rfl rfl rfl rfl hl.2.2.2.2.1), wx_off hl.1 hl.2.1 hl.2.2.2.2.2.1 wn2 ⟨by decide, by decide⟩ q1708.1 q1708.2.2.2.2 (by decide) q1718.1 q1718.2.2.2.2.2.1 (by decide), planx_fr q1718.2.2.2.2.2.1 (by decide) (planx_fr q1708.2.2.2.2 (by decide) hl.2.2.2.2.2.2.1), zx_2 hl.2.2.2.2.2.2.2 q1708.2.2.2.2 (by decide) q1718.2.2.2.2.2.1 rfl (ke_off q1708.2.2.2.1 q1718.1)⟩
  refine gx_st (L' := [(2, 0), (2, 1), (2, 192), (0, (i : Int))]) (S' := []) r_316_1721 rfl rfl rfl ?_
  refine gx_st (L' := [(2, 0), (2, 1), (2, 192), (0, (i : Int))]) (S' := []) r_316_1722 rfl rfl rfl ?_
  exact hnext n1718 ⟨q1718.2.2.2.1, q1718.2.2.2.2.1, sc_n1718, rl_n1718⟩
theorem pk_62 (hT : TT T) : ConH T cn_62 := fun args m => ((all_con hT 553).1 (by decide)) cn_62 cx_62 args m
theorem pk_218 (hT : TT T) : ConX T cn_218 false false := by
  have z := ((all_con hT 958).2 (by decide)) cn_218 cx_218
  rw [show (Fl 958).2 = (false, false) by decide] at z
  exact z
theorem case_59 (hT : TT T) (h0 : T[0]? = some (100, L)) (hL : L ≤ 3072) (hi : i + 6 ≤ L) (hl : LI xs m) (hnext : ∀ m, LI xs m → GX T 1000 316 2098 [(2, 0), (2, 1), (2, 192), (0, (i : Int))] [] m (fun v _ => v = (0, 1))) : GX T 1000 316 1725 [(2, 0), (2, 1), (2, 192), (0, (i : Int))] [] m (fun v _ => v = (0, 1)) := by
  obtain ⟨s1, e_s1⟩ : ∃ z, z = (xs (i + 1)).toInt := ⟨_, rfl⟩
  have b_s1 := i32_in (xs (i + 1))
  rw [← e_s1] at b_s1
  unfold in32 at b_s1
  obtain ⟨s2, e_s2⟩ : ∃ z, z = (xs (i + 2)).toInt := ⟨_, rfl⟩
  have b_s2 := i32_in (xs (i + 2))
  rw [← e_s2] at b_s2
  unfold in32 at b_s2
  obtain ⟨s3, e_s3⟩ : ∃ z, z = (xs (i + 3)).toInt := ⟨_, rfl⟩
  have b_s3 := i32_in (xs (i + 3))
  rw [← e_s3] at b_s3
  unfold in32 at b_s3
  obtain ⟨s4, e_s4⟩ : ∃ z, z = (xs (i + 4)).toInt := ⟨_, rfl⟩
  have b_s4 := i32_in (xs (i + 4))
  rw [← e_s4] at b_s4
  unfold in32 at b_s4
  obtain ⟨s5, e_s5⟩ : ∃ z, z = (xs (i + 5)).toInt := ⟨_, rfl⟩
  have b_s5 := i32_in (xs (i + 5))
  rw [← e_s5] at b_s5
  unfold in32 at b_s5
  refine gx_st (L' := [(2, 0), (2, 1), (2, 192), (0, (i : Int))]) (S' := [(2, 1)]) r_316_1725 rfl rfl rfl ?_
  obtain ⟨n, wn1, wn2, wn3, wn4, wn5, wn6, wn7⟩ := wa_pre hl.1 hl.2.1 hl.2.2.2.2.2.1
  obtain ⟨lh, wl1, wl2⟩ := wa_last hl.1 hl.2.2.2.2.2.1 wn2 wn3
  refine gx_ci (nx := 1729) (S2 := []) (gx_ai (x_62 hT hl.1 hl.2.2.2.1 wn1 wl2 wn3 wl1) (gx_hi (args := [(2, 1)]) (pk_62 hT) ⟨gq_o1, trivial⟩ hl.1 rfl)) r_316_1726 rfl rfl rfl rfl rfl (rcv_v rfl (tk_1 hT) (by decide) rfl (by decide)) rfl (by decide) rfl (fun x1726 n1726 q1726 => ?_)
  show GX T 1000 316 1729 [(2, 0), (2, 1), (2, 192), (0, (i : Int))] [(0, x1726)] n1726 (fun v _ => v = (0, 1))
  have ex_n1726 : Ext n1726 := Ext_fr q1726.2.2.2.2 (by decide) hl.2.1
  have sc_n1726 := sc_fr q1726.2.2.2.2 (by decide) hl.2.2.1
  have pn_n1726 : PinR n1726 := PinR_fr q1726.2.2.2.2 (by decide) hl.2.2.2.1
  refine gx_st (L' := [(2, 0), (2, 1), (2, 192), (0, (i : Int))]) (S' := []) r_316_1729 rfl rfl rfl ?_
  refine gx_st (L' := [(2, 0), (2, 1), (2, 192), (0, (i : Int))]) (S' := [(2, 192)]) r_316_1730 rfl rfl rfl ?_
  refine gx_ci (nx := 1734) (S2 := []) (gx_ai (y_218 hT q1726.2.2.2.1 pn_n1726 ((q1726.2.2.2.2 193 8 rfl).trans wn2)) (gx_xi (args := [(2, 192)]) (pk_218 hT) ⟨gq_o192, trivial⟩ q1726.2.2.2.1 ex_n1726 (fun z => absurd z (by decide)) rfl)) r_316_1731 rfl rfl rfl rfl rfl (rcv_v rfl (tk_192 hT) (by decide) rfl (by decide)) rfl (by decide) rfl (fun x1731 n1731 q1731 => ?_)
  show GX T 1000 316 1734 [(2, 0), (2, 1), (2, 192), (0, (i : Int))] [(0, x1731)] n1731 (fun v _ => v = (0, 1))
  have sc_n1731 := sc_fr q1731.2.2.2.2.2.1 (by decide) sc_n1726
  have rl_n1731 : RelR n1731 := ⟨PinR_fr q1731.2.2.2.2.2.1 (by decide) (PinR_fr q1726.2.2.2.2 (by decide) hl.2.2.2.1), TBr_fr q1731.2.2.2.2.2.1 rfl rfl rfl rfl (TBr_fr q1726.2.2.2.2 rfl rfl rfl rfl hl.2.2.2.2.1), (wx_undo hl.1 hl.2.1 hl.2.2.2.2.2.1 wn2 wn3 wl2 q1726.1 q1726.2.2.2.2 (by decide) q1731.1 q1731.2.2.2.2.2.1 (by decide)).2, planx_fr q1731.2.2.2.2.2.1 (by decide) (planx_fr q1726.2.2.2.2 (by decide) hl.2.2.2.2.2.2.1), zx_2 hl.2.2.2.2.2.2.2 q1726.2.2.2.2 (by decide) q1731.2.2.2.2.2.1 rfl (ke_undo q1731.1)⟩
  refine gx_st (L' := [(2, 0), (2, 1), (2, 192), (0, (i : Int))]) (S' := []) r_316_1734 rfl rfl rfl ?_
  refine gx_st (L' := [(2, 0), (2, 1), (2, 192), (0, (i : Int))]) (S' := []) r_316_1735 rfl rfl rfl ?_
  exact hnext n1731 ⟨q1731.2.2.2.1, q1731.2.2.2.2.1, sc_n1731, rl_n1731⟩
theorem pk_63 (hT : TT T) : ConH T cn_63 := fun args m => ((all_con hT 554).1 (by decide)) cn_63 cx_63 args m
theorem pk_219 (hT : TT T) : ConX T cn_219 false false := by
  have z := ((all_con hT 959).2 (by decide)) cn_219 cx_219
  rw [show (Fl 959).2 = (false, false) by decide] at z
  exact z
theorem case_60 (hT : TT T) (h0 : T[0]? = some (100, L)) (hL : L ≤ 3072) (hi : i + 6 ≤ L) (hl : LI xs m) (hnext : ∀ m, LI xs m → GX T 1000 316 2098 [(2, 0), (2, 1), (2, 192), (0, (i : Int))] [] m (fun v _ => v = (0, 1))) : GX T 1000 316 1738 [(2, 0), (2, 1), (2, 192), (0, (i : Int))] [] m (fun v _ => v = (0, 1)) := by
  obtain ⟨s1, e_s1⟩ : ∃ z, z = (xs (i + 1)).toInt := ⟨_, rfl⟩
  have b_s1 := i32_in (xs (i + 1))
  rw [← e_s1] at b_s1
  unfold in32 at b_s1
  obtain ⟨s2, e_s2⟩ : ∃ z, z = (xs (i + 2)).toInt := ⟨_, rfl⟩
  have b_s2 := i32_in (xs (i + 2))
  rw [← e_s2] at b_s2
  unfold in32 at b_s2
  obtain ⟨s3, e_s3⟩ : ∃ z, z = (xs (i + 3)).toInt := ⟨_, rfl⟩
  have b_s3 := i32_in (xs (i + 3))
  rw [← e_s3] at b_s3
  unfold in32 at b_s3
  obtain ⟨s4, e_s4⟩ : ∃ z, z = (xs (i + 4)).toInt := ⟨_, rfl⟩
  have b_s4 := i32_in (xs (i + 4))
  rw [← e_s4] at b_s4
  unfold in32 at b_s4
  obtain ⟨s5, e_s5⟩ : ∃ z, z = (xs (i + 5)).toInt := ⟨_, rfl⟩
  have b_s5 := i32_in (xs (i + 5))
  rw [← e_s5] at b_s5
  unfold in32 at b_s5
  refine gx_st (L' := [(2, 0), (2, 1), (2, 192), (0, (i : Int))]) (S' := [(2, 1)]) r_316_1738 rfl rfl rfl ?_
  obtain ⟨n, wn1, wn2, wn3, wn4, wn5, wn6, wn7⟩ := wa_pre hl.1 hl.2.1 hl.2.2.2.2.2.1
  refine gx_ci (nx := 1742) (S2 := []) (gx_ai (x_63 hT hl.1 hl.2.2.2.1 wn1) (gx_hi (args := [(2, 1)]) (pk_63 hT) ⟨gq_o1, trivial⟩ hl.1 rfl)) r_316_1739 rfl rfl rfl rfl rfl (rcv_v rfl (tk_1 hT) (by decide) rfl (by decide)) rfl (by decide) rfl (fun x1739 n1739 q1739 => ?_)
  show GX T 1000 316 1742 [(2, 0), (2, 1), (2, 192), (0, (i : Int))] [(0, x1739)] n1739 (fun v _ => v = (0, 1))
  have ex_n1739 : Ext n1739 := Ext_fr q1739.2.2.2.2 (by decide) hl.2.1
  have sc_n1739 := sc_fr q1739.2.2.2.2 (by decide) hl.2.2.1
  have pn_n1739 : PinR n1739 := PinR_fr q1739.2.2.2.2 (by decide) hl.2.2.2.1
  refine gx_st (L' := [(2, 0), (2, 1), (2, 192), (0, (i : Int))]) (S' := []) r_316_1742 rfl rfl rfl ?_
  refine gx_st (L' := [(2, 0), (2, 1), (2, 192), (0, (i : Int))]) (S' := [(2, 192)]) r_316_1743 rfl rfl rfl ?_
  refine gx_ci (nx := 1747) (S2 := []) (gx_ai (y_219 hT q1739.2.2.2.1 pn_n1739 ((q1739.2.2.2.2 193 8 rfl).trans wn2)) (gx_xi (args := [(2, 192)]) (pk_219 hT) ⟨gq_o192, trivial⟩ q1739.2.2.2.1 ex_n1739 (fun z => absurd z (by decide)) rfl)) r_316_1744 rfl rfl rfl rfl rfl (rcv_v rfl (tk_192 hT) (by decide) rfl (by decide)) rfl (by decide) rfl (fun x1744 n1744 q1744 => ?_)
  show GX T 1000 316 1747 [(2, 0), (2, 1), (2, 192), (0, (i : Int))] [(0, x1744)] n1744 (fun v _ => v = (0, 1))
  have sc_n1744 := sc_fr q1744.2.2.2.2.2.1 (by decide) sc_n1739
  have rl_n1744 : RelR n1744 := ⟨PinR_fr q1744.2.2.2.2.2.1 (by decide) (PinR_fr q1739.2.2.2.2 (by decide) hl.2.2.2.1), TBr_fr q1744.2.2.2.2.2.1 rfl rfl rfl rfl (TBr_fr q1739.2.2.2.2 rfl rfl rfl rfl hl.2.2.2.2.1), (wx_anew hl.2.2.2.2.2.1 q1739.1 q1739.2.2.2.2 (by decide) q1744.1 q1744.2.2.2.2.2.1 (by decide)).2, planx_fr q1744.2.2.2.2.2.1 (by decide) (planx_fr q1739.2.2.2.2 (by decide) hl.2.2.2.2.2.2.1), zx_2 hl.2.2.2.2.2.2.2 q1739.2.2.2.2 (by decide) q1744.2.2.2.2.2.1 rfl (ke_anew q1744.1)⟩
  refine gx_st (L' := [(2, 0), (2, 1), (2, 192), (0, (i : Int))]) (S' := []) r_316_1747 rfl rfl rfl ?_
  refine gx_st (L' := [(2, 0), (2, 1), (2, 192), (0, (i : Int))]) (S' := []) r_316_1748 rfl rfl rfl ?_
  exact hnext n1744 ⟨q1744.2.2.2.1, q1744.2.2.2.2.1, sc_n1744, rl_n1744⟩
theorem pk_57 (hT : TT T) : ConH T cn_57 := fun args m => ((all_con hT 541).1 (by decide)) cn_57 cx_57 args m
theorem pk_222 (hT : TT T) : ConX T cn_222 false false := by
  have z := ((all_con hT 933).2 (by decide)) cn_222 cx_222
  rw [show (Fl 933).2 = (false, false) by decide] at z
  exact z
theorem case_61 (hT : TT T) (h0 : T[0]? = some (100, L)) (hL : L ≤ 3072) (hi : i + 6 ≤ L) (hl : LI xs m) (hnext : ∀ m, LI xs m → GX T 1000 316 2098 [(2, 0), (2, 1), (2, 192), (0, (i : Int))] [] m (fun v _ => v = (0, 1))) : GX T 1000 316 1751 [(2, 0), (2, 1), (2, 192), (0, (i : Int))] [] m (fun v _ => v = (0, 1)) := by
  obtain ⟨s1, e_s1⟩ : ∃ z, z = (xs (i + 1)).toInt := ⟨_, rfl⟩
  have b_s1 := i32_in (xs (i + 1))
  rw [← e_s1] at b_s1
  unfold in32 at b_s1
  obtain ⟨s2, e_s2⟩ : ∃ z, z = (xs (i + 2)).toInt := ⟨_, rfl⟩
  have b_s2 := i32_in (xs (i + 2))
  rw [← e_s2] at b_s2
  unfold in32 at b_s2
  obtain ⟨s3, e_s3⟩ : ∃ z, z = (xs (i + 3)).toInt := ⟨_, rfl⟩
  have b_s3 := i32_in (xs (i + 3))
  rw [← e_s3] at b_s3
  unfold in32 at b_s3
  obtain ⟨s4, e_s4⟩ : ∃ z, z = (xs (i + 4)).toInt := ⟨_, rfl⟩
  have b_s4 := i32_in (xs (i + 4))
  rw [← e_s4] at b_s4
  unfold in32 at b_s4
  obtain ⟨s5, e_s5⟩ : ∃ z, z = (xs (i + 5)).toInt := ⟨_, rfl⟩
  have b_s5 := i32_in (xs (i + 5))
  rw [← e_s5] at b_s5
  unfold in32 at b_s5
  refine gx_st (L' := [(2, 0), (2, 1), (2, 192), (0, (i : Int))]) (S' := [(2, 1)]) r_316_1751 rfl rfl rfl ?_
  refine gx_st (L' := [(2, 0), (2, 1), (2, 192), (0, (i : Int))]) (S' := [(2, 0), (2, 1)]) r_316_1752 rfl rfl rfl ?_
  refine gx_st (L' := [(2, 0), (2, 1), (2, 192), (0, (i : Int))]) (S' := [(0, (i : Int)), (2, 0), (2, 1)]) r_316_1753 rfl rfl rfl ?_
  refine gx_st (L' := [(2, 0), (2, 1), (2, 192), (0, (i : Int))]) (S' := [(0, 1), (0, (i : Int)), (2, 0), (2, 1)]) r_316_1754 rfl rfl rfl ?_
  refine gx_ar (L' := [(2, 0), (2, 1), (2, 192), (0, (i : Int))]) (S' := [(2, 0), (2, 1)]) (t := 0) (e := w32 ((i : Int) + 1)) (z := (i : Int) + 1) r_316_1755 rfl rfl rfl (w32_eq (by omega) (by omega) (by omega)) ?_
  refine gx_ia (n := i + 1) (x := s1) r_316_1756 rfl h0 (by omega) ⟨rfl, by show i + 1 < L; omega⟩ ((hl.2.2.1 (i + 1)).trans e_s1.symm) ?_
  show GX T 1000 316 1757 [(2, 0), (2, 1), (2, 192), (0, (i : Int))] [(0, s1), (2, 1)] m (fun v _ => v = (0, 1))
  refine gx_st (L' := [(2, 0), (2, 1), (2, 192), (0, (i : Int))]) (S' := [(2, 0), (0, s1), (2, 1)]) r_316_1757 rfl rfl rfl ?_
  refine gx_st (L' := [(2, 0), (2, 1), (2, 192), (0, (i : Int))]) (S' := [(0, (i : Int)), (2, 0), (0, s1), (2, 1)]) r_316_1758 rfl rfl rfl ?_
  refine gx_st (L' := [(2, 0), (2, 1), (2, 192), (0, (i : Int))]) (S' := [(0, 2), (0, (i : Int)), (2, 0), (0, s1), (2, 1)]) r_316_1759 rfl rfl rfl ?_
  refine gx_ar (L' := [(2, 0), (2, 1), (2, 192), (0, (i : Int))]) (S' := [(2, 0), (0, s1), (2, 1)]) (t := 0) (e := w32 ((i : Int) + 2)) (z := (i : Int) + 2) r_316_1760 rfl rfl rfl (w32_eq (by omega) (by omega) (by omega)) ?_
  refine gx_ia (n := i + 2) (x := s2) r_316_1761 rfl h0 (by omega) ⟨rfl, by show i + 2 < L; omega⟩ ((hl.2.2.1 (i + 2)).trans e_s2.symm) ?_
  show GX T 1000 316 1762 [(2, 0), (2, 1), (2, 192), (0, (i : Int))] [(0, s2), (0, s1), (2, 1)] m (fun v _ => v = (0, 1))
  refine gx_ci (nx := 1765) (S2 := []) (gx_hi (args := [(2, 1), (0, s1), (0, s2)]) (pk_57 hT) ⟨gq_o1, gq_any (by omega) (by omega), gq_any (by omega) (by omega), trivial⟩ hl.1 rfl) r_316_1762 rfl rfl rfl rfl rfl (rcv_v rfl (tk_1 hT) (by decide) rfl (by decide)) rfl (by decide) rfl (fun x1762 n1762 q1762 => ?_)
  show GX T 1000 316 1765 [(2, 0), (2, 1), (2, 192), (0, (i : Int))] [(0, x1762)] n1762 (fun v _ => v = (0, 1))
  have ex_n1762 : Ext n1762 := Ext_fr q1762.2.2.2 (by decide) hl.2.1
  have sc_n1762 := sc_fr q1762.2.2.2 (by decide) hl.2.2.1
  have rl_n1762 : RelR n1762 := Rel_fr q1762.2.2.2 (by decide) (by decide) (by decide) (by decide) (by decide) (by decide) (by decide) (by decide) hl.2.2.2
  refine gx_st (L' := [(2, 0), (2, 1), (2, 192), (0, (i : Int))]) (S' := []) r_316_1765 rfl rfl rfl ?_
  refine gx_st (L' := [(2, 0), (2, 1), (2, 192), (0, (i : Int))]) (S' := [(2, 192)]) r_316_1766 rfl rfl rfl ?_
  refine gx_st (L' := [(2, 0), (2, 1), (2, 192), (0, (i : Int))]) (S' := [(2, 0), (2, 192)]) r_316_1767 rfl rfl rfl ?_
  refine gx_st (L' := [(2, 0), (2, 1), (2, 192), (0, (i : Int))]) (S' := [(0, (i : Int)), (2, 0), (2, 192)]) r_316_1768 rfl rfl rfl ?_
  refine gx_st (L' := [(2, 0), (2, 1), (2, 192), (0, (i : Int))]) (S' := [(0, 1), (0, (i : Int)), (2, 0), (2, 192)]) r_316_1769 rfl rfl rfl ?_
  refine gx_ar (L' := [(2, 0), (2, 1), (2, 192), (0, (i : Int))]) (S' := [(2, 0), (2, 192)]) (t := 0) (e := w32 ((i : Int) + 1)) (z := (i : Int) + 1) r_316_1770 rfl rfl rfl (w32_eq (by omega) (by omega) (by omega)) ?_
  refine gx_ia (n := i + 1) (x := s1) r_316_1771 rfl h0 (by omega) ⟨rfl, by show i + 1 < L; omega⟩ ((sc_n1762 (i + 1)).trans e_s1.symm) ?_
  show GX T 1000 316 1772 [(2, 0), (2, 1), (2, 192), (0, (i : Int))] [(0, s1), (2, 192)] n1762 (fun v _ => v = (0, 1))
  refine gx_st (L' := [(2, 0), (2, 1), (2, 192), (0, (i : Int))]) (S' := [(2, 0), (0, s1), (2, 192)]) r_316_1772 rfl rfl rfl ?_
  refine gx_st (L' := [(2, 0), (2, 1), (2, 192), (0, (i : Int))]) (S' := [(0, (i : Int)), (2, 0), (0, s1), (2, 192)]) r_316_1773 rfl rfl rfl ?_
  refine gx_st (L' := [(2, 0), (2, 1), (2, 192), (0, (i : Int))]) (S' := [(0, 2), (0, (i : Int)), (2, 0), (0, s1), (2, 192)]) r_316_1774 rfl rfl rfl ?_
  refine gx_ar (L' := [(2, 0), (2, 1), (2, 192), (0, (i : Int))]) (S' := [(2, 0), (0, s1), (2, 192)]) (t := 0) (e := w32 ((i : Int) + 2)) (z := (i : Int) + 2) r_316_1775 rfl rfl rfl (w32_eq (by omega) (by omega) (by omega)) ?_
  refine gx_ia (n := i + 2) (x := s2) r_316_1776 rfl h0 (by omega) ⟨rfl, by show i + 2 < L; omega⟩ ((sc_n1762 (i + 2)).trans e_s2.symm) ?_
  show GX T 1000 316 1777 [(2, 0), (2, 1), (2, 192), (0, (i : Int))] [(0, s2), (0, s1), (2, 192)] n1762 (fun v _ => v = (0, 1))
  refine gx_ci (nx := 1780) (S2 := []) (gx_xi (args := [(2, 192), (0, s1), (0, s2)]) (pk_222 hT) ⟨gq_o192, gq_any (by omega) (by omega), gq_any (by omega) (by omega), trivial⟩ q1762.2.2.1 ex_n1762 (fun z => absurd z (by decide)) rfl) r_316_1777 rfl rfl rfl rfl rfl (rcv_v rfl (tk_192 hT) (by decide) rfl (by decide)) rfl (by decide) rfl (fun x1777 n1777 q1777 => ?_)
  show GX T 1000 316 1780 [(2, 0), (2, 1), (2, 192), (0, (i : Int))] [(0, x1777)] n1777 (fun v _ => v = (0, 1))
  have sc_n1777 := sc_fr q1777.2.2.2.2.1 (by decide) sc_n1762
  have rl_n1777 : RelR n1777 := Rel_fr q1777.2.2.2.2.1 (by decide) (by decide) (by decide) (by decide) (by decide) (by decide) (by decide) (by decide) rl_n1762
  refine gx_st (L' := [(2, 0), (2, 1), (2, 192), (0, (i : Int))]) (S' := []) r_316_1780 rfl rfl rfl ?_
  refine gx_st (L' := [(2, 0), (2, 1), (2, 192), (0, (i : Int))]) (S' := []) r_316_1781 rfl rfl rfl ?_
  exact hnext n1777 ⟨q1777.2.2.1, q1777.2.2.2.1, sc_n1777, rl_n1777⟩
theorem pk_58 (hT : TT T) : ConH T cn_58 := fun args m => ((all_con hT 542).1 (by decide)) cn_58 cx_58 args m
theorem pk_223 (hT : TT T) : ConX T cn_223 false false := by
  have z := ((all_con hT 935).2 (by decide)) cn_223 cx_223
  rw [show (Fl 935).2 = (false, false) by decide] at z
  exact z
theorem case_62 (hT : TT T) (h0 : T[0]? = some (100, L)) (hL : L ≤ 3072) (hi : i + 6 ≤ L) (hl : LI xs m) (hnext : ∀ m, LI xs m → GX T 1000 316 2098 [(2, 0), (2, 1), (2, 192), (0, (i : Int))] [] m (fun v _ => v = (0, 1))) : GX T 1000 316 1784 [(2, 0), (2, 1), (2, 192), (0, (i : Int))] [] m (fun v _ => v = (0, 1)) := by
  obtain ⟨s1, e_s1⟩ : ∃ z, z = (xs (i + 1)).toInt := ⟨_, rfl⟩
  have b_s1 := i32_in (xs (i + 1))
  rw [← e_s1] at b_s1
  unfold in32 at b_s1
  obtain ⟨s2, e_s2⟩ : ∃ z, z = (xs (i + 2)).toInt := ⟨_, rfl⟩
  have b_s2 := i32_in (xs (i + 2))
  rw [← e_s2] at b_s2
  unfold in32 at b_s2
  obtain ⟨s3, e_s3⟩ : ∃ z, z = (xs (i + 3)).toInt := ⟨_, rfl⟩
  have b_s3 := i32_in (xs (i + 3))
  rw [← e_s3] at b_s3
  unfold in32 at b_s3
  obtain ⟨s4, e_s4⟩ : ∃ z, z = (xs (i + 4)).toInt := ⟨_, rfl⟩
  have b_s4 := i32_in (xs (i + 4))
  rw [← e_s4] at b_s4
  unfold in32 at b_s4
  obtain ⟨s5, e_s5⟩ : ∃ z, z = (xs (i + 5)).toInt := ⟨_, rfl⟩
  have b_s5 := i32_in (xs (i + 5))
  rw [← e_s5] at b_s5
  unfold in32 at b_s5
  refine gx_st (L' := [(2, 0), (2, 1), (2, 192), (0, (i : Int))]) (S' := [(2, 1)]) r_316_1784 rfl rfl rfl ?_
  refine gx_st (L' := [(2, 0), (2, 1), (2, 192), (0, (i : Int))]) (S' := [(2, 0), (2, 1)]) r_316_1785 rfl rfl rfl ?_
  refine gx_st (L' := [(2, 0), (2, 1), (2, 192), (0, (i : Int))]) (S' := [(0, (i : Int)), (2, 0), (2, 1)]) r_316_1786 rfl rfl rfl ?_
  refine gx_st (L' := [(2, 0), (2, 1), (2, 192), (0, (i : Int))]) (S' := [(0, 1), (0, (i : Int)), (2, 0), (2, 1)]) r_316_1787 rfl rfl rfl ?_
  refine gx_ar (L' := [(2, 0), (2, 1), (2, 192), (0, (i : Int))]) (S' := [(2, 0), (2, 1)]) (t := 0) (e := w32 ((i : Int) + 1)) (z := (i : Int) + 1) r_316_1788 rfl rfl rfl (w32_eq (by omega) (by omega) (by omega)) ?_
  refine gx_ia (n := i + 1) (x := s1) r_316_1789 rfl h0 (by omega) ⟨rfl, by show i + 1 < L; omega⟩ ((hl.2.2.1 (i + 1)).trans e_s1.symm) ?_
  show GX T 1000 316 1790 [(2, 0), (2, 1), (2, 192), (0, (i : Int))] [(0, s1), (2, 1)] m (fun v _ => v = (0, 1))
  refine gx_st (L' := [(2, 0), (2, 1), (2, 192), (0, (i : Int))]) (S' := [(2, 0), (0, s1), (2, 1)]) r_316_1790 rfl rfl rfl ?_
  refine gx_st (L' := [(2, 0), (2, 1), (2, 192), (0, (i : Int))]) (S' := [(0, (i : Int)), (2, 0), (0, s1), (2, 1)]) r_316_1791 rfl rfl rfl ?_
  refine gx_st (L' := [(2, 0), (2, 1), (2, 192), (0, (i : Int))]) (S' := [(0, 2), (0, (i : Int)), (2, 0), (0, s1), (2, 1)]) r_316_1792 rfl rfl rfl ?_
  refine gx_ar (L' := [(2, 0), (2, 1), (2, 192), (0, (i : Int))]) (S' := [(2, 0), (0, s1), (2, 1)]) (t := 0) (e := w32 ((i : Int) + 2)) (z := (i : Int) + 2) r_316_1793 rfl rfl rfl (w32_eq (by omega) (by omega) (by omega)) ?_
  refine gx_ia (n := i + 2) (x := s2) r_316_1794 rfl h0 (by omega) ⟨rfl, by show i + 2 < L; omega⟩ ((hl.2.2.1 (i + 2)).trans e_s2.symm) ?_
  show GX T 1000 316 1795 [(2, 0), (2, 1), (2, 192), (0, (i : Int))] [(0, s2), (0, s1), (2, 1)] m (fun v _ => v = (0, 1))
  refine gx_ci (nx := 1798) (S2 := []) (gx_hi (args := [(2, 1), (0, s1), (0, s2)]) (pk_58 hT) ⟨gq_o1, gq_any (by omega) (by omega), gq_any (by omega) (by omega), trivial⟩ hl.1 rfl) r_316_1795 rfl rfl rfl rfl rfl (rcv_v rfl (tk_1 hT) (by decide) rfl (by decide)) rfl (by decide) rfl (fun x1795 n1795 q1795 => ?_)
  show GX T 1000 316 1798 [(2, 0), (2, 1), (2, 192), (0, (i : Int))] [(0, x1795)] n1795 (fun v _ => v = (0, 1))
  have ex_n1795 : Ext n1795 := Ext_fr q1795.2.2.2 (by decide) hl.2.1
  have sc_n1795 := sc_fr q1795.2.2.2 (by decide) hl.2.2.1
  have rl_n1795 : RelR n1795 := Rel_fr q1795.2.2.2 (by decide) (by decide) (by decide) (by decide) (by decide) (by decide) (by decide) (by decide) hl.2.2.2
  refine gx_st (L' := [(2, 0), (2, 1), (2, 192), (0, (i : Int))]) (S' := []) r_316_1798 rfl rfl rfl ?_
  refine gx_st (L' := [(2, 0), (2, 1), (2, 192), (0, (i : Int))]) (S' := [(2, 192)]) r_316_1799 rfl rfl rfl ?_
  refine gx_st (L' := [(2, 0), (2, 1), (2, 192), (0, (i : Int))]) (S' := [(2, 0), (2, 192)]) r_316_1800 rfl rfl rfl ?_
  refine gx_st (L' := [(2, 0), (2, 1), (2, 192), (0, (i : Int))]) (S' := [(0, (i : Int)), (2, 0), (2, 192)]) r_316_1801 rfl rfl rfl ?_
  refine gx_st (L' := [(2, 0), (2, 1), (2, 192), (0, (i : Int))]) (S' := [(0, 1), (0, (i : Int)), (2, 0), (2, 192)]) r_316_1802 rfl rfl rfl ?_
  refine gx_ar (L' := [(2, 0), (2, 1), (2, 192), (0, (i : Int))]) (S' := [(2, 0), (2, 192)]) (t := 0) (e := w32 ((i : Int) + 1)) (z := (i : Int) + 1) r_316_1803 rfl rfl rfl (w32_eq (by omega) (by omega) (by omega)) ?_
  refine gx_ia (n := i + 1) (x := s1) r_316_1804 rfl h0 (by omega) ⟨rfl, by show i + 1 < L; omega⟩ ((sc_n1795 (i + 1)).trans e_s1.symm) ?_
  show GX T 1000 316 1805 [(2, 0), (2, 1), (2, 192), (0, (i : Int))] [(0, s1), (2, 192)] n1795 (fun v _ => v = (0, 1))
  refine gx_st (L' := [(2, 0), (2, 1), (2, 192), (0, (i : Int))]) (S' := [(2, 0), (0, s1), (2, 192)]) r_316_1805 rfl rfl rfl ?_
  refine gx_st (L' := [(2, 0), (2, 1), (2, 192), (0, (i : Int))]) (S' := [(0, (i : Int)), (2, 0), (0, s1), (2, 192)]) r_316_1806 rfl rfl rfl ?_
  refine gx_st (L' := [(2, 0), (2, 1), (2, 192), (0, (i : Int))]) (S' := [(0, 2), (0, (i : Int)), (2, 0), (0, s1), (2, 192)]) r_316_1807 rfl rfl rfl ?_
  refine gx_ar (L' := [(2, 0), (2, 1), (2, 192), (0, (i : Int))]) (S' := [(2, 0), (0, s1), (2, 192)]) (t := 0) (e := w32 ((i : Int) + 2)) (z := (i : Int) + 2) r_316_1808 rfl rfl rfl (w32_eq (by omega) (by omega) (by omega)) ?_
  refine gx_ia (n := i + 2) (x := s2) r_316_1809 rfl h0 (by omega) ⟨rfl, by show i + 2 < L; omega⟩ ((sc_n1795 (i + 2)).trans e_s2.symm) ?_
  show GX T 1000 316 1810 [(2, 0), (2, 1), (2, 192), (0, (i : Int))] [(0, s2), (0, s1), (2, 192)] n1795 (fun v _ => v = (0, 1))
  refine gx_ci (nx := 1813) (S2 := []) (gx_xi (args := [(2, 192), (0, s1), (0, s2)]) (pk_223 hT) ⟨gq_o192, gq_any (by omega) (by omega), gq_any (by omega) (by omega), trivial⟩ q1795.2.2.1 ex_n1795 (fun z => absurd z (by decide)) rfl) r_316_1810 rfl rfl rfl rfl rfl (rcv_v rfl (tk_192 hT) (by decide) rfl (by decide)) rfl (by decide) rfl (fun x1810 n1810 q1810 => ?_)
  show GX T 1000 316 1813 [(2, 0), (2, 1), (2, 192), (0, (i : Int))] [(0, x1810)] n1810 (fun v _ => v = (0, 1))
  have sc_n1810 := sc_fr q1810.2.2.2.2.1 (by decide) sc_n1795
  have rl_n1810 : RelR n1810 := Rel_fr q1810.2.2.2.2.1 (by decide) (by decide) (by decide) (by decide) (by decide) (by decide) (by decide) (by decide) rl_n1795
  refine gx_st (L' := [(2, 0), (2, 1), (2, 192), (0, (i : Int))]) (S' := []) r_316_1813 rfl rfl rfl ?_
  refine gx_st (L' := [(2, 0), (2, 1), (2, 192), (0, (i : Int))]) (S' := []) r_316_1814 rfl rfl rfl ?_
  exact hnext n1810 ⟨q1810.2.2.1, q1810.2.2.2.1, sc_n1810, rl_n1810⟩
theorem pk_64 (hT : TT T) : ConH T cn_64 := fun args m => ((all_con hT 557).1 (by decide)) cn_64 cx_64 args m
theorem pk_224 (hT : TT T) : ConX T cn_224 false false := by
  have z := ((all_con hT 960).2 (by decide)) cn_224 cx_224
  rw [show (Fl 960).2 = (false, false) by decide] at z
  exact z
theorem case_63 (hT : TT T) (h0 : T[0]? = some (100, L)) (hL : L ≤ 3072) (hi : i + 6 ≤ L) (hl : LI xs m) (hnext : ∀ m, LI xs m → GX T 1000 316 2098 [(2, 0), (2, 1), (2, 192), (0, (i : Int))] [] m (fun v _ => v = (0, 1))) : GX T 1000 316 1817 [(2, 0), (2, 1), (2, 192), (0, (i : Int))] [] m (fun v _ => v = (0, 1)) := by
  obtain ⟨s1, e_s1⟩ : ∃ z, z = (xs (i + 1)).toInt := ⟨_, rfl⟩
  have b_s1 := i32_in (xs (i + 1))
  rw [← e_s1] at b_s1
  unfold in32 at b_s1
  obtain ⟨s2, e_s2⟩ : ∃ z, z = (xs (i + 2)).toInt := ⟨_, rfl⟩
  have b_s2 := i32_in (xs (i + 2))
  rw [← e_s2] at b_s2
  unfold in32 at b_s2
  obtain ⟨s3, e_s3⟩ : ∃ z, z = (xs (i + 3)).toInt := ⟨_, rfl⟩
  have b_s3 := i32_in (xs (i + 3))
  rw [← e_s3] at b_s3
  unfold in32 at b_s3
  obtain ⟨s4, e_s4⟩ : ∃ z, z = (xs (i + 4)).toInt := ⟨_, rfl⟩
  have b_s4 := i32_in (xs (i + 4))
  rw [← e_s4] at b_s4
  unfold in32 at b_s4
  obtain ⟨s5, e_s5⟩ : ∃ z, z = (xs (i + 5)).toInt := ⟨_, rfl⟩
  have b_s5 := i32_in (xs (i + 5))
  rw [← e_s5] at b_s5
  unfold in32 at b_s5
  refine gx_st (L' := [(2, 0), (2, 1), (2, 192), (0, (i : Int))]) (S' := [(2, 1)]) r_316_1817 rfl rfl rfl ?_
  refine gx_st (L' := [(2, 0), (2, 1), (2, 192), (0, (i : Int))]) (S' := [(2, 0), (2, 1)]) r_316_1818 rfl rfl rfl ?_
  refine gx_st (L' := [(2, 0), (2, 1), (2, 192), (0, (i : Int))]) (S' := [(0, (i : Int)), (2, 0), (2, 1)]) r_316_1819 rfl rfl rfl ?_
  refine gx_st (L' := [(2, 0), (2, 1), (2, 192), (0, (i : Int))]) (S' := [(0, 1), (0, (i : Int)), (2, 0), (2, 1)]) r_316_1820 rfl rfl rfl ?_
  refine gx_ar (L' := [(2, 0), (2, 1), (2, 192), (0, (i : Int))]) (S' := [(2, 0), (2, 1)]) (t := 0) (e := w32 ((i : Int) + 1)) (z := (i : Int) + 1) r_316_1821 rfl rfl rfl (w32_eq (by omega) (by omega) (by omega)) ?_
  refine gx_ia (n := i + 1) (x := s1) r_316_1822 rfl h0 (by omega) ⟨rfl, by show i + 1 < L; omega⟩ ((hl.2.2.1 (i + 1)).trans e_s1.symm) ?_
  show GX T 1000 316 1823 [(2, 0), (2, 1), (2, 192), (0, (i : Int))] [(0, s1), (2, 1)] m (fun v _ => v = (0, 1))
  refine gx_st (L' := [(2, 0), (2, 1), (2, 192), (0, (i : Int))]) (S' := [(2, 0), (0, s1), (2, 1)]) r_316_1823 rfl rfl rfl ?_
  refine gx_st (L' := [(2, 0), (2, 1), (2, 192), (0, (i : Int))]) (S' := [(0, (i : Int)), (2, 0), (0, s1), (2, 1)]) r_316_1824 rfl rfl rfl ?_
  refine gx_st (L' := [(2, 0), (2, 1), (2, 192), (0, (i : Int))]) (S' := [(0, 2), (0, (i : Int)), (2, 0), (0, s1), (2, 1)]) r_316_1825 rfl rfl rfl ?_
  refine gx_ar (L' := [(2, 0), (2, 1), (2, 192), (0, (i : Int))]) (S' := [(2, 0), (0, s1), (2, 1)]) (t := 0) (e := w32 ((i : Int) + 2)) (z := (i : Int) + 2) r_316_1826 rfl rfl rfl (w32_eq (by omega) (by omega) (by omega)) ?_
  refine gx_ia (n := i + 2) (x := s2) r_316_1827 rfl h0 (by omega) ⟨rfl, by show i + 2 < L; omega⟩ ((hl.2.2.1 (i + 2)).trans e_s2.symm) ?_
  show GX T 1000 316 1828 [(2, 0), (2, 1), (2, 192), (0, (i : Int))] [(0, s2), (0, s1), (2, 1)] m (fun v _ => v = (0, 1))
  obtain ⟨n, wn1, wn2, wn3, wn4, wn5, wn6, wn7⟩ := wa_pre hl.1 hl.2.1 hl.2.2.2.2.2.1
  refine gx_ci (nx := 1831) (S2 := []) (gx_ai (gx_ai (x_64 hT hl.1 hl.2.2.2.1 wn1 s1 s2 wn7) (h_64 hT hl.1 hl.2.2.2.1 s1 s2 wn7)) (gx_hi (args := [(2, 1), (0, s1), (0, s2)]) (pk_64 hT) ⟨gq_o1, gq_any (by omega) (by omega), gq_any (by omega) (by omega), trivial⟩ hl.1 rfl)) r_316_1828 rfl rfl rfl rfl rfl (rcv_v rfl (tk_1 hT) (by decide) rfl (by decide)) rfl (by decide) rfl (fun x1828 n1828 q1828 => ?_)
  show GX T 1000 316 1831 [(2, 0), (2, 1), (2, 192), (0, (i : Int))] [(0, x1828)] n1828 (fun v _ => v = (0, 1))
  have ex_n1828 : Ext n1828 := Ext_fr q1828.2.2.2.2 (by decide) hl.2.1
  have sc_n1828 := sc_fr q1828.2.2.2.2 (by decide) hl.2.2.1
  have pn_n1828 : PinR n1828 := PinR_fr q1828.2.2.2.2 (by decide) hl.2.2.2.1
  refine gx_st (L' := [(2, 0), (2, 1), (2, 192), (0, (i : Int))]) (S' := []) r_316_1831 rfl rfl rfl ?_
  refine gx_st (L' := [(2, 0), (2, 1), (2, 192), (0, (i : Int))]) (S' := [(2, 192)]) r_316_1832 rfl rfl rfl ?_
  refine gx_st (L' := [(2, 0), (2, 1), (2, 192), (0, (i : Int))]) (S' := [(2, 0), (2, 192)]) r_316_1833 rfl rfl rfl ?_
  refine gx_st (L' := [(2, 0), (2, 1), (2, 192), (0, (i : Int))]) (S' := [(0, (i : Int)), (2, 0), (2, 192)]) r_316_1834 rfl rfl rfl ?_
  refine gx_st (L' := [(2, 0), (2, 1), (2, 192), (0, (i : Int))]) (S' := [(0, 1), (0, (i : Int)), (2, 0), (2, 192)]) r_316_1835 rfl rfl rfl ?_
  refine gx_ar (L' := [(2, 0), (2, 1), (2, 192), (0, (i : Int))]) (S' := [(2, 0), (2, 192)]) (t := 0) (e := w32 ((i : Int) + 1)) (z := (i : Int) + 1) r_316_1836 rfl rfl rfl (w32_eq (by omega) (by omega) (by omega)) ?_
  refine gx_ia (n := i + 1) (x := s1) r_316_1837 rfl h0 (by omega) ⟨rfl, by show i + 1 < L; omega⟩ ((sc_n1828 (i + 1)).trans e_s1.symm) ?_
  show GX T 1000 316 1838 [(2, 0), (2, 1), (2, 192), (0, (i : Int))] [(0, s1), (2, 192)] n1828 (fun v _ => v = (0, 1))
  refine gx_st (L' := [(2, 0), (2, 1), (2, 192), (0, (i : Int))]) (S' := [(2, 0), (0, s1), (2, 192)]) r_316_1838 rfl rfl rfl ?_
  refine gx_st (L' := [(2, 0), (2, 1), (2, 192), (0, (i : Int))]) (S' := [(0, (i : Int)), (2, 0), (0, s1), (2, 192)]) r_316_1839 rfl rfl rfl ?_
  refine gx_st (L' := [(2, 0), (2, 1), (2, 192), (0, (i : Int))]) (S' := [(0, 2), (0, (i : Int)), (2, 0), (0, s1), (2, 192)]) r_316_1840 rfl rfl rfl ?_
  refine gx_ar (L' := [(2, 0), (2, 1), (2, 192), (0, (i : Int))]) (S' := [(2, 0), (0, s1), (2, 192)]) (t := 0) (e := w32 ((i : Int) + 2)) (z := (i : Int) + 2) r_316_1841 rfl rfl rfl (w32_eq (by omega) (by omega) (by omega)) ?_
  refine gx_ia (n := i + 2) (x := s2) r_316_1842 rfl h0 (by omega) ⟨rfl, by show i + 2 < L; omega⟩ ((sc_n1828 (i + 2)).trans e_s2.symm) ?_
  show GX T 1000 316 1843 [(2, 0), (2, 1), (2, 192), (0, (i : Int))] [(0, s2), (0, s1), (2, 192)] n1828 (fun v _ => v = (0, 1))
  refine gx_ci (nx := 1846) (S2 := []) (gx_ai (y_224 hT q1828.2.2.2.1 pn_n1828 ((q1828.2.2.2.2 193 8 rfl).trans wn2) s1 s2) (gx_xi (args := [(2, 192), (0, s1), (0, s2)]) (pk_224 hT) ⟨gq_o192, gq_any (by omega) (by omega), gq_any (by omega) (by omega), trivial⟩ q1828.2.2.2.1 ex_n1828 (fun z => absurd z (by decide)) rfl)) r_316_1843 rfl rfl rfl rfl rfl (rcv_v rfl (tk_192 hT) (by decide) rfl (by decide)) rfl (by decide) rfl (fun x1843 n1843 q1843 => ?_)
  show GX T 1000 316 1846 [(2, 0), (2, 1), (2, 192), (0, (i : Int))] [(0, x1843)] n1843 (fun v _ => v = (0, 1))
  have sc_n1843 := sc_fr q1843.2.2.2.2.2.1 (by decide) sc_n1828
  have rl_n1843 : RelR n1843 := ⟨PinR_fr q1843.2.2.2.2.2.1 (by decide) (PinR_fr q1828.2.2.2.2 (by decide) hl.2.2.2.1), TBr_fr q1843.2.2.2.2.2.1 rfl rfl rfl rfl (TBr_fr q1828.2.2.2.2 rfl rfl rfl rfl hl.2.2.2.2.1), (wx_grow hl.1 hl.2.2.2.2.2.1 q1828.1.1 q1828.2.2.2.2 (by decide) q1843.1 q1843.2.2.2.2.2.1 (by decide)).2, planx_fr q1843.2.2.2.2.2.1 (by decide) (q1828.1.2 hl.2.2.2.2.2.2.1), zx_2 hl.2.2.2.2.2.2.2 q1828.2.2.2.2 (by decide) q1843.2.2.2.2.2.1 rfl (ke_grow q1843.1)⟩
  refine gx_st (L' := [(2, 0), (2, 1), (2, 192), (0, (i : Int))]) (S' := []) r_316_1846 rfl rfl rfl ?_
  refine gx_st (L' := [(2, 0), (2, 1), (2, 192), (0, (i : Int))]) (S' := []) r_316_1847 rfl rfl rfl ?_
  exact hnext n1843 ⟨q1843.2.2.2.1, q1843.2.2.2.2.1, sc_n1843, rl_n1843⟩
theorem pk_65 (hT : TT T) : ConH T cn_65 := fun args m => ((all_con hT 559).1 (by decide)) cn_65 cx_65 args m
theorem pk_225 (hT : TT T) : ConH T cn_225 := fun args m => ((all_con hT 967).1 (by decide)) cn_225 cx_225 args m
theorem case_64 (hT : TT T) (h0 : T[0]? = some (100, L)) (hL : L ≤ 3072) (hi : i + 6 ≤ L) (hl : LI xs m) (hnext : ∀ m, LI xs m → GX T 1000 316 2098 [(2, 0), (2, 1), (2, 192), (0, (i : Int))] [] m (fun v _ => v = (0, 1))) : GX T 1000 316 1850 [(2, 0), (2, 1), (2, 192), (0, (i : Int))] [] m (fun v _ => v = (0, 1)) := by
  obtain ⟨s1, e_s1⟩ : ∃ z, z = (xs (i + 1)).toInt := ⟨_, rfl⟩
  have b_s1 := i32_in (xs (i + 1))
  rw [← e_s1] at b_s1
  unfold in32 at b_s1
  obtain ⟨s2, e_s2⟩ : ∃ z, z = (xs (i + 2)).toInt := ⟨_, rfl⟩
  have b_s2 := i32_in (xs (i + 2))
  rw [← e_s2] at b_s2
  unfold in32 at b_s2
  obtain ⟨s3, e_s3⟩ : ∃ z, z = (xs (i + 3)).toInt := ⟨_, rfl⟩
  have b_s3 := i32_in (xs (i + 3))
  rw [← e_s3] at b_s3
  unfold in32 at b_s3
  obtain ⟨s4, e_s4⟩ : ∃ z, z = (xs (i + 4)).toInt := ⟨_, rfl⟩
  have b_s4 := i32_in (xs (i + 4))
  rw [← e_s4] at b_s4
  unfold in32 at b_s4
  obtain ⟨s5, e_s5⟩ : ∃ z, z = (xs (i + 5)).toInt := ⟨_, rfl⟩
  have b_s5 := i32_in (xs (i + 5))
  rw [← e_s5] at b_s5
  unfold in32 at b_s5
  refine gx_st (L' := [(2, 0), (2, 1), (2, 192), (0, (i : Int))]) (S' := [(2, 1)]) r_316_1850 rfl rfl rfl ?_
  refine gx_st (L' := [(2, 0), (2, 1), (2, 192), (0, (i : Int))]) (S' := [(2, 0), (2, 1)]) r_316_1851 rfl rfl rfl ?_
  refine gx_st (L' := [(2, 0), (2, 1), (2, 192), (0, (i : Int))]) (S' := [(0, (i : Int)), (2, 0), (2, 1)]) r_316_1852 rfl rfl rfl ?_
  refine gx_st (L' := [(2, 0), (2, 1), (2, 192), (0, (i : Int))]) (S' := [(0, 1), (0, (i : Int)), (2, 0), (2, 1)]) r_316_1853 rfl rfl rfl ?_
  refine gx_ar (L' := [(2, 0), (2, 1), (2, 192), (0, (i : Int))]) (S' := [(2, 0), (2, 1)]) (t := 0) (e := w32 ((i : Int) + 1)) (z := (i : Int) + 1) r_316_1854 rfl rfl rfl (w32_eq (by omega) (by omega) (by omega)) ?_
  refine gx_ia (n := i + 1) (x := s1) r_316_1855 rfl h0 (by omega) ⟨rfl, by show i + 1 < L; omega⟩ ((hl.2.2.1 (i + 1)).trans e_s1.symm) ?_
  show GX T 1000 316 1856 [(2, 0), (2, 1), (2, 192), (0, (i : Int))] [(0, s1), (2, 1)] m (fun v _ => v = (0, 1))
  refine gx_ci (nx := 1859) (S2 := []) (gx_hi (args := [(2, 1), (0, s1)]) (pk_65 hT) ⟨gq_o1, gq_any (by omega) (by omega), trivial⟩ hl.1 rfl) r_316_1856 rfl rfl rfl rfl rfl (rcv_v rfl (tk_1 hT) (by decide) rfl (by decide)) rfl (by decide) rfl (fun x1856 n1856 q1856 => ?_)
  show GX T 1000 316 1859 [(2, 0), (2, 1), (2, 192), (0, (i : Int))] [(0, x1856)] n1856 (fun v _ => v = (0, 1))
  have ex_n1856 : Ext n1856 := Ext_fr q1856.2.2.2 (by decide) hl.2.1
  have sc_n1856 := sc_fr q1856.2.2.2 (by decide) hl.2.2.1
  have rl_n1856 : RelR n1856 := Rel_fr q1856.2.2.2 (by decide) (by decide) (by decide) (by decide) (by decide) (by decide) (by decide) (by decide) hl.2.2.2
  refine gx_st (L' := [(2, 0), (2, 1), (2, 192), (0, (i : Int))]) (S' := []) r_316_1859 rfl rfl rfl ?_
  refine gx_st (L' := [(2, 0), (2, 1), (2, 192), (0, (i : Int))]) (S' := [(2, 192)]) r_316_1860 rfl rfl rfl ?_
  refine gx_st (L' := [(2, 0), (2, 1), (2, 192), (0, (i : Int))]) (S' := [(2, 0), (2, 192)]) r_316_1861 rfl rfl rfl ?_
  refine gx_st (L' := [(2, 0), (2, 1), (2, 192), (0, (i : Int))]) (S' := [(0, (i : Int)), (2, 0), (2, 192)]) r_316_1862 rfl rfl rfl ?_
  refine gx_st (L' := [(2, 0), (2, 1), (2, 192), (0, (i : Int))]) (S' := [(0, 1), (0, (i : Int)), (2, 0), (2, 192)]) r_316_1863 rfl rfl rfl ?_
  refine gx_ar (L' := [(2, 0), (2, 1), (2, 192), (0, (i : Int))]) (S' := [(2, 0), (2, 192)]) (t := 0) (e := w32 ((i : Int) + 1)) (z := (i : Int) + 1) r_316_1864 rfl rfl rfl (w32_eq (by omega) (by omega) (by omega)) ?_
  refine gx_ia (n := i + 1) (x := s1) r_316_1865 rfl h0 (by omega) ⟨rfl, by show i + 1 < L; omega⟩ ((sc_n1856 (i + 1)).trans e_s1.symm) ?_
  show GX T 1000 316 1866 [(2, 0), (2, 1), (2, 192), (0, (i : Int))] [(0, s1), (2, 192)] n1856 (fun v _ => v = (0, 1))
  refine gx_ci (nx := 1869) (S2 := []) (gx_hi (args := [(2, 192), (0, s1)]) (pk_225 hT) ⟨gq_o192, gq_any (by omega) (by omega), trivial⟩ q1856.2.2.1 rfl) r_316_1866 rfl rfl rfl rfl rfl (rcv_v rfl (tk_192 hT) (by decide) rfl (by decide)) rfl (by decide) rfl (fun x1866 n1866 q1866 => ?_)
  show GX T 1000 316 1869 [(2, 0), (2, 1), (2, 192), (0, (i : Int))] [(0, x1866)] n1866 (fun v _ => v = (0, 1))
  have ex_n1866 : Ext n1866 := Ext_fr q1866.2.2.2 (by decide) ex_n1856
  have sc_n1866 := sc_fr q1866.2.2.2 (by decide) sc_n1856
  have rl_n1866 : RelR n1866 := Rel_fr q1866.2.2.2 (by decide) (by decide) (by decide) (by decide) (by decide) (by decide) (by decide) (by decide) rl_n1856
  refine gx_st (L' := [(2, 0), (2, 1), (2, 192), (0, (i : Int))]) (S' := []) r_316_1869 rfl rfl rfl ?_
  refine gx_st (L' := [(2, 0), (2, 1), (2, 192), (0, (i : Int))]) (S' := []) r_316_1870 rfl rfl rfl ?_
  exact hnext n1866 ⟨q1866.2.2.1, ex_n1866, sc_n1866, rl_n1866⟩
theorem pk_66 (hT : TT T) : ConH T cn_66 := fun args m => ((all_con hT 578).1 (by decide)) cn_66 cx_66 args m
theorem pk_88 (hT : TT T) : ConX T cn_88 false false := by
  have z := ((all_con hT 968).2 (by decide)) cn_88 cx_88
  rw [show (Fl 968).2 = (false, false) by decide] at z
  exact z
theorem case_65 (hT : TT T) (h0 : T[0]? = some (100, L)) (hL : L ≤ 3072) (hi : i + 6 ≤ L) (hl : LI xs m) (hnext : ∀ m, LI xs m → GX T 1000 316 2098 [(2, 0), (2, 1), (2, 192), (0, (i : Int))] [] m (fun v _ => v = (0, 1))) : GX T 1000 316 1873 [(2, 0), (2, 1), (2, 192), (0, (i : Int))] [] m (fun v _ => v = (0, 1)) := by
  obtain ⟨s1, e_s1⟩ : ∃ z, z = (xs (i + 1)).toInt := ⟨_, rfl⟩
  have b_s1 := i32_in (xs (i + 1))
  rw [← e_s1] at b_s1
  unfold in32 at b_s1
  obtain ⟨s2, e_s2⟩ : ∃ z, z = (xs (i + 2)).toInt := ⟨_, rfl⟩
  have b_s2 := i32_in (xs (i + 2))
  rw [← e_s2] at b_s2
  unfold in32 at b_s2
  obtain ⟨s3, e_s3⟩ : ∃ z, z = (xs (i + 3)).toInt := ⟨_, rfl⟩
  have b_s3 := i32_in (xs (i + 3))
  rw [← e_s3] at b_s3
  unfold in32 at b_s3
  obtain ⟨s4, e_s4⟩ : ∃ z, z = (xs (i + 4)).toInt := ⟨_, rfl⟩
  have b_s4 := i32_in (xs (i + 4))
  rw [← e_s4] at b_s4
  unfold in32 at b_s4
  obtain ⟨s5, e_s5⟩ : ∃ z, z = (xs (i + 5)).toInt := ⟨_, rfl⟩
  have b_s5 := i32_in (xs (i + 5))
  rw [← e_s5] at b_s5
  unfold in32 at b_s5
  refine gx_st (L' := [(2, 0), (2, 1), (2, 192), (0, (i : Int))]) (S' := [(2, 1)]) r_316_1873 rfl rfl rfl ?_
  refine gx_st (L' := [(2, 0), (2, 1), (2, 192), (0, (i : Int))]) (S' := [(2, 0), (2, 1)]) r_316_1874 rfl rfl rfl ?_
  refine gx_st (L' := [(2, 0), (2, 1), (2, 192), (0, (i : Int))]) (S' := [(0, (i : Int)), (2, 0), (2, 1)]) r_316_1875 rfl rfl rfl ?_
  refine gx_st (L' := [(2, 0), (2, 1), (2, 192), (0, (i : Int))]) (S' := [(0, 1), (0, (i : Int)), (2, 0), (2, 1)]) r_316_1876 rfl rfl rfl ?_
  refine gx_ar (L' := [(2, 0), (2, 1), (2, 192), (0, (i : Int))]) (S' := [(2, 0), (2, 1)]) (t := 0) (e := w32 ((i : Int) + 1)) (z := (i : Int) + 1) r_316_1877 rfl rfl rfl (w32_eq (by omega) (by omega) (by omega)) ?_
  refine gx_ia (n := i + 1) (x := s1) r_316_1878 rfl h0 (by omega) ⟨rfl, by show i + 1 < L; omega⟩ ((hl.2.2.1 (i + 1)).trans e_s1.symm) ?_
  show GX T 1000 316 1879 [(2, 0), (2, 1), (2, 192), (0, (i : Int))] [(0, s1), (2, 1)] m (fun v _ => v = (0, 1))
  refine gx_ci (nx := 1882) (S2 := []) (gx_ai (z_66 hT hl.1 hl.2.2.2.1 s1) (gx_hi (args := [(2, 1), (0, s1)]) (pk_66 hT) ⟨gq_o1, gq_any (by omega) (by omega), trivial⟩ hl.1 rfl)) r_316_1879 rfl rfl rfl rfl rfl (rcv_v rfl (tk_1 hT) (by decide) rfl (by decide)) rfl (by decide) rfl (fun x1879 n1879 q1879 => ?_)
  show GX T 1000 316 1882 [(2, 0), (2, 1), (2, 192), (0, (i : Int))] [(0, x1879)] n1879 (fun v _ => v = (0, 1))
  have ex_n1879 : Ext n1879 := Ext_fr q1879.2.2.2.2 (by decide) hl.2.1
  have sc_n1879 := sc_fr q1879.2.2.2.2 (by decide) hl.2.2.1
  have pn_n1879 : PinR n1879 := PinR_fr q1879.2.2.2.2 (by decide) hl.2.2.2.1
  refine gx_st (L' := [(2, 0), (2, 1), (2, 192), (0, (i : Int))]) (S' := []) r_316_1882 rfl rfl rfl ?_
  refine gx_st (L' := [(2, 0), (2, 1), (2, 192), (0, (i : Int))]) (S' := [(2, 192)]) r_316_1883 rfl rfl rfl ?_
  refine gx_st (L' := [(2, 0), (2, 1), (2, 192), (0, (i : Int))]) (S' := [(2, 0), (2, 192)]) r_316_1884 rfl rfl rfl ?_
  refine gx_st (L' := [(2, 0), (2, 1), (2, 192), (0, (i : Int))]) (S' := [(0, (i : Int)), (2, 0), (2, 192)]) r_316_1885 rfl rfl rfl ?_
  refine gx_st (L' := [(2, 0), (2, 1), (2, 192), (0, (i : Int))]) (S' := [(0, 1), (0, (i : Int)), (2, 0), (2, 192)]) r_316_1886 rfl rfl rfl ?_
  refine gx_ar (L' := [(2, 0), (2, 1), (2, 192), (0, (i : Int))]) (S' := [(2, 0), (2, 192)]) (t := 0) (e := w32 ((i : Int) + 1)) (z := (i : Int) + 1) r_316_1887 rfl rfl rfl (w32_eq (by omega) (by omega) (by omega)) ?_
  refine gx_ia (n := i + 1) (x := s1) r_316_1888 rfl h0 (by omega) ⟨rfl, by show i + 1 < L; omega⟩ ((sc_n1879 (i + 1)).trans e_s1.symm) ?_
  show GX T 1000 316 1889 [(2, 0), (2, 1), (2, 192), (0, (i : Int))] [(0, s1), (2, 192)] n1879 (fun v _ => v = (0, 1))
  refine gx_ci (nx := 1892) (S2 := []) (gx_ai (y_88 hT q1879.2.2.2.1 pn_n1879 s1) (gx_xi (args := [(2, 192), (0, s1)]) (pk_88 hT) ⟨gq_o192, gq_any (by omega) (by omega), trivial⟩ q1879.2.2.2.1 ex_n1879 (fun z => absurd z (by decide)) rfl)) r_316_1889 rfl rfl rfl rfl rfl (rcv_v rfl (tk_192 hT) (by decide) rfl (by decide)) rfl (by decide) rfl (fun x1889 n1889 q1889 => ?_)
  show GX T 1000 316 1892 [(2, 0), (2, 1), (2, 192), (0, (i : Int))] [(0, x1889)] n1889 (fun v _ => v = (0, 1))
  have sc_n1889 := sc_fr q1889.2.2.2.2.2.1 (by decide) sc_n1879
  have rl_n1889 : RelR n1889 := ⟨PinR_fr q1889.2.2.2.2.2.1 (by decide) (PinR_fr q1879.2.2.2.2 (by decide) hl.2.2.2.1), TBr_fr q1889.2.2.2.2.2.1 rfl rfl rfl rfl (TBr_fr q1879.2.2.2.2 rfl rfl rfl rfl hl.2.2.2.2.1), wx_image hl.2.2.2.2.2.1 q1879.1 q1889.1 q1889.2.2.2.2.2.1 (by decide), planx_fr q1889.2.2.2.2.2.1 (by decide) (planx_fr q1879.2.2.2.2 (by decide) hl.2.2.2.2.2.2.1), zx_image hl.2.2.2.2.2.2.2 q1879.2.2.2.2 (by decide) q1889.2.2.2.2.2.1 rfl q1889.1⟩
  refine gx_st (L' := [(2, 0), (2, 1), (2, 192), (0, (i : Int))]) (S' := []) r_316_1892 rfl rfl rfl ?_
  refine gx_st (L' := [(2, 0), (2, 1), (2, 192), (0, (i : Int))]) (S' := []) r_316_1893 rfl rfl rfl ?_
  exact hnext n1889 ⟨q1889.2.2.2.1, q1889.2.2.2.2.1, sc_n1889, rl_n1889⟩
theorem pk_67 (hT : TT T) : ConH T cn_67 := fun args m => ((all_con hT 594).1 (by decide)) cn_67 cx_67 args m
theorem pk_89 (hT : TT T) : ConX T cn_89 false false := by
  have z := ((all_con hT 969).2 (by decide)) cn_89 cx_89
  rw [show (Fl 969).2 = (false, false) by decide] at z
  exact z
theorem case_66 (hT : TT T) (h0 : T[0]? = some (100, L)) (hL : L ≤ 3072) (hi : i + 6 ≤ L) (hl : LI xs m) (hnext : ∀ m, LI xs m → GX T 1000 316 2098 [(2, 0), (2, 1), (2, 192), (0, (i : Int))] [] m (fun v _ => v = (0, 1))) : GX T 1000 316 1896 [(2, 0), (2, 1), (2, 192), (0, (i : Int))] [] m (fun v _ => v = (0, 1)) := by
  obtain ⟨s1, e_s1⟩ : ∃ z, z = (xs (i + 1)).toInt := ⟨_, rfl⟩
  have b_s1 := i32_in (xs (i + 1))
  rw [← e_s1] at b_s1
  unfold in32 at b_s1
  obtain ⟨s2, e_s2⟩ : ∃ z, z = (xs (i + 2)).toInt := ⟨_, rfl⟩
  have b_s2 := i32_in (xs (i + 2))
  rw [← e_s2] at b_s2
  unfold in32 at b_s2
  obtain ⟨s3, e_s3⟩ : ∃ z, z = (xs (i + 3)).toInt := ⟨_, rfl⟩
  have b_s3 := i32_in (xs (i + 3))
  rw [← e_s3] at b_s3
  unfold in32 at b_s3
  obtain ⟨s4, e_s4⟩ : ∃ z, z = (xs (i + 4)).toInt := ⟨_, rfl⟩
  have b_s4 := i32_in (xs (i + 4))
  rw [← e_s4] at b_s4
  unfold in32 at b_s4
  obtain ⟨s5, e_s5⟩ : ∃ z, z = (xs (i + 5)).toInt := ⟨_, rfl⟩
  have b_s5 := i32_in (xs (i + 5))
  rw [← e_s5] at b_s5
  unfold in32 at b_s5
  refine gx_st (L' := [(2, 0), (2, 1), (2, 192), (0, (i : Int))]) (S' := [(2, 1)]) r_316_1896 rfl rfl rfl ?_
  refine gx_st (L' := [(2, 0), (2, 1), (2, 192), (0, (i : Int))]) (S' := [(2, 0), (2, 1)]) r_316_1897 rfl rfl rfl ?_
  refine gx_st (L' := [(2, 0), (2, 1), (2, 192), (0, (i : Int))]) (S' := [(0, (i : Int)), (2, 0), (2, 1)]) r_316_1898 rfl rfl rfl ?_
  refine gx_st (L' := [(2, 0), (2, 1), (2, 192), (0, (i : Int))]) (S' := [(0, 1), (0, (i : Int)), (2, 0), (2, 1)]) r_316_1899 rfl rfl rfl ?_
  refine gx_ar (L' := [(2, 0), (2, 1), (2, 192), (0, (i : Int))]) (S' := [(2, 0), (2, 1)]) (t := 0) (e := w32 ((i : Int) + 1)) (z := (i : Int) + 1) r_316_1900 rfl rfl rfl (w32_eq (by omega) (by omega) (by omega)) ?_
  refine gx_ia (n := i + 1) (x := s1) r_316_1901 rfl h0 (by omega) ⟨rfl, by show i + 1 < L; omega⟩ ((hl.2.2.1 (i + 1)).trans e_s1.symm) ?_
  show GX T 1000 316 1902 [(2, 0), (2, 1), (2, 192), (0, (i : Int))] [(0, s1), (2, 1)] m (fun v _ => v = (0, 1))
  refine gx_ci (nx := 1905) (S2 := []) (gx_ai (gx_ai (z_67 hT hl.1 hl.2.2.2.1 s1) (h_67 hT hl.1 hl.2.2.2.1 s1)) (gx_hi (args := [(2, 1), (0, s1)]) (pk_67 hT) ⟨gq_o1, gq_any (by omega) (by omega), trivial⟩ hl.1 rfl)) r_316_1902 rfl rfl rfl rfl rfl (rcv_v rfl (tk_1 hT) (by decide) rfl (by decide)) rfl (by decide) rfl (fun x1902 n1902 q1902 => ?_)
  show GX T 1000 316 1905 [(2, 0), (2, 1), (2, 192), (0, (i : Int))] [(0, x1902)] n1902 (fun v _ => v = (0, 1))
  have ex_n1902 : Ext n1902 := Ext_fr q1902.2.2.2.2 (by decide) hl.2.1
  have sc_n1902 := sc_fr q1902.2.2.2.2 (by decide) hl.2.2.1
  have pn_n1902 : PinR n1902 := PinR_fr q1902.2.2.2.2 (by decide) hl.2.2.2.1
  refine gx_st (L' := [(2, 0), (2, 1), (2, 192), (0, (i : Int))]) (S' := []) r_316_1905 rfl rfl rfl ?_
  refine gx_st (L' := [(2, 0), (2, 1), (2, 192), (0, (i : Int))]) (S' := [(2, 192)]) r_316_1906 rfl rfl rfl ?_
  refine gx_st (L' := [(2, 0), (2, 1), (2, 192), (0, (i : Int))]) (S' := [(2, 0), (2, 192)]) r_316_1907 rfl rfl rfl ?_
  refine gx_st (L' := [(2, 0), (2, 1), (2, 192), (0, (i : Int))]) (S' := [(0, (i : Int)), (2, 0), (2, 192)]) r_316_1908 rfl rfl rfl ?_
  refine gx_st (L' := [(2, 0), (2, 1), (2, 192), (0, (i : Int))]) (S' := [(0, 1), (0, (i : Int)), (2, 0), (2, 192)]) r_316_1909 rfl rfl rfl ?_
  refine gx_ar (L' := [(2, 0), (2, 1), (2, 192), (0, (i : Int))]) (S' := [(2, 0), (2, 192)]) (t := 0) (e := w32 ((i : Int) + 1)) (z := (i : Int) + 1) r_316_1910 rfl rfl rfl (w32_eq (by omega) (by omega) (by omega)) ?_
  refine gx_ia (n := i + 1) (x := s1) r_316_1911 rfl h0 (by omega) ⟨rfl, by show i + 1 < L; omega⟩ ((sc_n1902 (i + 1)).trans e_s1.symm) ?_
  show GX T 1000 316 1912 [(2, 0), (2, 1), (2, 192), (0, (i : Int))] [(0, s1), (2, 192)] n1902 (fun v _ => v = (0, 1))
  refine gx_ci (nx := 1915) (S2 := []) (gx_ai (y_89 hT q1902.2.2.2.1 pn_n1902 s1) (gx_xi (args := [(2, 192), (0, s1)]) (pk_89 hT) ⟨gq_o192, gq_any (by omega) (by omega), trivial⟩ q1902.2.2.2.1 ex_n1902 (fun z => absurd z (by decide)) rfl)) r_316_1912 rfl rfl rfl rfl rfl (rcv_v rfl (tk_192 hT) (by decide) rfl (by decide)) rfl (by decide) rfl (fun x1912 n1912 q1912 => ?_)
  show GX T 1000 316 1915 [(2, 0), (2, 1), (2, 192), (0, (i : Int))] [(0, x1912)] n1912 (fun v _ => v = (0, 1))
  have sc_n1912 := sc_fr q1912.2.2.2.2.2.1 (by decide) sc_n1902
  have rl_n1912 : RelR n1912 := ⟨PinR_fr q1912.2.2.2.2.2.1 (by decide) (PinR_fr q1902.2.2.2.2 (by decide) hl.2.2.2.1), TBr_fr q1912.2.2.2.2.2.1 rfl rfl rfl rfl (TBr_fr q1902.2.2.2.2 rfl rfl rfl rfl hl.2.2.2.2.1), wx_back hl.2.2.2.2.2.1 q1902.1.1 q1902.2.2.2.2 (by decide) q1912.1 q1912.2.2.2.2.2.1 (by decide), planx_fr q1912.2.2.2.2.2.1 (by decide) (q1902.1.2 hl.2.2.2.2.2.2.1), zx_back hl.2.2.2.2.2.2.2 q1902.2.2.2.2 (by decide) q1912.2.2.2.2.2.1 rfl q1912.1⟩
  refine gx_st (L' := [(2, 0), (2, 1), (2, 192), (0, (i : Int))]) (S' := []) r_316_1915 rfl rfl rfl ?_
  refine gx_st (L' := [(2, 0), (2, 1), (2, 192), (0, (i : Int))]) (S' := []) r_316_1916 rfl rfl rfl ?_
  exact hnext n1912 ⟨q1912.2.2.2.1, q1912.2.2.2.2.1, sc_n1912, rl_n1912⟩
theorem pk_68 (hT : TT T) : ConH T cn_68 := fun args m => ((all_con hT 609).1 (by decide)) cn_68 cx_68 args m
theorem pk_228 (hT : TT T) : ConH T cn_228 := fun args m => ((all_con hT 1015).1 (by decide)) cn_228 cx_228 args m
theorem case_67 (hT : TT T) (h0 : T[0]? = some (100, L)) (hL : L ≤ 3072) (hi : i + 6 ≤ L) (hl : LI xs m) (hnext : ∀ m, LI xs m → GX T 1000 316 2098 [(2, 0), (2, 1), (2, 192), (0, (i : Int))] [] m (fun v _ => v = (0, 1))) : GX T 1000 316 1919 [(2, 0), (2, 1), (2, 192), (0, (i : Int))] [] m (fun v _ => v = (0, 1)) := by
  obtain ⟨s1, e_s1⟩ : ∃ z, z = (xs (i + 1)).toInt := ⟨_, rfl⟩
  have b_s1 := i32_in (xs (i + 1))
  rw [← e_s1] at b_s1
  unfold in32 at b_s1
  obtain ⟨s2, e_s2⟩ : ∃ z, z = (xs (i + 2)).toInt := ⟨_, rfl⟩
  have b_s2 := i32_in (xs (i + 2))
  rw [← e_s2] at b_s2
  unfold in32 at b_s2
  obtain ⟨s3, e_s3⟩ : ∃ z, z = (xs (i + 3)).toInt := ⟨_, rfl⟩
  have b_s3 := i32_in (xs (i + 3))
  rw [← e_s3] at b_s3
  unfold in32 at b_s3
  obtain ⟨s4, e_s4⟩ : ∃ z, z = (xs (i + 4)).toInt := ⟨_, rfl⟩
  have b_s4 := i32_in (xs (i + 4))
  rw [← e_s4] at b_s4
  unfold in32 at b_s4
  obtain ⟨s5, e_s5⟩ : ∃ z, z = (xs (i + 5)).toInt := ⟨_, rfl⟩
  have b_s5 := i32_in (xs (i + 5))
  rw [← e_s5] at b_s5
  unfold in32 at b_s5
  refine gx_st (L' := [(2, 0), (2, 1), (2, 192), (0, (i : Int))]) (S' := [(2, 1)]) r_316_1919 rfl rfl rfl ?_
  refine gx_st (L' := [(2, 0), (2, 1), (2, 192), (0, (i : Int))]) (S' := [(2, 0), (2, 1)]) r_316_1920 rfl rfl rfl ?_
  refine gx_st (L' := [(2, 0), (2, 1), (2, 192), (0, (i : Int))]) (S' := [(0, (i : Int)), (2, 0), (2, 1)]) r_316_1921 rfl rfl rfl ?_
  refine gx_st (L' := [(2, 0), (2, 1), (2, 192), (0, (i : Int))]) (S' := [(0, 1), (0, (i : Int)), (2, 0), (2, 1)]) r_316_1922 rfl rfl rfl ?_
  refine gx_ar (L' := [(2, 0), (2, 1), (2, 192), (0, (i : Int))]) (S' := [(2, 0), (2, 1)]) (t := 0) (e := w32 ((i : Int) + 1)) (z := (i : Int) + 1) r_316_1923 rfl rfl rfl (w32_eq (by omega) (by omega) (by omega)) ?_
  refine gx_ia (n := i + 1) (x := s1) r_316_1924 rfl h0 (by omega) ⟨rfl, by show i + 1 < L; omega⟩ ((hl.2.2.1 (i + 1)).trans e_s1.symm) ?_
  show GX T 1000 316 1925 [(2, 0), (2, 1), (2, 192), (0, (i : Int))] [(0, s1), (2, 1)] m (fun v _ => v = (0, 1))
  refine gx_st (L' := [(2, 0), (2, 1), (2, 192), (0, (i : Int))]) (S' := [(2, 0), (0, s1), (2, 1)]) r_316_1925 rfl rfl rfl ?_
  refine gx_st (L' := [(2, 0), (2, 1), (2, 192), (0, (i : Int))]) (S' := [(0, (i : Int)), (2, 0), (0, s1), (2, 1)]) r_316_1926 rfl rfl rfl ?_
  refine gx_st (L' := [(2, 0), (2, 1), (2, 192), (0, (i : Int))]) (S' := [(0, 2), (0, (i : Int)), (2, 0), (0, s1), (2, 1)]) r_316_1927 rfl rfl rfl ?_
  refine gx_ar (L' := [(2, 0), (2, 1), (2, 192), (0, (i : Int))]) (S' := [(2, 0), (0, s1), (2, 1)]) (t := 0) (e := w32 ((i : Int) + 2)) (z := (i : Int) + 2) r_316_1928 rfl rfl rfl (w32_eq (by omega) (by omega) (by omega)) ?_
  refine gx_ia (n := i + 2) (x := s2) r_316_1929 rfl h0 (by omega) ⟨rfl, by show i + 2 < L; omega⟩ ((hl.2.2.1 (i + 2)).trans e_s2.symm) ?_
  show GX T 1000 316 1930 [(2, 0), (2, 1), (2, 192), (0, (i : Int))] [(0, s2), (0, s1), (2, 1)] m (fun v _ => v = (0, 1))
  refine gx_st (L' := [(2, 0), (2, 1), (2, 192), (0, (i : Int))]) (S' := [(2, 0), (0, s2), (0, s1), (2, 1)]) r_316_1930 rfl rfl rfl ?_
  refine gx_st (L' := [(2, 0), (2, 1), (2, 192), (0, (i : Int))]) (S' := [(0, (i : Int)), (2, 0), (0, s2), (0, s1), (2, 1)]) r_316_1931 rfl rfl rfl ?_
  refine gx_st (L' := [(2, 0), (2, 1), (2, 192), (0, (i : Int))]) (S' := [(0, 3), (0, (i : Int)), (2, 0), (0, s2), (0, s1), (2, 1)]) r_316_1932 rfl rfl rfl ?_
  refine gx_ar (L' := [(2, 0), (2, 1), (2, 192), (0, (i : Int))]) (S' := [(2, 0), (0, s2), (0, s1), (2, 1)]) (t := 0) (e := w32 ((i : Int) + 3)) (z := (i : Int) + 3) r_316_1933 rfl rfl rfl (w32_eq (by omega) (by omega) (by omega)) ?_
  refine gx_ia (n := i + 3) (x := s3) r_316_1934 rfl h0 (by omega) ⟨rfl, by show i + 3 < L; omega⟩ ((hl.2.2.1 (i + 3)).trans e_s3.symm) ?_
  show GX T 1000 316 1935 [(2, 0), (2, 1), (2, 192), (0, (i : Int))] [(0, s3), (0, s2), (0, s1), (2, 1)] m (fun v _ => v = (0, 1))
  refine gx_ci (nx := 1938) (S2 := []) (gx_hi (args := [(2, 1), (0, s1), (0, s2), (0, s3)]) (pk_68 hT) ⟨gq_o1, gq_any (by omega) (by omega), gq_any (by omega) (by omega), gq_any (by omega) (by omega), trivial⟩ hl.1 rfl) r_316_1935 rfl rfl rfl rfl rfl (rcv_v rfl (tk_1 hT) (by decide) rfl (by decide)) rfl (by decide) rfl (fun x1935 n1935 q1935 => ?_)
  show GX T 1000 316 1938 [(2, 0), (2, 1), (2, 192), (0, (i : Int))] [(0, x1935)] n1935 (fun v _ => v = (0, 1))
  have ex_n1935 : Ext n1935 := Ext_fr q1935.2.2.2 (by decide) hl.2.1
  have sc_n1935 := sc_fr q1935.2.2.2 (by decide) hl.2.2.1
  have rl_n1935 : RelR n1935 := Rel_fr q1935.2.2.2 (by decide) (by decide) (by decide) (by decide) (by decide) (by decide) (by decide) (by decide) hl.2.2.2
  refine gx_st (L' := [(2, 0), (2, 1), (2, 192), (0, (i : Int))]) (S' := []) r_316_1938 rfl rfl rfl ?_
  refine gx_st (L' := [(2, 0), (2, 1), (2, 192), (0, (i : Int))]) (S' := [(2, 192)]) r_316_1939 rfl rfl rfl ?_
  refine gx_st (L' := [(2, 0), (2, 1), (2, 192), (0, (i : Int))]) (S' := [(2, 0), (2, 192)]) r_316_1940 rfl rfl rfl ?_
  refine gx_st (L' := [(2, 0), (2, 1), (2, 192), (0, (i : Int))]) (S' := [(0, (i : Int)), (2, 0), (2, 192)]) r_316_1941 rfl rfl rfl ?_
  refine gx_st (L' := [(2, 0), (2, 1), (2, 192), (0, (i : Int))]) (S' := [(0, 1), (0, (i : Int)), (2, 0), (2, 192)]) r_316_1942 rfl rfl rfl ?_
  refine gx_ar (L' := [(2, 0), (2, 1), (2, 192), (0, (i : Int))]) (S' := [(2, 0), (2, 192)]) (t := 0) (e := w32 ((i : Int) + 1)) (z := (i : Int) + 1) r_316_1943 rfl rfl rfl (w32_eq (by omega) (by omega) (by omega)) ?_
  refine gx_ia (n := i + 1) (x := s1) r_316_1944 rfl h0 (by omega) ⟨rfl, by show i + 1 < L; omega⟩ ((sc_n1935 (i + 1)).trans e_s1.symm) ?_
  show GX T 1000 316 1945 [(2, 0), (2, 1), (2, 192), (0, (i : Int))] [(0, s1), (2, 192)] n1935 (fun v _ => v = (0, 1))
  refine gx_st (L' := [(2, 0), (2, 1), (2, 192), (0, (i : Int))]) (S' := [(2, 0), (0, s1), (2, 192)]) r_316_1945 rfl rfl rfl ?_
  refine gx_st (L' := [(2, 0), (2, 1), (2, 192), (0, (i : Int))]) (S' := [(0, (i : Int)), (2, 0), (0, s1), (2, 192)]) r_316_1946 rfl rfl rfl ?_
  refine gx_st (L' := [(2, 0), (2, 1), (2, 192), (0, (i : Int))]) (S' := [(0, 2), (0, (i : Int)), (2, 0), (0, s1), (2, 192)]) r_316_1947 rfl rfl rfl ?_
  refine gx_ar (L' := [(2, 0), (2, 1), (2, 192), (0, (i : Int))]) (S' := [(2, 0), (0, s1), (2, 192)]) (t := 0) (e := w32 ((i : Int) + 2)) (z := (i : Int) + 2) r_316_1948 rfl rfl rfl (w32_eq (by omega) (by omega) (by omega)) ?_
  refine gx_ia (n := i + 2) (x := s2) r_316_1949 rfl h0 (by omega) ⟨rfl, by show i + 2 < L; omega⟩ ((sc_n1935 (i + 2)).trans e_s2.symm) ?_
  show GX T 1000 316 1950 [(2, 0), (2, 1), (2, 192), (0, (i : Int))] [(0, s2), (0, s1), (2, 192)] n1935 (fun v _ => v = (0, 1))
  refine gx_st (L' := [(2, 0), (2, 1), (2, 192), (0, (i : Int))]) (S' := [(2, 0), (0, s2), (0, s1), (2, 192)]) r_316_1950 rfl rfl rfl ?_
  refine gx_st (L' := [(2, 0), (2, 1), (2, 192), (0, (i : Int))]) (S' := [(0, (i : Int)), (2, 0), (0, s2), (0, s1), (2, 192)]) r_316_1951 rfl rfl rfl ?_
  refine gx_st (L' := [(2, 0), (2, 1), (2, 192), (0, (i : Int))]) (S' := [(0, 3), (0, (i : Int)), (2, 0), (0, s2), (0, s1), (2, 192)]) r_316_1952 rfl rfl rfl ?_
  refine gx_ar (L' := [(2, 0), (2, 1), (2, 192), (0, (i : Int))]) (S' := [(2, 0), (0, s2), (0, s1), (2, 192)]) (t := 0) (e := w32 ((i : Int) + 3)) (z := (i : Int) + 3) r_316_1953 rfl rfl rfl (w32_eq (by omega) (by omega) (by omega)) ?_
  refine gx_ia (n := i + 3) (x := s3) r_316_1954 rfl h0 (by omega) ⟨rfl, by show i + 3 < L; omega⟩ ((sc_n1935 (i + 3)).trans e_s3.symm) ?_
  show GX T 1000 316 1955 [(2, 0), (2, 1), (2, 192), (0, (i : Int))] [(0, s3), (0, s2), (0, s1), (2, 192)] n1935 (fun v _ => v = (0, 1))
  refine gx_ci (nx := 1958) (S2 := []) (gx_hi (args := [(2, 192), (0, s1), (0, s2), (0, s3)]) (pk_228 hT) ⟨gq_o192, gq_any (by omega) (by omega), gq_any (by omega) (by omega), gq_any (by omega) (by omega), trivial⟩ q1935.2.2.1 rfl) r_316_1955 rfl rfl rfl rfl rfl (rcv_v rfl (tk_192 hT) (by decide) rfl (by decide)) rfl (by decide) rfl (fun x1955 n1955 q1955 => ?_)
  show GX T 1000 316 1958 [(2, 0), (2, 1), (2, 192), (0, (i : Int))] [(0, x1955)] n1955 (fun v _ => v = (0, 1))
  have ex_n1955 : Ext n1955 := Ext_fr q1955.2.2.2 (by decide) ex_n1935
  have sc_n1955 := sc_fr q1955.2.2.2 (by decide) sc_n1935
  have rl_n1955 : RelR n1955 := Rel_fr q1955.2.2.2 (by decide) (by decide) (by decide) (by decide) (by decide) (by decide) (by decide) (by decide) rl_n1935
  refine gx_st (L' := [(2, 0), (2, 1), (2, 192), (0, (i : Int))]) (S' := []) r_316_1958 rfl rfl rfl ?_
  refine gx_st (L' := [(2, 0), (2, 1), (2, 192), (0, (i : Int))]) (S' := []) r_316_1959 rfl rfl rfl ?_
  exact hnext n1955 ⟨q1955.2.2.1, ex_n1955, sc_n1955, rl_n1955⟩
theorem pk_69 (hT : TT T) : ConH T cn_69 := fun args m => ((all_con hT 616).1 (by decide)) cn_69 cx_69 args m
theorem pk_229 (hT : TT T) : ConH T cn_229 := fun args m => ((all_con hT 1032).1 (by decide)) cn_229 cx_229 args m
theorem case_68 (hT : TT T) (h0 : T[0]? = some (100, L)) (hL : L ≤ 3072) (hi : i + 6 ≤ L) (hl : LI xs m) (hnext : ∀ m, LI xs m → GX T 1000 316 2098 [(2, 0), (2, 1), (2, 192), (0, (i : Int))] [] m (fun v _ => v = (0, 1))) : GX T 1000 316 1962 [(2, 0), (2, 1), (2, 192), (0, (i : Int))] [] m (fun v _ => v = (0, 1)) := by
  obtain ⟨s1, e_s1⟩ : ∃ z, z = (xs (i + 1)).toInt := ⟨_, rfl⟩
  have b_s1 := i32_in (xs (i + 1))
  rw [← e_s1] at b_s1
  unfold in32 at b_s1
  obtain ⟨s2, e_s2⟩ : ∃ z, z = (xs (i + 2)).toInt := ⟨_, rfl⟩
  have b_s2 := i32_in (xs (i + 2))
  rw [← e_s2] at b_s2
  unfold in32 at b_s2
  obtain ⟨s3, e_s3⟩ : ∃ z, z = (xs (i + 3)).toInt := ⟨_, rfl⟩
  have b_s3 := i32_in (xs (i + 3))
  rw [← e_s3] at b_s3
  unfold in32 at b_s3
  obtain ⟨s4, e_s4⟩ : ∃ z, z = (xs (i + 4)).toInt := ⟨_, rfl⟩
  have b_s4 := i32_in (xs (i + 4))
  rw [← e_s4] at b_s4
  unfold in32 at b_s4
  obtain ⟨s5, e_s5⟩ : ∃ z, z = (xs (i + 5)).toInt := ⟨_, rfl⟩
  have b_s5 := i32_in (xs (i + 5))
  rw [← e_s5] at b_s5
  unfold in32 at b_s5
  refine gx_st (L' := [(2, 0), (2, 1), (2, 192), (0, (i : Int))]) (S' := [(2, 1)]) r_316_1962 rfl rfl rfl ?_
  refine gx_st (L' := [(2, 0), (2, 1), (2, 192), (0, (i : Int))]) (S' := [(2, 0), (2, 1)]) r_316_1963 rfl rfl rfl ?_
  refine gx_st (L' := [(2, 0), (2, 1), (2, 192), (0, (i : Int))]) (S' := [(0, (i : Int)), (2, 0), (2, 1)]) r_316_1964 rfl rfl rfl ?_
  refine gx_st (L' := [(2, 0), (2, 1), (2, 192), (0, (i : Int))]) (S' := [(0, 1), (0, (i : Int)), (2, 0), (2, 1)]) r_316_1965 rfl rfl rfl ?_
  refine gx_ar (L' := [(2, 0), (2, 1), (2, 192), (0, (i : Int))]) (S' := [(2, 0), (2, 1)]) (t := 0) (e := w32 ((i : Int) + 1)) (z := (i : Int) + 1) r_316_1966 rfl rfl rfl (w32_eq (by omega) (by omega) (by omega)) ?_
  refine gx_ia (n := i + 1) (x := s1) r_316_1967 rfl h0 (by omega) ⟨rfl, by show i + 1 < L; omega⟩ ((hl.2.2.1 (i + 1)).trans e_s1.symm) ?_
  show GX T 1000 316 1968 [(2, 0), (2, 1), (2, 192), (0, (i : Int))] [(0, s1), (2, 1)] m (fun v _ => v = (0, 1))
  refine gx_st (L' := [(2, 0), (2, 1), (2, 192), (0, (i : Int))]) (S' := [(2, 0), (0, s1), (2, 1)]) r_316_1968 rfl rfl rfl ?_
  refine gx_st (L' := [(2, 0), (2, 1), (2, 192), (0, (i : Int))]) (S' := [(0, (i : Int)), (2, 0), (0, s1), (2, 1)]) r_316_1969 rfl rfl rfl ?_
  refine gx_st (L' := [(2, 0), (2, 1), (2, 192), (0, (i : Int))]) (S' := [(0, 2), (0, (i : Int)), (2, 0), (0, s1), (2, 1)]) r_316_1970 rfl rfl rfl ?_
  refine gx_ar (L' := [(2, 0), (2, 1), (2, 192), (0, (i : Int))]) (S' := [(2, 0), (0, s1), (2, 1)]) (t := 0) (e := w32 ((i : Int) + 2)) (z := (i : Int) + 2) r_316_1971 rfl rfl rfl (w32_eq (by omega) (by omega) (by omega)) ?_
  refine gx_ia (n := i + 2) (x := s2) r_316_1972 rfl h0 (by omega) ⟨rfl, by show i + 2 < L; omega⟩ ((hl.2.2.1 (i + 2)).trans e_s2.symm) ?_
  show GX T 1000 316 1973 [(2, 0), (2, 1), (2, 192), (0, (i : Int))] [(0, s2), (0, s1), (2, 1)] m (fun v _ => v = (0, 1))
  refine gx_st (L' := [(2, 0), (2, 1), (2, 192), (0, (i : Int))]) (S' := [(2, 0), (0, s2), (0, s1), (2, 1)]) r_316_1973 rfl rfl rfl ?_
  refine gx_st (L' := [(2, 0), (2, 1), (2, 192), (0, (i : Int))]) (S' := [(0, (i : Int)), (2, 0), (0, s2), (0, s1), (2, 1)]) r_316_1974 rfl rfl rfl ?_
  refine gx_st (L' := [(2, 0), (2, 1), (2, 192), (0, (i : Int))]) (S' := [(0, 3), (0, (i : Int)), (2, 0), (0, s2), (0, s1), (2, 1)]) r_316_1975 rfl rfl rfl ?_
  refine gx_ar (L' := [(2, 0), (2, 1), (2, 192), (0, (i : Int))]) (S' := [(2, 0), (0, s2), (0, s1), (2, 1)]) (t := 0) (e := w32 ((i : Int) + 3)) (z := (i : Int) + 3) r_316_1976 rfl rfl rfl (w32_eq (by omega) (by omega) (by omega)) ?_
  refine gx_ia (n := i + 3) (x := s3) r_316_1977 rfl h0 (by omega) ⟨rfl, by show i + 3 < L; omega⟩ ((hl.2.2.1 (i + 3)).trans e_s3.symm) ?_
  show GX T 1000 316 1978 [(2, 0), (2, 1), (2, 192), (0, (i : Int))] [(0, s3), (0, s2), (0, s1), (2, 1)] m (fun v _ => v = (0, 1))
  refine gx_st (L' := [(2, 0), (2, 1), (2, 192), (0, (i : Int))]) (S' := [(1, s3), (0, s2), (0, s1), (2, 1)]) r_316_1978 rfl rfl rfl ?_
  refine gx_st (L' := [(2, 0), (2, 1), (2, 192), (0, (i : Int))]) (S' := [(0, 32), (1, s3), (0, s2), (0, s1), (2, 1)]) r_316_1979 rfl rfl rfl ?_
  refine gx_st (L' := [(2, 0), (2, 1), (2, 192), (0, (i : Int))]) (S' := [(1, (lshl s3 32)), (0, s2), (0, s1), (2, 1)]) r_316_1981 rfl rfl rfl ?_
  obtain ⟨w1981, e_w1981⟩ : ∃ z, z = (lshl s3 32) := ⟨_, rfl⟩
  have b_w1981 : in64 w1981 := by rw [e_w1981]; exact i64_in _
  rw [← e_w1981]
  refine gx_st (L' := [(2, 0), (2, 1), (2, 192), (0, (i : Int))]) (S' := [(2, 0), (1, w1981), (0, s2), (0, s1), (2, 1)]) r_316_1982 rfl rfl rfl ?_
  refine gx_st (L' := [(2, 0), (2, 1), (2, 192), (0, (i : Int))]) (S' := [(0, (i : Int)), (2, 0), (1, w1981), (0, s2), (0, s1), (2, 1)]) r_316_1983 rfl rfl rfl ?_
  refine gx_st (L' := [(2, 0), (2, 1), (2, 192), (0, (i : Int))]) (S' := [(0, 4), (0, (i : Int)), (2, 0), (1, w1981), (0, s2), (0, s1), (2, 1)]) r_316_1984 rfl rfl rfl ?_
  refine gx_ar (L' := [(2, 0), (2, 1), (2, 192), (0, (i : Int))]) (S' := [(2, 0), (1, w1981), (0, s2), (0, s1), (2, 1)]) (t := 0) (e := w32 ((i : Int) + 4)) (z := (i : Int) + 4) r_316_1985 rfl rfl rfl (w32_eq (by omega) (by omega) (by omega)) ?_
  refine gx_ia (n := i + 4) (x := s4) r_316_1986 rfl h0 (by omega) ⟨rfl, by show i + 4 < L; omega⟩ ((hl.2.2.1 (i + 4)).trans e_s4.symm) ?_
  show GX T 1000 316 1987 [(2, 0), (2, 1), (2, 192), (0, (i : Int))] [(0, s4), (1, w1981), (0, s2), (0, s1), (2, 1)] m (fun v _ => v = (0, 1))
  refine gx_st (L' := [(2, 0), (2, 1), (2, 192), (0, (i : Int))]) (S' := [(1, s4), (1, w1981), (0, s2), (0, s1), (2, 1)]) r_316_1987 rfl rfl rfl ?_
  refine gx_st (L' := [(2, 0), (2, 1), (2, 192), (0, (i : Int))]) (S' := [(1, 4294967295), (1, s4), (1, w1981), (0, s2), (0, s1), (2, 1)]) r_316_1988 rfl rfl rfl ?_
  refine gx_st (L' := [(2, 0), (2, 1), (2, 192), (0, (i : Int))]) (S' := [(1, (land s4 4294967295)), (1, w1981), (0, s2), (0, s1), (2, 1)]) r_316_1991 rfl rfl rfl ?_
  obtain ⟨w1991, e_w1991⟩ : ∃ z, z = (land s4 4294967295) := ⟨_, rfl⟩
  have b_w1991 : in64 w1991 := by rw [e_w1991]; exact i64_in _
  rw [← e_w1991]
  refine gx_st (L' := [(2, 0), (2, 1), (2, 192), (0, (i : Int))]) (S' := [(1, (lor w1981 w1991)), (0, s2), (0, s1), (2, 1)]) r_316_1992 rfl rfl rfl ?_
  obtain ⟨w1992, e_w1992⟩ : ∃ z, z = (lor w1981 w1991) := ⟨_, rfl⟩
  have b_w1992 : in64 w1992 := by rw [e_w1992]; exact i64_in _
  rw [← e_w1992]
  refine gx_ci (nx := 1996) (S2 := []) (gx_hi (args := [(2, 1), (0, s1), (0, s2), (1, w1992)]) (pk_69 hT) ⟨gq_o1, gq_any (by omega) (by omega), gq_any (by omega) (by omega), q64_ok b_w1992, trivial⟩ hl.1 rfl) r_316_1993 rfl rfl rfl rfl rfl (rcv_v rfl (tk_1 hT) (by decide) rfl (by decide)) rfl (by decide) rfl (fun x1993 n1993 q1993 => ?_)
  show GX T 1000 316 1996 [(2, 0), (2, 1), (2, 192), (0, (i : Int))] [(0, x1993)] n1993 (fun v _ => v = (0, 1))
  have ex_n1993 : Ext n1993 := Ext_fr q1993.2.2.2 (by decide) hl.2.1
  have sc_n1993 := sc_fr q1993.2.2.2 (by decide) hl.2.2.1
  have rl_n1993 : RelR n1993 := Rel_fr q1993.2.2.2 (by decide) (by decide) (by decide) (by decide) (by decide) (by decide) (by decide) (by decide) hl.2.2.2
  refine gx_st (L' := [(2, 0), (2, 1), (2, 192), (0, (i : Int))]) (S' := []) r_316_1996 rfl rfl rfl ?_
  refine gx_st (L' := [(2, 0), (2, 1), (2, 192), (0, (i : Int))]) (S' := [(2, 192)]) r_316_1997 rfl rfl rfl ?_
  refine gx_st (L' := [(2, 0), (2, 1), (2, 192), (0, (i : Int))]) (S' := [(2, 0), (2, 192)]) r_316_1998 rfl rfl rfl ?_
  refine gx_st (L' := [(2, 0), (2, 1), (2, 192), (0, (i : Int))]) (S' := [(0, (i : Int)), (2, 0), (2, 192)]) r_316_1999 rfl rfl rfl ?_
  refine gx_st (L' := [(2, 0), (2, 1), (2, 192), (0, (i : Int))]) (S' := [(0, 1), (0, (i : Int)), (2, 0), (2, 192)]) r_316_2000 rfl rfl rfl ?_
  refine gx_ar (L' := [(2, 0), (2, 1), (2, 192), (0, (i : Int))]) (S' := [(2, 0), (2, 192)]) (t := 0) (e := w32 ((i : Int) + 1)) (z := (i : Int) + 1) r_316_2001 rfl rfl rfl (w32_eq (by omega) (by omega) (by omega)) ?_
  refine gx_ia (n := i + 1) (x := s1) r_316_2002 rfl h0 (by omega) ⟨rfl, by show i + 1 < L; omega⟩ ((sc_n1993 (i + 1)).trans e_s1.symm) ?_
  show GX T 1000 316 2003 [(2, 0), (2, 1), (2, 192), (0, (i : Int))] [(0, s1), (2, 192)] n1993 (fun v _ => v = (0, 1))
  refine gx_st (L' := [(2, 0), (2, 1), (2, 192), (0, (i : Int))]) (S' := [(2, 0), (0, s1), (2, 192)]) r_316_2003 rfl rfl rfl ?_
  refine gx_st (L' := [(2, 0), (2, 1), (2, 192), (0, (i : Int))]) (S' := [(0, (i : Int)), (2, 0), (0, s1), (2, 192)]) r_316_2004 rfl rfl rfl ?_
  refine gx_st (L' := [(2, 0), (2, 1), (2, 192), (0, (i : Int))]) (S' := [(0, 2), (0, (i : Int)), (2, 0), (0, s1), (2, 192)]) r_316_2005 rfl rfl rfl ?_
  refine gx_ar (L' := [(2, 0), (2, 1), (2, 192), (0, (i : Int))]) (S' := [(2, 0), (0, s1), (2, 192)]) (t := 0) (e := w32 ((i : Int) + 2)) (z := (i : Int) + 2) r_316_2006 rfl rfl rfl (w32_eq (by omega) (by omega) (by omega)) ?_
  refine gx_ia (n := i + 2) (x := s2) r_316_2007 rfl h0 (by omega) ⟨rfl, by show i + 2 < L; omega⟩ ((sc_n1993 (i + 2)).trans e_s2.symm) ?_
  show GX T 1000 316 2008 [(2, 0), (2, 1), (2, 192), (0, (i : Int))] [(0, s2), (0, s1), (2, 192)] n1993 (fun v _ => v = (0, 1))
  refine gx_st (L' := [(2, 0), (2, 1), (2, 192), (0, (i : Int))]) (S' := [(2, 0), (0, s2), (0, s1), (2, 192)]) r_316_2008 rfl rfl rfl ?_
  refine gx_st (L' := [(2, 0), (2, 1), (2, 192), (0, (i : Int))]) (S' := [(0, (i : Int)), (2, 0), (0, s2), (0, s1), (2, 192)]) r_316_2009 rfl rfl rfl ?_
  refine gx_st (L' := [(2, 0), (2, 1), (2, 192), (0, (i : Int))]) (S' := [(0, 3), (0, (i : Int)), (2, 0), (0, s2), (0, s1), (2, 192)]) r_316_2010 rfl rfl rfl ?_
  refine gx_ar (L' := [(2, 0), (2, 1), (2, 192), (0, (i : Int))]) (S' := [(2, 0), (0, s2), (0, s1), (2, 192)]) (t := 0) (e := w32 ((i : Int) + 3)) (z := (i : Int) + 3) r_316_2011 rfl rfl rfl (w32_eq (by omega) (by omega) (by omega)) ?_
  refine gx_ia (n := i + 3) (x := s3) r_316_2012 rfl h0 (by omega) ⟨rfl, by show i + 3 < L; omega⟩ ((sc_n1993 (i + 3)).trans e_s3.symm) ?_
  show GX T 1000 316 2013 [(2, 0), (2, 1), (2, 192), (0, (i : Int))] [(0, s3), (0, s2), (0, s1), (2, 192)] n1993 (fun v _ => v = (0, 1))
  refine gx_st (L' := [(2, 0), (2, 1), (2, 192), (0, (i : Int))]) (S' := [(1, s3), (0, s2), (0, s1), (2, 192)]) r_316_2013 rfl rfl rfl ?_
  refine gx_st (L' := [(2, 0), (2, 1), (2, 192), (0, (i : Int))]) (S' := [(0, 32), (1, s3), (0, s2), (0, s1), (2, 192)]) r_316_2014 rfl rfl rfl ?_
  refine gx_st (L' := [(2, 0), (2, 1), (2, 192), (0, (i : Int))]) (S' := [(1, (lshl s3 32)), (0, s2), (0, s1), (2, 192)]) r_316_2016 rfl rfl rfl ?_
  obtain ⟨w2016, e_w2016⟩ : ∃ z, z = (lshl s3 32) := ⟨_, rfl⟩
  have b_w2016 : in64 w2016 := by rw [e_w2016]; exact i64_in _
  rw [← e_w2016]
  refine gx_st (L' := [(2, 0), (2, 1), (2, 192), (0, (i : Int))]) (S' := [(2, 0), (1, w2016), (0, s2), (0, s1), (2, 192)]) r_316_2017 rfl rfl rfl ?_
  refine gx_st (L' := [(2, 0), (2, 1), (2, 192), (0, (i : Int))]) (S' := [(0, (i : Int)), (2, 0), (1, w2016), (0, s2), (0, s1), (2, 192)]) r_316_2018 rfl rfl rfl ?_
  refine gx_st (L' := [(2, 0), (2, 1), (2, 192), (0, (i : Int))]) (S' := [(0, 4), (0, (i : Int)), (2, 0), (1, w2016), (0, s2), (0, s1), (2, 192)]) r_316_2019 rfl rfl rfl ?_
  refine gx_ar (L' := [(2, 0), (2, 1), (2, 192), (0, (i : Int))]) (S' := [(2, 0), (1, w2016), (0, s2), (0, s1), (2, 192)]) (t := 0) (e := w32 ((i : Int) + 4)) (z := (i : Int) + 4) r_316_2020 rfl rfl rfl (w32_eq (by omega) (by omega) (by omega)) ?_
  refine gx_ia (n := i + 4) (x := s4) r_316_2021 rfl h0 (by omega) ⟨rfl, by show i + 4 < L; omega⟩ ((sc_n1993 (i + 4)).trans e_s4.symm) ?_
  show GX T 1000 316 2022 [(2, 0), (2, 1), (2, 192), (0, (i : Int))] [(0, s4), (1, w2016), (0, s2), (0, s1), (2, 192)] n1993 (fun v _ => v = (0, 1))
  refine gx_st (L' := [(2, 0), (2, 1), (2, 192), (0, (i : Int))]) (S' := [(1, s4), (1, w2016), (0, s2), (0, s1), (2, 192)]) r_316_2022 rfl rfl rfl ?_
  refine gx_st (L' := [(2, 0), (2, 1), (2, 192), (0, (i : Int))]) (S' := [(1, 4294967295), (1, s4), (1, w2016), (0, s2), (0, s1), (2, 192)]) r_316_2023 rfl rfl rfl ?_
  refine gx_st (L' := [(2, 0), (2, 1), (2, 192), (0, (i : Int))]) (S' := [(1, (land s4 4294967295)), (1, w2016), (0, s2), (0, s1), (2, 192)]) r_316_2026 rfl rfl rfl ?_
  obtain ⟨w2026, e_w2026⟩ : ∃ z, z = (land s4 4294967295) := ⟨_, rfl⟩
  have b_w2026 : in64 w2026 := by rw [e_w2026]; exact i64_in _
  rw [← e_w2026]
  refine gx_st (L' := [(2, 0), (2, 1), (2, 192), (0, (i : Int))]) (S' := [(1, (lor w2016 w2026)), (0, s2), (0, s1), (2, 192)]) r_316_2027 rfl rfl rfl ?_
  obtain ⟨w2027, e_w2027⟩ : ∃ z, z = (lor w2016 w2026) := ⟨_, rfl⟩
  have b_w2027 : in64 w2027 := by rw [e_w2027]; exact i64_in _
  rw [← e_w2027]
  refine gx_ci (nx := 2031) (S2 := []) (gx_hi (args := [(2, 192), (0, s1), (0, s2), (1, w2027)]) (pk_229 hT) ⟨gq_o192, gq_any (by omega) (by omega), gq_any (by omega) (by omega), q64_ok b_w2027, trivial⟩ q1993.2.2.1 rfl) r_316_2028 rfl rfl rfl rfl rfl (rcv_v rfl (tk_192 hT) (by decide) rfl (by decide)) rfl (by decide) rfl (fun x2028 n2028 q2028 => ?_)
  show GX T 1000 316 2031 [(2, 0), (2, 1), (2, 192), (0, (i : Int))] [(0, x2028)] n2028 (fun v _ => v = (0, 1))
  have ex_n2028 : Ext n2028 := Ext_fr q2028.2.2.2 (by decide) ex_n1993
  have sc_n2028 := sc_fr q2028.2.2.2 (by decide) sc_n1993
  have rl_n2028 : RelR n2028 := Rel_fr q2028.2.2.2 (by decide) (by decide) (by decide) (by decide) (by decide) (by decide) (by decide) (by decide) rl_n1993
  refine gx_st (L' := [(2, 0), (2, 1), (2, 192), (0, (i : Int))]) (S' := []) r_316_2031 rfl rfl rfl ?_
  refine gx_st (L' := [(2, 0), (2, 1), (2, 192), (0, (i : Int))]) (S' := []) r_316_2032 rfl rfl rfl ?_
  exact hnext n2028 ⟨q2028.2.2.1, ex_n2028, sc_n2028, rl_n2028⟩
theorem pk_70 (hT : TT T) : ConH T cn_70 := fun args m => ((all_con hT 617).1 (by decide)) cn_70 cx_70 args m
theorem pk_230 (hT : TT T) : ConH T cn_230 := fun args m => ((all_con hT 1033).1 (by decide)) cn_230 cx_230 args m
theorem case_69 (hT : TT T) (h0 : T[0]? = some (100, L)) (hL : L ≤ 3072) (hi : i + 6 ≤ L) (hl : LI xs m) (hnext : ∀ m, LI xs m → GX T 1000 316 2098 [(2, 0), (2, 1), (2, 192), (0, (i : Int))] [] m (fun v _ => v = (0, 1))) : GX T 1000 316 2035 [(2, 0), (2, 1), (2, 192), (0, (i : Int))] [] m (fun v _ => v = (0, 1)) := by
  obtain ⟨s1, e_s1⟩ : ∃ z, z = (xs (i + 1)).toInt := ⟨_, rfl⟩
  have b_s1 := i32_in (xs (i + 1))
  rw [← e_s1] at b_s1
  unfold in32 at b_s1
  obtain ⟨s2, e_s2⟩ : ∃ z, z = (xs (i + 2)).toInt := ⟨_, rfl⟩
  have b_s2 := i32_in (xs (i + 2))
  rw [← e_s2] at b_s2
  unfold in32 at b_s2
  obtain ⟨s3, e_s3⟩ : ∃ z, z = (xs (i + 3)).toInt := ⟨_, rfl⟩
  have b_s3 := i32_in (xs (i + 3))
  rw [← e_s3] at b_s3
  unfold in32 at b_s3
  obtain ⟨s4, e_s4⟩ : ∃ z, z = (xs (i + 4)).toInt := ⟨_, rfl⟩
  have b_s4 := i32_in (xs (i + 4))
  rw [← e_s4] at b_s4
  unfold in32 at b_s4
  obtain ⟨s5, e_s5⟩ : ∃ z, z = (xs (i + 5)).toInt := ⟨_, rfl⟩
  have b_s5 := i32_in (xs (i + 5))
  rw [← e_s5] at b_s5
  unfold in32 at b_s5
  refine gx_st (L' := [(2, 0), (2, 1), (2, 192), (0, (i : Int))]) (S' := [(2, 1)]) r_316_2035 rfl rfl rfl ?_
  refine gx_st (L' := [(2, 0), (2, 1), (2, 192), (0, (i : Int))]) (S' := [(2, 0), (2, 1)]) r_316_2036 rfl rfl rfl ?_
  refine gx_st (L' := [(2, 0), (2, 1), (2, 192), (0, (i : Int))]) (S' := [(0, (i : Int)), (2, 0), (2, 1)]) r_316_2037 rfl rfl rfl ?_
  refine gx_st (L' := [(2, 0), (2, 1), (2, 192), (0, (i : Int))]) (S' := [(0, 1), (0, (i : Int)), (2, 0), (2, 1)]) r_316_2038 rfl rfl rfl ?_
  refine gx_ar (L' := [(2, 0), (2, 1), (2, 192), (0, (i : Int))]) (S' := [(2, 0), (2, 1)]) (t := 0) (e := w32 ((i : Int) + 1)) (z := (i : Int) + 1) r_316_2039 rfl rfl rfl (w32_eq (by omega) (by omega) (by omega)) ?_
  refine gx_ia (n := i + 1) (x := s1) r_316_2040 rfl h0 (by omega) ⟨rfl, by show i + 1 < L; omega⟩ ((hl.2.2.1 (i + 1)).trans e_s1.symm) ?_
  show GX T 1000 316 2041 [(2, 0), (2, 1), (2, 192), (0, (i : Int))] [(0, s1), (2, 1)] m (fun v _ => v = (0, 1))
  refine gx_st (L' := [(2, 0), (2, 1), (2, 192), (0, (i : Int))]) (S' := [(2, 0), (0, s1), (2, 1)]) r_316_2041 rfl rfl rfl ?_
  refine gx_st (L' := [(2, 0), (2, 1), (2, 192), (0, (i : Int))]) (S' := [(0, (i : Int)), (2, 0), (0, s1), (2, 1)]) r_316_2042 rfl rfl rfl ?_
  refine gx_st (L' := [(2, 0), (2, 1), (2, 192), (0, (i : Int))]) (S' := [(0, 2), (0, (i : Int)), (2, 0), (0, s1), (2, 1)]) r_316_2043 rfl rfl rfl ?_
  refine gx_ar (L' := [(2, 0), (2, 1), (2, 192), (0, (i : Int))]) (S' := [(2, 0), (0, s1), (2, 1)]) (t := 0) (e := w32 ((i : Int) + 2)) (z := (i : Int) + 2) r_316_2044 rfl rfl rfl (w32_eq (by omega) (by omega) (by omega)) ?_
  refine gx_ia (n := i + 2) (x := s2) r_316_2045 rfl h0 (by omega) ⟨rfl, by show i + 2 < L; omega⟩ ((hl.2.2.1 (i + 2)).trans e_s2.symm) ?_
  show GX T 1000 316 2046 [(2, 0), (2, 1), (2, 192), (0, (i : Int))] [(0, s2), (0, s1), (2, 1)] m (fun v _ => v = (0, 1))
  refine gx_st (L' := [(2, 0), (2, 1), (2, 192), (0, (i : Int))]) (S' := [(2, 0), (0, s2), (0, s1), (2, 1)]) r_316_2046 rfl rfl rfl ?_
  refine gx_st (L' := [(2, 0), (2, 1), (2, 192), (0, (i : Int))]) (S' := [(0, (i : Int)), (2, 0), (0, s2), (0, s1), (2, 1)]) r_316_2047 rfl rfl rfl ?_
  refine gx_st (L' := [(2, 0), (2, 1), (2, 192), (0, (i : Int))]) (S' := [(0, 3), (0, (i : Int)), (2, 0), (0, s2), (0, s1), (2, 1)]) r_316_2048 rfl rfl rfl ?_
  refine gx_ar (L' := [(2, 0), (2, 1), (2, 192), (0, (i : Int))]) (S' := [(2, 0), (0, s2), (0, s1), (2, 1)]) (t := 0) (e := w32 ((i : Int) + 3)) (z := (i : Int) + 3) r_316_2049 rfl rfl rfl (w32_eq (by omega) (by omega) (by omega)) ?_
  refine gx_ia (n := i + 3) (x := s3) r_316_2050 rfl h0 (by omega) ⟨rfl, by show i + 3 < L; omega⟩ ((hl.2.2.1 (i + 3)).trans e_s3.symm) ?_
  show GX T 1000 316 2051 [(2, 0), (2, 1), (2, 192), (0, (i : Int))] [(0, s3), (0, s2), (0, s1), (2, 1)] m (fun v _ => v = (0, 1))
  refine gx_st (L' := [(2, 0), (2, 1), (2, 192), (0, (i : Int))]) (S' := [(2, 0), (0, s3), (0, s2), (0, s1), (2, 1)]) r_316_2051 rfl rfl rfl ?_
  refine gx_st (L' := [(2, 0), (2, 1), (2, 192), (0, (i : Int))]) (S' := [(0, (i : Int)), (2, 0), (0, s3), (0, s2), (0, s1), (2, 1)]) r_316_2052 rfl rfl rfl ?_
  refine gx_st (L' := [(2, 0), (2, 1), (2, 192), (0, (i : Int))]) (S' := [(0, 4), (0, (i : Int)), (2, 0), (0, s3), (0, s2), (0, s1), (2, 1)]) r_316_2053 rfl rfl rfl ?_
  refine gx_ar (L' := [(2, 0), (2, 1), (2, 192), (0, (i : Int))]) (S' := [(2, 0), (0, s3), (0, s2), (0, s1), (2, 1)]) (t := 0) (e := w32 ((i : Int) + 4)) (z := (i : Int) + 4) r_316_2054 rfl rfl rfl (w32_eq (by omega) (by omega) (by omega)) ?_
  refine gx_ia (n := i + 4) (x := s4) r_316_2055 rfl h0 (by omega) ⟨rfl, by show i + 4 < L; omega⟩ ((hl.2.2.1 (i + 4)).trans e_s4.symm) ?_
  show GX T 1000 316 2056 [(2, 0), (2, 1), (2, 192), (0, (i : Int))] [(0, s4), (0, s3), (0, s2), (0, s1), (2, 1)] m (fun v _ => v = (0, 1))
  refine gx_st (L' := [(2, 0), (2, 1), (2, 192), (0, (i : Int))]) (S' := [(2, 0), (0, s4), (0, s3), (0, s2), (0, s1), (2, 1)]) r_316_2056 rfl rfl rfl ?_
  refine gx_st (L' := [(2, 0), (2, 1), (2, 192), (0, (i : Int))]) (S' := [(0, (i : Int)), (2, 0), (0, s4), (0, s3), (0, s2), (0, s1), (2, 1)]) r_316_2057 rfl rfl rfl ?_
  refine gx_st (L' := [(2, 0), (2, 1), (2, 192), (0, (i : Int))]) (S' := [(0, 5), (0, (i : Int)), (2, 0), (0, s4), (0, s3), (0, s2), (0, s1), (2, 1)]) r_316_2058 rfl rfl rfl ?_
  refine gx_ar (L' := [(2, 0), (2, 1), (2, 192), (0, (i : Int))]) (S' := [(2, 0), (0, s4), (0, s3), (0, s2), (0, s1), (2, 1)]) (t := 0) (e := w32 ((i : Int) + 5)) (z := (i : Int) + 5) r_316_2059 rfl rfl rfl (w32_eq (by omega) (by omega) (by omega)) ?_
  refine gx_ia (n := i + 5) (x := s5) r_316_2060 rfl h0 (by omega) ⟨rfl, by show i + 5 < L; omega⟩ ((hl.2.2.1 (i + 5)).trans e_s5.symm) ?_
  show GX T 1000 316 2061 [(2, 0), (2, 1), (2, 192), (0, (i : Int))] [(0, s5), (0, s4), (0, s3), (0, s2), (0, s1), (2, 1)] m (fun v _ => v = (0, 1))
  refine gx_ci (nx := 2064) (S2 := []) (gx_hi (args := [(2, 1), (0, s1), (0, s2), (0, s3), (0, s4), (0, s5)]) (pk_70 hT) ⟨gq_o1, gq_any (by omega) (by omega), gq_any (by omega) (by omega), gq_any (by omega) (by omega), gq_any (by omega) (by omega), gq_any (by omega) (by omega), trivial⟩ hl.1 rfl) r_316_2061 rfl rfl rfl rfl rfl (rcv_v rfl (tk_1 hT) (by decide) rfl (by decide)) rfl (by decide) rfl (fun x2061 n2061 q2061 => ?_)
  show GX T 1000 316 2064 [(2, 0), (2, 1), (2, 192), (0, (i : Int))] [(0, x2061)] n2061 (fun v _ => v = (0, 1))
  have ex_n2061 : Ext n2061 := Ext_fr q2061.2.2.2 (by decide) hl.2.1
  have sc_n2061 := sc_fr q2061.2.2.2 (by decide) hl.2.2.1
  have rl_n2061 : RelR n2061 := Rel_fr q2061.2.2.2 (by decide) (by decide) (by decide) (by decide) (by decide) (by decide) (by decide) (by decide) hl.2.2.2
  refine gx_st (L' := [(2, 0), (2, 1), (2, 192), (0, (i : Int))]) (S' := []) r_316_2064 rfl rfl rfl ?_
  refine gx_st (L' := [(2, 0), (2, 1), (2, 192), (0, (i : Int))]) (S' := [(2, 192)]) r_316_2065 rfl rfl rfl ?_
  refine gx_st (L' := [(2, 0), (2, 1), (2, 192), (0, (i : Int))]) (S' := [(2, 0), (2, 192)]) r_316_2066 rfl rfl rfl ?_
  refine gx_st (L' := [(2, 0), (2, 1), (2, 192), (0, (i : Int))]) (S' := [(0, (i : Int)), (2, 0), (2, 192)]) r_316_2067 rfl rfl rfl ?_
  refine gx_st (L' := [(2, 0), (2, 1), (2, 192), (0, (i : Int))]) (S' := [(0, 1), (0, (i : Int)), (2, 0), (2, 192)]) r_316_2068 rfl rfl rfl ?_
  refine gx_ar (L' := [(2, 0), (2, 1), (2, 192), (0, (i : Int))]) (S' := [(2, 0), (2, 192)]) (t := 0) (e := w32 ((i : Int) + 1)) (z := (i : Int) + 1) r_316_2069 rfl rfl rfl (w32_eq (by omega) (by omega) (by omega)) ?_
  refine gx_ia (n := i + 1) (x := s1) r_316_2070 rfl h0 (by omega) ⟨rfl, by show i + 1 < L; omega⟩ ((sc_n2061 (i + 1)).trans e_s1.symm) ?_
  show GX T 1000 316 2071 [(2, 0), (2, 1), (2, 192), (0, (i : Int))] [(0, s1), (2, 192)] n2061 (fun v _ => v = (0, 1))
  refine gx_st (L' := [(2, 0), (2, 1), (2, 192), (0, (i : Int))]) (S' := [(2, 0), (0, s1), (2, 192)]) r_316_2071 rfl rfl rfl ?_
  refine gx_st (L' := [(2, 0), (2, 1), (2, 192), (0, (i : Int))]) (S' := [(0, (i : Int)), (2, 0), (0, s1), (2, 192)]) r_316_2072 rfl rfl rfl ?_
  refine gx_st (L' := [(2, 0), (2, 1), (2, 192), (0, (i : Int))]) (S' := [(0, 2), (0, (i : Int)), (2, 0), (0, s1), (2, 192)]) r_316_2073 rfl rfl rfl ?_
  refine gx_ar (L' := [(2, 0), (2, 1), (2, 192), (0, (i : Int))]) (S' := [(2, 0), (0, s1), (2, 192)]) (t := 0) (e := w32 ((i : Int) + 2)) (z := (i : Int) + 2) r_316_2074 rfl rfl rfl (w32_eq (by omega) (by omega) (by omega)) ?_
  refine gx_ia (n := i + 2) (x := s2) r_316_2075 rfl h0 (by omega) ⟨rfl, by show i + 2 < L; omega⟩ ((sc_n2061 (i + 2)).trans e_s2.symm) ?_
  show GX T 1000 316 2076 [(2, 0), (2, 1), (2, 192), (0, (i : Int))] [(0, s2), (0, s1), (2, 192)] n2061 (fun v _ => v = (0, 1))
  refine gx_st (L' := [(2, 0), (2, 1), (2, 192), (0, (i : Int))]) (S' := [(2, 0), (0, s2), (0, s1), (2, 192)]) r_316_2076 rfl rfl rfl ?_
  refine gx_st (L' := [(2, 0), (2, 1), (2, 192), (0, (i : Int))]) (S' := [(0, (i : Int)), (2, 0), (0, s2), (0, s1), (2, 192)]) r_316_2077 rfl rfl rfl ?_
  refine gx_st (L' := [(2, 0), (2, 1), (2, 192), (0, (i : Int))]) (S' := [(0, 3), (0, (i : Int)), (2, 0), (0, s2), (0, s1), (2, 192)]) r_316_2078 rfl rfl rfl ?_
  refine gx_ar (L' := [(2, 0), (2, 1), (2, 192), (0, (i : Int))]) (S' := [(2, 0), (0, s2), (0, s1), (2, 192)]) (t := 0) (e := w32 ((i : Int) + 3)) (z := (i : Int) + 3) r_316_2079 rfl rfl rfl (w32_eq (by omega) (by omega) (by omega)) ?_
  refine gx_ia (n := i + 3) (x := s3) r_316_2080 rfl h0 (by omega) ⟨rfl, by show i + 3 < L; omega⟩ ((sc_n2061 (i + 3)).trans e_s3.symm) ?_
  show GX T 1000 316 2081 [(2, 0), (2, 1), (2, 192), (0, (i : Int))] [(0, s3), (0, s2), (0, s1), (2, 192)] n2061 (fun v _ => v = (0, 1))
  refine gx_st (L' := [(2, 0), (2, 1), (2, 192), (0, (i : Int))]) (S' := [(2, 0), (0, s3), (0, s2), (0, s1), (2, 192)]) r_316_2081 rfl rfl rfl ?_
  refine gx_st (L' := [(2, 0), (2, 1), (2, 192), (0, (i : Int))]) (S' := [(0, (i : Int)), (2, 0), (0, s3), (0, s2), (0, s1), (2, 192)]) r_316_2082 rfl rfl rfl ?_
  refine gx_st (L' := [(2, 0), (2, 1), (2, 192), (0, (i : Int))]) (S' := [(0, 4), (0, (i : Int)), (2, 0), (0, s3), (0, s2), (0, s1), (2, 192)]) r_316_2083 rfl rfl rfl ?_
  refine gx_ar (L' := [(2, 0), (2, 1), (2, 192), (0, (i : Int))]) (S' := [(2, 0), (0, s3), (0, s2), (0, s1), (2, 192)]) (t := 0) (e := w32 ((i : Int) + 4)) (z := (i : Int) + 4) r_316_2084 rfl rfl rfl (w32_eq (by omega) (by omega) (by omega)) ?_
  refine gx_ia (n := i + 4) (x := s4) r_316_2085 rfl h0 (by omega) ⟨rfl, by show i + 4 < L; omega⟩ ((sc_n2061 (i + 4)).trans e_s4.symm) ?_
  show GX T 1000 316 2086 [(2, 0), (2, 1), (2, 192), (0, (i : Int))] [(0, s4), (0, s3), (0, s2), (0, s1), (2, 192)] n2061 (fun v _ => v = (0, 1))
  refine gx_st (L' := [(2, 0), (2, 1), (2, 192), (0, (i : Int))]) (S' := [(2, 0), (0, s4), (0, s3), (0, s2), (0, s1), (2, 192)]) r_316_2086 rfl rfl rfl ?_
  refine gx_st (L' := [(2, 0), (2, 1), (2, 192), (0, (i : Int))]) (S' := [(0, (i : Int)), (2, 0), (0, s4), (0, s3), (0, s2), (0, s1), (2, 192)]) r_316_2087 rfl rfl rfl ?_
  refine gx_st (L' := [(2, 0), (2, 1), (2, 192), (0, (i : Int))]) (S' := [(0, 5), (0, (i : Int)), (2, 0), (0, s4), (0, s3), (0, s2), (0, s1), (2, 192)]) r_316_2088 rfl rfl rfl ?_
  refine gx_ar (L' := [(2, 0), (2, 1), (2, 192), (0, (i : Int))]) (S' := [(2, 0), (0, s4), (0, s3), (0, s2), (0, s1), (2, 192)]) (t := 0) (e := w32 ((i : Int) + 5)) (z := (i : Int) + 5) r_316_2089 rfl rfl rfl (w32_eq (by omega) (by omega) (by omega)) ?_
  refine gx_ia (n := i + 5) (x := s5) r_316_2090 rfl h0 (by omega) ⟨rfl, by show i + 5 < L; omega⟩ ((sc_n2061 (i + 5)).trans e_s5.symm) ?_
  show GX T 1000 316 2091 [(2, 0), (2, 1), (2, 192), (0, (i : Int))] [(0, s5), (0, s4), (0, s3), (0, s2), (0, s1), (2, 192)] n2061 (fun v _ => v = (0, 1))
  refine gx_ci (nx := 2094) (S2 := []) (gx_hi (args := [(2, 192), (0, s1), (0, s2), (0, s3), (0, s4), (0, s5)]) (pk_230 hT) ⟨gq_o192, gq_any (by omega) (by omega), gq_any (by omega) (by omega), gq_any (by omega) (by omega), gq_any (by omega) (by omega), gq_any (by omega) (by omega), trivial⟩ q2061.2.2.1 rfl) r_316_2091 rfl rfl rfl rfl rfl (rcv_v rfl (tk_192 hT) (by decide) rfl (by decide)) rfl (by decide) rfl (fun x2091 n2091 q2091 => ?_)
  show GX T 1000 316 2094 [(2, 0), (2, 1), (2, 192), (0, (i : Int))] [(0, x2091)] n2091 (fun v _ => v = (0, 1))
  have ex_n2091 : Ext n2091 := Ext_fr q2091.2.2.2 (by decide) ex_n2061
  have sc_n2091 := sc_fr q2091.2.2.2 (by decide) sc_n2061
  have rl_n2091 : RelR n2091 := Rel_fr q2091.2.2.2 (by decide) (by decide) (by decide) (by decide) (by decide) (by decide) (by decide) (by decide) rl_n2061
  refine gx_st (L' := [(2, 0), (2, 1), (2, 192), (0, (i : Int))]) (S' := []) r_316_2094 rfl rfl rfl ?_
  refine gx_st (L' := [(2, 0), (2, 1), (2, 192), (0, (i : Int))]) (S' := []) r_316_2095 rfl rfl rfl ?_
  exact hnext n2091 ⟨q2091.2.2.1, ex_n2091, sc_n2091, rl_n2091⟩
end LAW
