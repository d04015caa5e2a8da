theorem dL_1376 : decode code 1376 = .ok (.iadd, 1) := by decide +kernel
theorem dL_1377 : decode code 1377 = .ok (.iaload, 1) := by decide +kernel
theorem dL_1378 : decode code 1378 = .ok (.aload_n 0, 1) := by decide +kernel
theorem dL_1379 : decode code 1379 = .ok (.iload_n 3, 1) := by decide +kernel
theorem dL_1380 : decode code 1380 = .ok (.iconst 2, 1) := by decide +kernel
theorem dL_1381 : decode code 1381 = .ok (.iadd, 1) := by decide +kernel
theorem dL_1382 : decode code 1382 = .ok (.iaload, 1) := by decide +kernel
theorem dL_1383 : decode code 1383 = .ok (.aload_n 0, 1) := by decide +kernel
theorem dL_1384 : decode code 1384 = .ok (.iload_n 3, 1) := by decide +kernel
theorem dL_1385 : decode code 1385 = .ok (.iconst 3, 1) := by decide +kernel
theorem dL_1386 : decode code 1386 = .ok (.iadd, 1) := by decide +kernel
theorem dL_1387 : decode code 1387 = .ok (.iaload, 1) := by decide +kernel
theorem dL_1388 : decode code 1388 = .ok (.invokevirtual 181, 3) := by decide +kernel
theorem dL_1391 : decode code 1391 = .ok (.aload_n 2, 1) := by decide +kernel
theorem dL_1392 : decode code 1392 = .ok (.aload_n 0, 1) := by decide +kernel
theorem dL_1393 : decode code 1393 = .ok (.iload_n 3, 1) := by decide +kernel
theorem dL_1394 : decode code 1394 = .ok (.iconst 1, 1) := by decide +kernel
theorem dL_1395 : decode code 1395 = .ok (.iadd, 1) := by decide +kernel
theorem dL_1396 : decode code 1396 = .ok (.iaload, 1) := by decide +kernel
theorem dL_1397 : decode code 1397 = .ok (.aload_n 0, 1) := by decide +kernel
theorem dL_1398 : decode code 1398 = .ok (.iload_n 3, 1) := by decide +kernel
theorem dL_1399 : decode code 1399 = .ok (.iconst 2, 1) := by decide +kernel
theorem dL_1400 : decode code 1400 = .ok (.iadd, 1) := by decide +kernel
theorem dL_1401 : decode code 1401 = .ok (.iaload, 1) := by decide +kernel
theorem dL_1402 : decode code 1402 = .ok (.aload_n 0, 1) := by decide +kernel
theorem dL_1403 : decode code 1403 = .ok (.iload_n 3, 1) := by decide +kernel
theorem dL_1404 : decode code 1404 = .ok (.iconst 3, 1) := by decide +kernel
theorem dL_1405 : decode code 1405 = .ok (.iadd, 1) := by decide +kernel
theorem dL_1406 : decode code 1406 = .ok (.iaload, 1) := by decide +kernel
theorem dL_1407 : decode code 1407 = .ok (.invokevirtual 184, 3) := by decide +kernel
theorem dL_1410 : decode code 1410 = .ok (.if_icmp .eq 325, 3) := by decide +kernel
theorem dL_1413 : decode code 1413 = .ok (.iconst 0, 1) := by decide +kernel
theorem dL_1414 : decode code 1414 = .ok (.ireturn, 1) := by decide +kernel
theorem dL_1415 : decode code 1415 = .ok (.aload_n 1, 1) := by decide +kernel
theorem dL_1416 : decode code 1416 = .ok (.aload_n 0, 1) := by decide +kernel
theorem dL_1417 : decode code 1417 = .ok (.iload_n 3, 1) := by decide +kernel
theorem dL_1418 : decode code 1418 = .ok (.iconst 1, 1) := by decide +kernel
theorem dL_1419 : decode code 1419 = .ok (.iadd, 1) := by decide +kernel
theorem dL_1420 : decode code 1420 = .ok (.iaload, 1) := by decide +kernel
theorem dL_1421 : decode code 1421 = .ok (.aload_n 0, 1) := by decide +kernel
theorem dL_1422 : decode code 1422 = .ok (.iload_n 3, 1) := by decide +kernel
theorem dL_1423 : decode code 1423 = .ok (.iconst 2, 1) := by decide +kernel
theorem dL_1424 : decode code 1424 = .ok (.iadd, 1) := by decide +kernel
theorem dL_1425 : decode code 1425 = .ok (.iaload, 1) := by decide +kernel
theorem dL_1426 : decode code 1426 = .ok (.aload_n 0, 1) := by decide +kernel
theorem dL_1427 : decode code 1427 = .ok (.iload_n 3, 1) := by decide +kernel
theorem dL_1428 : decode code 1428 = .ok (.iconst 3, 1) := by decide +kernel
theorem dL_1429 : decode code 1429 = .ok (.iadd, 1) := by decide +kernel
theorem dL_1430 : decode code 1430 = .ok (.iaload, 1) := by decide +kernel
theorem dL_1431 : decode code 1431 = .ok (.invokevirtual 185, 3) := by decide +kernel
theorem dL_1434 : decode code 1434 = .ok (.aload_n 2, 1) := by decide +kernel
theorem dL_1435 : decode code 1435 = .ok (.aload_n 0, 1) := by decide +kernel
theorem dL_1436 : decode code 1436 = .ok (.iload_n 3, 1) := by decide +kernel
theorem dL_1437 : decode code 1437 = .ok (.iconst 1, 1) := by decide +kernel
theorem dL_1438 : decode code 1438 = .ok (.iadd, 1) := by decide +kernel
theorem dL_1439 : decode code 1439 = .ok (.iaload, 1) := by decide +kernel
theorem dL_1440 : decode code 1440 = .ok (.aload_n 0, 1) := by decide +kernel
theorem dL_1441 : decode code 1441 = .ok (.iload_n 3, 1) := by decide +kernel
theorem dL_1442 : decode code 1442 = .ok (.iconst 2, 1) := by decide +kernel
theorem dL_1443 : decode code 1443 = .ok (.iadd, 1) := by decide +kernel
theorem dL_1444 : decode code 1444 = .ok (.iaload, 1) := by decide +kernel
theorem dL_1445 : decode code 1445 = .ok (.aload_n 0, 1) := by decide +kernel
theorem dL_1446 : decode code 1446 = .ok (.iload_n 3, 1) := by decide +kernel
theorem dL_1447 : decode code 1447 = .ok (.iconst 3, 1) := by decide +kernel
theorem dL_1448 : decode code 1448 = .ok (.iadd, 1) := by decide +kernel
theorem dL_1449 : decode code 1449 = .ok (.iaload, 1) := by decide +kernel
theorem dL_1450 : decode code 1450 = .ok (.invokevirtual 188, 3) := by decide +kernel
theorem dL_1453 : decode code 1453 = .ok (.if_icmp .eq 282, 3) := by decide +kernel
theorem dL_1456 : decode code 1456 = .ok (.iconst 0, 1) := by decide +kernel
theorem dL_1457 : decode code 1457 = .ok (.ireturn, 1) := by decide +kernel
theorem dL_1458 : decode code 1458 = .ok (.aload_n 1, 1) := by decide +kernel
theorem dL_1459 : decode code 1459 = .ok (.aload_n 0, 1) := by decide +kernel
theorem dL_1460 : decode code 1460 = .ok (.iload_n 3, 1) := by decide +kernel
theorem dL_1461 : decode code 1461 = .ok (.iconst 1, 1) := by decide +kernel
theorem dL_1462 : decode code 1462 = .ok (.iadd, 1) := by decide +kernel
theorem dL_1463 : decode code 1463 = .ok (.iaload, 1) := by decide +kernel
theorem dL_1464 : decode code 1464 = .ok (.aload_n 0, 1) := by decide +kernel
theorem dL_1465 : decode code 1465 = .ok (.iload_n 3, 1) := by decide +kernel
theorem dL_1466 : decode code 1466 = .ok (.iconst 2, 1) := by decide +kernel
theorem dL_1467 : decode code 1467 = .ok (.iadd, 1) := by decide +kernel
theorem dL_1468 : decode code 1468 = .ok (.iaload, 1) := by decide +kernel
theorem dL_1469 : decode code 1469 = .ok (.aload_n 0, 1) := by decide +kernel
theorem dL_1470 : decode code 1470 = .ok (.iload_n 3, 1) := by decide +kernel
theorem dL_1471 : decode code 1471 = .ok (.iconst 3, 1) := by decide +kernel
theorem dL_1472 : decode code 1472 = .ok (.iadd, 1) := by decide +kernel
theorem dL_1473 : decode code 1473 = .ok (.iaload, 1) := by decide +kernel
theorem dL_1474 : decode code 1474 = .ok (.invokevirtual 189, 3) := by decide +kernel
theorem dL_1477 : decode code 1477 = .ok (.aload_n 2, 1) := by decide +kernel
theorem dL_1478 : decode code 1478 = .ok (.aload_n 0, 1) := by decide +kernel
theorem dL_1479 : decode code 1479 = .ok (.iload_n 3, 1) := by decide +kernel
theorem dL_1480 : decode code 1480 = .ok (.iconst 1, 1) := by decide +kernel
theorem dL_1481 : decode code 1481 = .ok (.iadd, 1) := by decide +kernel
theorem dL_1482 : decode code 1482 = .ok (.iaload, 1) := by decide +kernel
theorem dL_1483 : decode code 1483 = .ok (.aload_n 0, 1) := by decide +kernel
theorem dL_1484 : decode code 1484 = .ok (.iload_n 3, 1) := by decide +kernel
theorem dL_1485 : decode code 1485 = .ok (.iconst 2, 1) := by decide +kernel
theorem dL_1486 : decode code 1486 = .ok (.iadd, 1) := by decide +kernel
theorem dL_1487 : decode code 1487 = .ok (.iaload, 1) := by decide +kernel
theorem dL_1488 : decode code 1488 = .ok (.aload_n 0, 1) := by decide +kernel
theorem dL_1489 : decode code 1489 = .ok (.iload_n 3, 1) := by decide +kernel
theorem dL_1490 : decode code 1490 = .ok (.iconst 3, 1) := by decide +kernel
theorem dL_1491 : decode code 1491 = .ok (.iadd, 1) := by decide +kernel
theorem dL_1492 : decode code 1492 = .ok (.iaload, 1) := by decide +kernel
theorem dL_1493 : decode code 1493 = .ok (.invokevirtual 192, 3) := by decide +kernel
theorem dL_1496 : decode code 1496 = .ok (.if_icmp .eq 239, 3) := by decide +kernel
theorem dL_1499 : decode code 1499 = .ok (.iconst 0, 1) := by decide +kernel
theorem dL_1500 : decode code 1500 = .ok (.ireturn, 1) := by decide +kernel
theorem dL_1501 : decode code 1501 = .ok (.aload_n 1, 1) := by decide +kernel
theorem dL_1502 : decode code 1502 = .ok (.aload_n 0, 1) := by decide +kernel
theorem dL_1503 : decode code 1503 = .ok (.iload_n 3, 1) := by decide +kernel
theorem dL_1504 : decode code 1504 = .ok (.iconst 1, 1) := by decide +kernel
theorem dL_1505 : decode code 1505 = .ok (.iadd, 1) := by decide +kernel
theorem dL_1506 : decode code 1506 = .ok (.iaload, 1) := by decide +kernel
theorem dL_1507 : decode code 1507 = .ok (.aload_n 0, 1) := by decide +kernel
theorem dL_1508 : decode code 1508 = .ok (.iload_n 3, 1) := by decide +kernel
theorem dL_1509 : decode code 1509 = .ok (.iconst 2, 1) := by decide +kernel
theorem dL_1510 : decode code 1510 = .ok (.iadd, 1) := by decide +kernel
theorem dL_1511 : decode code 1511 = .ok (.iaload, 1) := by decide +kernel
theorem dL_1512 : decode code 1512 = .ok (.aload_n 0, 1) := by decide +kernel
theorem dL_1513 : decode code 1513 = .ok (.iload_n 3, 1) := by decide +kernel
theorem dL_1514 : decode code 1514 = .ok (.iconst 3, 1) := by decide +kernel
theorem dL_1515 : decode code 1515 = .ok (.iadd, 1) := by decide +kernel
theorem dL_1516 : decode code 1516 = .ok (.iaload, 1) := by decide +kernel
theorem dL_1517 : decode code 1517 = .ok (.invokevirtual 193, 3) := by decide +kernel
theorem dL_1520 : decode code 1520 = .ok (.aload_n 2, 1) := by decide +kernel
theorem dL_1521 : decode code 1521 = .ok (.aload_n 0, 1) := by decide +kernel
theorem dL_1522 : decode code 1522 = .ok (.iload_n 3, 1) := by decide +kernel
theorem dL_1523 : decode code 1523 = .ok (.iconst 1, 1) := by decide +kernel
theorem dL_1524 : decode code 1524 = .ok (.iadd, 1) := by decide +kernel
theorem dL_1525 : decode code 1525 = .ok (.iaload, 1) := by decide +kernel
theorem dL_1526 : decode code 1526 = .ok (.aload_n 0, 1) := by decide +kernel
theorem dL_1527 : decode code 1527 = .ok (.iload_n 3, 1) := by decide +kernel
theorem dL_1528 : decode code 1528 = .ok (.iconst 2, 1) := by decide +kernel
theorem dL_1529 : decode code 1529 = .ok (.iadd, 1) := by decide +kernel
theorem dL_1530 : decode code 1530 = .ok (.iaload, 1) := by decide +kernel
theorem dL_1531 : decode code 1531 = .ok (.aload_n 0, 1) := by decide +kernel
theorem dL_1532 : decode code 1532 = .ok (.iload_n 3, 1) := by decide +kernel
theorem dL_1533 : decode code 1533 = .ok (.iconst 3, 1) := by decide +kernel
theorem dL_1534 : decode code 1534 = .ok (.iadd, 1) := by decide +kernel
theorem dL_1535 : decode code 1535 = .ok (.iaload, 1) := by decide +kernel
theorem dL_1536 : decode code 1536 = .ok (.invokevirtual 196, 3) := by decide +kernel
theorem dL_1539 : decode code 1539 = .ok (.if_icmp .eq 196, 3) := by decide +kernel
theorem dL_1542 : decode code 1542 = .ok (.iconst 0, 1) := by decide +kernel
theorem dL_1543 : decode code 1543 = .ok (.ireturn, 1) := by decide +kernel
theorem dL_1544 : decode code 1544 = .ok (.aload_n 1, 1) := by decide +kernel
theorem dL_1545 : decode code 1545 = .ok (.aload_n 0, 1) := by decide +kernel
theorem dL_1546 : decode code 1546 = .ok (.iload_n 3, 1) := by decide +kernel
theorem dL_1547 : decode code 1547 = .ok (.iconst 1, 1) := by decide +kernel
theorem dL_1548 : decode code 1548 = .ok (.iadd, 1) := by decide +kernel
theorem dL_1549 : decode code 1549 = .ok (.iaload, 1) := by decide +kernel
theorem dL_1550 : decode code 1550 = .ok (.aload_n 0, 1) := by decide +kernel
theorem dL_1551 : decode code 1551 = .ok (.iload_n 3, 1) := by decide +kernel
theorem dL_1552 : decode code 1552 = .ok (.iconst 2, 1) := by decide +kernel
theorem dL_1553 : decode code 1553 = .ok (.iadd, 1) := by decide +kernel
theorem dL_1554 : decode code 1554 = .ok (.iaload, 1) := by decide +kernel
theorem dL_1555 : decode code 1555 = .ok (.aload_n 0, 1) := by decide +kernel
theorem dL_1556 : decode code 1556 = .ok (.iload_n 3, 1) := by decide +kernel
theorem dL_1557 : decode code 1557 = .ok (.iconst 3, 1) := by decide +kernel
theorem dL_1558 : decode code 1558 = .ok (.iadd, 1) := by decide +kernel
theorem dL_1559 : decode code 1559 = .ok (.iaload, 1) := by decide +kernel
theorem dL_1560 : decode code 1560 = .ok (.invokevirtual 197, 3) := by decide +kernel
theorem dL_1563 : decode code 1563 = .ok (.aload_n 2, 1) := by decide +kernel
theorem dL_1564 : decode code 1564 = .ok (.aload_n 0, 1) := by decide +kernel
theorem dL_1565 : decode code 1565 = .ok (.iload_n 3, 1) := by decide +kernel
theorem dL_1566 : decode code 1566 = .ok (.iconst 1, 1) := by decide +kernel
theorem dL_1567 : decode code 1567 = .ok (.iadd, 1) := by decide +kernel
theorem dL_1568 : decode code 1568 = .ok (.iaload, 1) := by decide +kernel
theorem dL_1569 : decode code 1569 = .ok (.aload_n 0, 1) := by decide +kernel
theorem dL_1570 : decode code 1570 = .ok (.iload_n 3, 1) := by decide +kernel
theorem dL_1571 : decode code 1571 = .ok (.iconst 2, 1) := by decide +kernel
theorem dL_1572 : decode code 1572 = .ok (.iadd, 1) := by decide +kernel
theorem dL_1573 : decode code 1573 = .ok (.iaload, 1) := by decide +kernel
theorem dL_1574 : decode code 1574 = .ok (.aload_n 0, 1) := by decide +kernel
theorem dL_1575 : decode code 1575 = .ok (.iload_n 3, 1) := by decide +kernel
theorem dL_1576 : decode code 1576 = .ok (.iconst 3, 1) := by decide +kernel
theorem dL_1577 : decode code 1577 = .ok (.iadd, 1) := by decide +kernel
theorem dL_1578 : decode code 1578 = .ok (.iaload, 1) := by decide +kernel
theorem dL_1579 : decode code 1579 = .ok (.invokevirtual 200, 3) := by decide +kernel
theorem dL_1582 : decode code 1582 = .ok (.if_icmp .eq 153, 3) := by decide +kernel
theorem dL_1585 : decode code 1585 = .ok (.iconst 0, 1) := by decide +kernel
theorem dL_1586 : decode code 1586 = .ok (.ireturn, 1) := by decide +kernel
theorem dL_1587 : decode code 1587 = .ok (.aload_n 1, 1) := by decide +kernel
theorem dL_1588 : decode code 1588 = .ok (.aload_n 0, 1) := by decide +kernel
theorem dL_1589 : decode code 1589 = .ok (.iload_n 3, 1) := by decide +kernel
theorem dL_1590 : decode code 1590 = .ok (.iconst 1, 1) := by decide +kernel
theorem dL_1591 : decode code 1591 = .ok (.iadd, 1) := by decide +kernel
theorem dL_1592 : decode code 1592 = .ok (.iaload, 1) := by decide +kernel
theorem dL_1593 : decode code 1593 = .ok (.aload_n 0, 1) := by decide +kernel
theorem dL_1594 : decode code 1594 = .ok (.iload_n 3, 1) := by decide +kernel
theorem dL_1595 : decode code 1595 = .ok (.iconst 2, 1) := by decide +kernel
theorem dL_1596 : decode code 1596 = .ok (.iadd, 1) := by decide +kernel
theorem dL_1597 : decode code 1597 = .ok (.iaload, 1) := by decide +kernel
theorem dL_1598 : decode code 1598 = .ok (.invokevirtual 201, 3) := by decide +kernel
theorem dL_1601 : decode code 1601 = .ok (.aload_n 2, 1) := by decide +kernel
theorem dL_1602 : decode code 1602 = .ok (.aload_n 0, 1) := by decide +kernel
theorem dL_1603 : decode code 1603 = .ok (.iload_n 3, 1) := by decide +kernel
theorem dL_1604 : decode code 1604 = .ok (.iconst 1, 1) := by decide +kernel
theorem dL_1605 : decode code 1605 = .ok (.iadd, 1) := by decide +kernel
theorem dL_1606 : decode code 1606 = .ok (.iaload, 1) := by decide +kernel
theorem dL_1607 : decode code 1607 = .ok (.aload_n 0, 1) := by decide +kernel
theorem dL_1608 : decode code 1608 = .ok (.iload_n 3, 1) := by decide +kernel
theorem dL_1609 : decode code 1609 = .ok (.iconst 2, 1) := by decide +kernel
theorem dL_1610 : decode code 1610 = .ok (.iadd, 1) := by decide +kernel
theorem dL_1611 : decode code 1611 = .ok (.iaload, 1) := by decide +kernel
theorem dL_1612 : decode code 1612 = .ok (.invokevirtual 204, 3) := by decide +kernel
theorem dL_1615 : decode code 1615 = .ok (.if_icmp .eq 120, 3) := by decide +kernel
theorem dL_1618 : decode code 1618 = .ok (.iconst 0, 1) := by decide +kernel
theorem dL_1619 : decode code 1619 = .ok (.ireturn, 1) := by decide +kernel
theorem dL_1620 : decode code 1620 = .ok (.aload_n 1, 1) := by decide +kernel
theorem dL_1621 : decode code 1621 = .ok (.aload_n 0, 1) := by decide +kernel
theorem dL_1622 : decode code 1622 = .ok (.iload_n 3, 1) := by decide +kernel
theorem dL_1623 : decode code 1623 = .ok (.iconst 1, 1) := by decide +kernel
theorem dL_1624 : decode code 1624 = .ok (.iadd, 1) := by decide +kernel
theorem dL_1625 : decode code 1625 = .ok (.iaload, 1) := by decide +kernel
theorem dL_1626 : decode code 1626 = .ok (.aload_n 0, 1) := by decide +kernel
theorem dL_1627 : decode code 1627 = .ok (.iload_n 3, 1) := by decide +kernel
theorem dL_1628 : decode code 1628 = .ok (.iconst 2, 1) := by decide +kernel
theorem dL_1629 : decode code 1629 = .ok (.iadd, 1) := by decide +kernel
theorem dL_1630 : decode code 1630 = .ok (.iaload, 1) := by decide +kernel
theorem dL_1631 : decode code 1631 = .ok (.aload_n 0, 1) := by decide +kernel
theorem dL_1632 : decode code 1632 = .ok (.iload_n 3, 1) := by decide +kernel
theorem dL_1633 : decode code 1633 = .ok (.iconst 3, 1) := by decide +kernel
theorem dL_1634 : decode code 1634 = .ok (.iadd, 1) := by decide +kernel
theorem dL_1635 : decode code 1635 = .ok (.iaload, 1) := by decide +kernel
theorem dL_1636 : decode code 1636 = .ok (.invokevirtual 205, 3) := by decide +kernel
theorem dL_1639 : decode code 1639 = .ok (.aload_n 2, 1) := by decide +kernel
theorem dL_1640 : decode code 1640 = .ok (.aload_n 0, 1) := by decide +kernel
theorem dL_1641 : decode code 1641 = .ok (.iload_n 3, 1) := by decide +kernel
theorem dL_1642 : decode code 1642 = .ok (.iconst 1, 1) := by decide +kernel
theorem dL_1643 : decode code 1643 = .ok (.iadd, 1) := by decide +kernel
theorem dL_1644 : decode code 1644 = .ok (.iaload, 1) := by decide +kernel
theorem dL_1645 : decode code 1645 = .ok (.aload_n 0, 1) := by decide +kernel
theorem dL_1646 : decode code 1646 = .ok (.iload_n 3, 1) := by decide +kernel
theorem dL_1647 : decode code 1647 = .ok (.iconst 2, 1) := by decide +kernel
theorem dL_1648 : decode code 1648 = .ok (.iadd, 1) := by decide +kernel
theorem dL_1649 : decode code 1649 = .ok (.iaload, 1) := by decide +kernel
theorem dL_1650 : decode code 1650 = .ok (.aload_n 0, 1) := by decide +kernel
theorem dL_1651 : decode code 1651 = .ok (.iload_n 3, 1) := by decide +kernel
theorem dL_1652 : decode code 1652 = .ok (.iconst 3, 1) := by decide +kernel
theorem dL_1653 : decode code 1653 = .ok (.iadd, 1) := by decide +kernel
theorem dL_1654 : decode code 1654 = .ok (.iaload, 1) := by decide +kernel
theorem dL_1655 : decode code 1655 = .ok (.invokevirtual 208, 3) := by decide +kernel
theorem dL_1658 : decode code 1658 = .ok (.if_icmp .eq 77, 3) := by decide +kernel
theorem dL_1661 : decode code 1661 = .ok (.iconst 0, 1) := by decide +kernel
theorem dL_1662 : decode code 1662 = .ok (.ireturn, 1) := by decide +kernel
theorem dL_1663 : decode code 1663 = .ok (.aload_n 1, 1) := by decide +kernel
theorem dL_1664 : decode code 1664 = .ok (.aload_n 0, 1) := by decide +kernel
theorem dL_1665 : decode code 1665 = .ok (.iload_n 3, 1) := by decide +kernel
theorem dL_1666 : decode code 1666 = .ok (.iconst 1, 1) := by decide +kernel
theorem dL_1667 : decode code 1667 = .ok (.iadd, 1) := by decide +kernel
theorem dL_1668 : decode code 1668 = .ok (.iaload, 1) := by decide +kernel
theorem dL_1669 : decode code 1669 = .ok (.invokevirtual 209, 3) := by decide +kernel
theorem dL_1672 : decode code 1672 = .ok (.aload_n 2, 1) := by decide +kernel
theorem dL_1673 : decode code 1673 = .ok (.aload_n 0, 1) := by decide +kernel
theorem dL_1674 : decode code 1674 = .ok (.iload_n 3, 1) := by decide +kernel
theorem dL_1675 : decode code 1675 = .ok (.iconst 1, 1) := by decide +kernel
theorem dL_1676 : decode code 1676 = .ok (.iadd, 1) := by decide +kernel
theorem dL_1677 : decode code 1677 = .ok (.iaload, 1) := by decide +kernel
theorem dL_1678 : decode code 1678 = .ok (.invokevirtual 212, 3) := by decide +kernel
theorem dL_1681 : decode code 1681 = .ok (.if_icmp .eq 54, 3) := by decide +kernel
theorem dL_1684 : decode code 1684 = .ok (.iconst 0, 1) := by decide +kernel
theorem dL_1685 : decode code 1685 = .ok (.ireturn, 1) := by decide +kernel
theorem dL_1686 : decode code 1686 = .ok (.aload_n 1, 1) := by decide +kernel
theorem dL_1687 : decode code 1687 = .ok (.aload_n 0, 1) := by decide +kernel
theorem dL_1688 : decode code 1688 = .ok (.iload_n 3, 1) := by decide +kernel
theorem dL_1689 : decode code 1689 = .ok (.iconst 1, 1) := by decide +kernel
theorem dL_1690 : decode code 1690 = .ok (.iadd, 1) := by decide +kernel
theorem dL_1691 : decode code 1691 = .ok (.iaload, 1) := by decide +kernel
theorem dL_1692 : decode code 1692 = .ok (.invokevirtual 213, 3) := by decide +kernel
theorem dL_1695 : decode code 1695 = .ok (.aload_n 2, 1) := by decide +kernel
theorem dL_1696 : decode code 1696 = .ok (.aload_n 0, 1) := by decide +kernel
theorem dL_1697 : decode code 1697 = .ok (.iload_n 3, 1) := by decide +kernel
theorem dL_1698 : decode code 1698 = .ok (.iconst 1, 1) := by decide +kernel
theorem dL_1699 : decode code 1699 = .ok (.iadd, 1) := by decide +kernel
theorem dL_1700 : decode code 1700 = .ok (.iaload, 1) := by decide +kernel
theorem dL_1701 : decode code 1701 = .ok (.invokevirtual 216, 3) := by decide +kernel
theorem dL_1704 : decode code 1704 = .ok (.if_icmp .eq 31, 3) := by decide +kernel
theorem dL_1707 : decode code 1707 = .ok (.iconst 0, 1) := by decide +kernel
theorem dL_1708 : decode code 1708 = .ok (.ireturn, 1) := by decide +kernel
theorem dL_1709 : decode code 1709 = .ok (.aload_n 1, 1) := by decide +kernel
theorem dL_1710 : decode code 1710 = .ok (.invokevirtual 217, 3) := by decide +kernel
theorem dL_1713 : decode code 1713 = .ok (.aload_n 2, 1) := by decide +kernel
theorem dL_1714 : decode code 1714 = .ok (.invokevirtual 220, 3) := by decide +kernel
theorem dL_1717 : decode code 1717 = .ok (.if_icmp .eq 18, 3) := by decide +kernel
theorem dL_1720 : decode code 1720 = .ok (.iconst 0, 1) := by decide +kernel
theorem dL_1721 : decode code 1721 = .ok (.ireturn, 1) := by decide +kernel
theorem dL_1722 : decode code 1722 = .ok (.aload_n 1, 1) := by decide +kernel
theorem dL_1723 : decode code 1723 = .ok (.invokevirtual 221, 3) := by decide +kernel
theorem dL_1726 : decode code 1726 = .ok (.aload_n 2, 1) := by decide +kernel
theorem dL_1727 : decode code 1727 = .ok (.invokevirtual 224, 3) := by decide +kernel
theorem dL_1730 : decode code 1730 = .ok (.if_icmp .eq 5, 3) := by decide +kernel
theorem dL_1733 : decode code 1733 = .ok (.iconst 0, 1) := by decide +kernel
theorem dL_1734 : decode code 1734 = .ok (.ireturn, 1) := by decide +kernel
theorem dL_1735 : decode code 1735 = .ok (.iinc 3 5, 3) := by decide +kernel
theorem dL_1738 : decode code 1738 = .ok (.goto (-1720), 3) := by decide +kernel
theorem dL_1741 : decode code 1741 = .ok (.iconst 1, 1) := by decide +kernel
theorem dL_1742 : decode code 1742 = .ok (.ireturn, 1) := by decide +kernel
