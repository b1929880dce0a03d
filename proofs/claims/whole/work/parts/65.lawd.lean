theorem dq_W_law_1408 : decode code 1408 = .ok (.aload_n 0, 1) := by decide +kernel
theorem dq_W_law_1409 : decode code 1409 = .ok (.iload_n 3, 1) := by decide +kernel
theorem dq_W_law_1410 : decode code 1410 = .ok (.iconst 4, 1) := by decide +kernel
theorem dq_W_law_1411 : decode code 1411 = .ok (.iadd, 1) := by decide +kernel
theorem dq_W_law_1412 : decode code 1412 = .ok (.iaload, 1) := by decide +kernel
theorem dq_W_law_1413 : decode code 1413 = .ok (.i2l, 1) := by decide +kernel
theorem dq_W_law_1414 : decode code 1414 = .ok (.ldc2_w 13, 3) := by decide +kernel
theorem dq_W_law_1417 : decode code 1417 = .ok (.land, 1) := by decide +kernel
theorem dq_W_law_1418 : decode code 1418 = .ok (.lor, 1) := by decide +kernel
theorem dq_W_law_1419 : decode code 1419 = .ok (.invokevirtual 110, 3) := by decide +kernel
theorem dq_W_law_1422 : decode code 1422 = .ok (.lcmp, 1) := by decide +kernel
theorem dq_W_law_1423 : decode code 1423 = .ok (.ifCond .eq 331, 3) := by decide +kernel
theorem dq_W_law_1426 : decode code 1426 = .ok (.iconst 0, 1) := by decide +kernel
theorem dq_W_law_1427 : decode code 1427 = .ok (.ireturn, 1) := by decide +kernel
theorem dq_W_law_1428 : decode code 1428 = .ok (.aload_n 1, 1) := by decide +kernel
theorem dq_W_law_1429 : decode code 1429 = .ok (.aload_n 0, 1) := by decide +kernel
theorem dq_W_law_1430 : decode code 1430 = .ok (.iload_n 3, 1) := by decide +kernel
theorem dq_W_law_1431 : decode code 1431 = .ok (.iconst 1, 1) := by decide +kernel
theorem dq_W_law_1432 : decode code 1432 = .ok (.iadd, 1) := by decide +kernel
theorem dq_W_law_1433 : decode code 1433 = .ok (.iaload, 1) := by decide +kernel
theorem dq_W_law_1434 : decode code 1434 = .ok (.aload_n 0, 1) := by decide +kernel
theorem dq_W_law_1435 : decode code 1435 = .ok (.iload_n 3, 1) := by decide +kernel
theorem dq_W_law_1436 : decode code 1436 = .ok (.iconst 2, 1) := by decide +kernel
theorem dq_W_law_1437 : decode code 1437 = .ok (.iadd, 1) := by decide +kernel
theorem dq_W_law_1438 : decode code 1438 = .ok (.iaload, 1) := by decide +kernel
theorem dq_W_law_1439 : decode code 1439 = .ok (.invokevirtual 111, 3) := by decide +kernel
theorem dq_W_law_1442 : decode code 1442 = .ok (.aload_n 2, 1) := by decide +kernel
theorem dq_W_law_1443 : decode code 1443 = .ok (.aload_n 0, 1) := by decide +kernel
theorem dq_W_law_1444 : decode code 1444 = .ok (.iload_n 3, 1) := by decide +kernel
theorem dq_W_law_1445 : decode code 1445 = .ok (.iconst 1, 1) := by decide +kernel
theorem dq_W_law_1446 : decode code 1446 = .ok (.iadd, 1) := by decide +kernel
theorem dq_W_law_1447 : decode code 1447 = .ok (.iaload, 1) := by decide +kernel
theorem dq_W_law_1448 : decode code 1448 = .ok (.aload_n 0, 1) := by decide +kernel
theorem dq_W_law_1449 : decode code 1449 = .ok (.iload_n 3, 1) := by decide +kernel
theorem dq_W_law_1450 : decode code 1450 = .ok (.iconst 2, 1) := by decide +kernel
theorem dq_W_law_1451 : decode code 1451 = .ok (.iadd, 1) := by decide +kernel
theorem dq_W_law_1452 : decode code 1452 = .ok (.iaload, 1) := by decide +kernel
theorem dq_W_law_1453 : decode code 1453 = .ok (.invokevirtual 114, 3) := by decide +kernel
theorem dq_W_law_1456 : decode code 1456 = .ok (.lcmp, 1) := by decide +kernel
theorem dq_W_law_1457 : decode code 1457 = .ok (.ifCond .eq 297, 3) := by decide +kernel
theorem dq_W_law_1460 : decode code 1460 = .ok (.iconst 0, 1) := by decide +kernel
theorem dq_W_law_1461 : decode code 1461 = .ok (.ireturn, 1) := by decide +kernel
theorem dq_W_law_1462 : decode code 1462 = .ok (.aload_n 1, 1) := by decide +kernel
theorem dq_W_law_1463 : decode code 1463 = .ok (.aload_n 0, 1) := by decide +kernel
theorem dq_W_law_1464 : decode code 1464 = .ok (.iload_n 3, 1) := by decide +kernel
theorem dq_W_law_1465 : decode code 1465 = .ok (.iconst 1, 1) := by decide +kernel
theorem dq_W_law_1466 : decode code 1466 = .ok (.iadd, 1) := by decide +kernel
theorem dq_W_law_1467 : decode code 1467 = .ok (.iaload, 1) := by decide +kernel
theorem dq_W_law_1468 : decode code 1468 = .ok (.aload_n 0, 1) := by decide +kernel
theorem dq_W_law_1469 : decode code 1469 = .ok (.iload_n 3, 1) := by decide +kernel
theorem dq_W_law_1470 : decode code 1470 = .ok (.iconst 2, 1) := by decide +kernel
theorem dq_W_law_1471 : decode code 1471 = .ok (.iadd, 1) := by decide +kernel
theorem dq_W_law_1472 : decode code 1472 = .ok (.iaload, 1) := by decide +kernel
theorem dq_W_law_1473 : decode code 1473 = .ok (.aload_n 0, 1) := by decide +kernel
theorem dq_W_law_1474 : decode code 1474 = .ok (.iload_n 3, 1) := by decide +kernel
theorem dq_W_law_1475 : decode code 1475 = .ok (.iconst 3, 1) := by decide +kernel
theorem dq_W_law_1476 : decode code 1476 = .ok (.iadd, 1) := by decide +kernel
theorem dq_W_law_1477 : decode code 1477 = .ok (.iaload, 1) := by decide +kernel
theorem dq_W_law_1478 : decode code 1478 = .ok (.aload_n 0, 1) := by decide +kernel
theorem dq_W_law_1479 : decode code 1479 = .ok (.iload_n 3, 1) := by decide +kernel
theorem dq_W_law_1480 : decode code 1480 = .ok (.iconst 4, 1) := by decide +kernel
theorem dq_W_law_1481 : decode code 1481 = .ok (.iadd, 1) := by decide +kernel
theorem dq_W_law_1482 : decode code 1482 = .ok (.iaload, 1) := by decide +kernel
theorem dq_W_law_1483 : decode code 1483 = .ok (.i2l, 1) := by decide +kernel
theorem dq_W_law_1484 : decode code 1484 = .ok (.bipush 32, 2) := by decide +kernel
theorem dq_W_law_1486 : decode code 1486 = .ok (.lshl, 1) := by decide +kernel
theorem dq_W_law_1487 : decode code 1487 = .ok (.aload_n 0, 1) := by decide +kernel
theorem dq_W_law_1488 : decode code 1488 = .ok (.iload_n 3, 1) := by decide +kernel
theorem dq_W_law_1489 : decode code 1489 = .ok (.iconst 5, 1) := by decide +kernel
theorem dq_W_law_1490 : decode code 1490 = .ok (.iadd, 1) := by decide +kernel
theorem dq_W_law_1491 : decode code 1491 = .ok (.iaload, 1) := by decide +kernel
theorem dq_W_law_1492 : decode code 1492 = .ok (.i2l, 1) := by decide +kernel
theorem dq_W_law_1493 : decode code 1493 = .ok (.ldc2_w 13, 3) := by decide +kernel
theorem dq_W_law_1496 : decode code 1496 = .ok (.land, 1) := by decide +kernel
theorem dq_W_law_1497 : decode code 1497 = .ok (.lor, 1) := by decide +kernel
theorem dq_W_law_1498 : decode code 1498 = .ok (.aload_n 0, 1) := by decide +kernel
theorem dq_W_law_1499 : decode code 1499 = .ok (.iload_n 3, 1) := by decide +kernel
theorem dq_W_law_1500 : decode code 1500 = .ok (.bipush 6, 2) := by decide +kernel
theorem dq_W_law_1502 : decode code 1502 = .ok (.iadd, 1) := by decide +kernel
theorem dq_W_law_1503 : decode code 1503 = .ok (.iaload, 1) := by decide +kernel
theorem dq_W_law_1504 : decode code 1504 = .ok (.i2l, 1) := by decide +kernel
theorem dq_W_law_1505 : decode code 1505 = .ok (.bipush 32, 2) := by decide +kernel
theorem dq_W_law_1507 : decode code 1507 = .ok (.lshl, 1) := by decide +kernel
theorem dq_W_law_1508 : decode code 1508 = .ok (.aload_n 0, 1) := by decide +kernel
theorem dq_W_law_1509 : decode code 1509 = .ok (.iload_n 3, 1) := by decide +kernel
theorem dq_W_law_1510 : decode code 1510 = .ok (.bipush 7, 2) := by decide +kernel
theorem dq_W_law_1512 : decode code 1512 = .ok (.iadd, 1) := by decide +kernel
theorem dq_W_law_1513 : decode code 1513 = .ok (.iaload, 1) := by decide +kernel
theorem dq_W_law_1514 : decode code 1514 = .ok (.i2l, 1) := by decide +kernel
theorem dq_W_law_1515 : decode code 1515 = .ok (.ldc2_w 13, 3) := by decide +kernel
theorem dq_W_law_1518 : decode code 1518 = .ok (.land, 1) := by decide +kernel
theorem dq_W_law_1519 : decode code 1519 = .ok (.lor, 1) := by decide +kernel
theorem dq_W_law_1520 : decode code 1520 = .ok (.invokevirtual 115, 3) := by decide +kernel
theorem dq_W_law_1523 : decode code 1523 = .ok (.aload_n 2, 1) := by decide +kernel
theorem dq_W_law_1524 : decode code 1524 = .ok (.aload_n 0, 1) := by decide +kernel
theorem dq_W_law_1525 : decode code 1525 = .ok (.iload_n 3, 1) := by decide +kernel
theorem dq_W_law_1526 : decode code 1526 = .ok (.iconst 1, 1) := by decide +kernel
theorem dq_W_law_1527 : decode code 1527 = .ok (.iadd, 1) := by decide +kernel
theorem dq_W_law_1528 : decode code 1528 = .ok (.iaload, 1) := by decide +kernel
theorem dq_W_law_1529 : decode code 1529 = .ok (.aload_n 0, 1) := by decide +kernel
theorem dq_W_law_1530 : decode code 1530 = .ok (.iload_n 3, 1) := by decide +kernel
theorem dq_W_law_1531 : decode code 1531 = .ok (.iconst 2, 1) := by decide +kernel
theorem dq_W_law_1532 : decode code 1532 = .ok (.iadd, 1) := by decide +kernel
theorem dq_W_law_1533 : decode code 1533 = .ok (.iaload, 1) := by decide +kernel
theorem dq_W_law_1534 : decode code 1534 = .ok (.aload_n 0, 1) := by decide +kernel
theorem dq_W_law_1535 : decode code 1535 = .ok (.iload_n 3, 1) := by decide +kernel
theorem dq_W_law_1536 : decode code 1536 = .ok (.iconst 3, 1) := by decide +kernel
theorem dq_W_law_1537 : decode code 1537 = .ok (.iadd, 1) := by decide +kernel
theorem dq_W_law_1538 : decode code 1538 = .ok (.iaload, 1) := by decide +kernel
theorem dq_W_law_1539 : decode code 1539 = .ok (.aload_n 0, 1) := by decide +kernel
theorem dq_W_law_1540 : decode code 1540 = .ok (.iload_n 3, 1) := by decide +kernel
theorem dq_W_law_1541 : decode code 1541 = .ok (.iconst 4, 1) := by decide +kernel
theorem dq_W_law_1542 : decode code 1542 = .ok (.iadd, 1) := by decide +kernel
theorem dq_W_law_1543 : decode code 1543 = .ok (.iaload, 1) := by decide +kernel
theorem dq_W_law_1544 : decode code 1544 = .ok (.i2l, 1) := by decide +kernel
theorem dq_W_law_1545 : decode code 1545 = .ok (.bipush 32, 2) := by decide +kernel
theorem dq_W_law_1547 : decode code 1547 = .ok (.lshl, 1) := by decide +kernel
theorem dq_W_law_1548 : decode code 1548 = .ok (.aload_n 0, 1) := by decide +kernel
theorem dq_W_law_1549 : decode code 1549 = .ok (.iload_n 3, 1) := by decide +kernel
theorem dq_W_law_1550 : decode code 1550 = .ok (.iconst 5, 1) := by decide +kernel
theorem dq_W_law_1551 : decode code 1551 = .ok (.iadd, 1) := by decide +kernel
theorem dq_W_law_1552 : decode code 1552 = .ok (.iaload, 1) := by decide +kernel
theorem dq_W_law_1553 : decode code 1553 = .ok (.i2l, 1) := by decide +kernel
theorem dq_W_law_1554 : decode code 1554 = .ok (.ldc2_w 13, 3) := by decide +kernel
theorem dq_W_law_1557 : decode code 1557 = .ok (.land, 1) := by decide +kernel
theorem dq_W_law_1558 : decode code 1558 = .ok (.lor, 1) := by decide +kernel
theorem dq_W_law_1559 : decode code 1559 = .ok (.aload_n 0, 1) := by decide +kernel
theorem dq_W_law_1560 : decode code 1560 = .ok (.iload_n 3, 1) := by decide +kernel
theorem dq_W_law_1561 : decode code 1561 = .ok (.bipush 6, 2) := by decide +kernel
theorem dq_W_law_1563 : decode code 1563 = .ok (.iadd, 1) := by decide +kernel
theorem dq_W_law_1564 : decode code 1564 = .ok (.iaload, 1) := by decide +kernel
theorem dq_W_law_1565 : decode code 1565 = .ok (.i2l, 1) := by decide +kernel
theorem dq_W_law_1566 : decode code 1566 = .ok (.bipush 32, 2) := by decide +kernel
theorem dq_W_law_1568 : decode code 1568 = .ok (.lshl, 1) := by decide +kernel
theorem dq_W_law_1569 : decode code 1569 = .ok (.aload_n 0, 1) := by decide +kernel
theorem dq_W_law_1570 : decode code 1570 = .ok (.iload_n 3, 1) := by decide +kernel
theorem dq_W_law_1571 : decode code 1571 = .ok (.bipush 7, 2) := by decide +kernel
theorem dq_W_law_1573 : decode code 1573 = .ok (.iadd, 1) := by decide +kernel
theorem dq_W_law_1574 : decode code 1574 = .ok (.iaload, 1) := by decide +kernel
theorem dq_W_law_1575 : decode code 1575 = .ok (.i2l, 1) := by decide +kernel
theorem dq_W_law_1576 : decode code 1576 = .ok (.ldc2_w 13, 3) := by decide +kernel
theorem dq_W_law_1579 : decode code 1579 = .ok (.land, 1) := by decide +kernel
theorem dq_W_law_1580 : decode code 1580 = .ok (.lor, 1) := by decide +kernel
theorem dq_W_law_1581 : decode code 1581 = .ok (.invokevirtual 119, 3) := by decide +kernel
theorem dq_W_law_1584 : decode code 1584 = .ok (.if_icmp .eq 170, 3) := by decide +kernel
theorem dq_W_law_1587 : decode code 1587 = .ok (.iconst 0, 1) := by decide +kernel
theorem dq_W_law_1588 : decode code 1588 = .ok (.ireturn, 1) := by decide +kernel
theorem dq_W_law_1589 : decode code 1589 = .ok (.aload_n 1, 1) := by decide +kernel
theorem dq_W_law_1590 : decode code 1590 = .ok (.aload_n 0, 1) := by decide +kernel
theorem dq_W_law_1591 : decode code 1591 = .ok (.iload_n 3, 1) := by decide +kernel
theorem dq_W_law_1592 : decode code 1592 = .ok (.iconst 1, 1) := by decide +kernel
theorem dq_W_law_1593 : decode code 1593 = .ok (.iadd, 1) := by decide +kernel
theorem dq_W_law_1594 : decode code 1594 = .ok (.iaload, 1) := by decide +kernel
theorem dq_W_law_1595 : decode code 1595 = .ok (.aload_n 0, 1) := by decide +kernel
theorem dq_W_law_1596 : decode code 1596 = .ok (.iload_n 3, 1) := by decide +kernel
theorem dq_W_law_1597 : decode code 1597 = .ok (.iconst 2, 1) := by decide +kernel
theorem dq_W_law_1598 : decode code 1598 = .ok (.iadd, 1) := by decide +kernel
theorem dq_W_law_1599 : decode code 1599 = .ok (.iaload, 1) := by decide +kernel
theorem dq_W_law_1600 : decode code 1600 = .ok (.invokevirtual 120, 3) := by decide +kernel
theorem dq_W_law_1603 : decode code 1603 = .ok (.aload_n 2, 1) := by decide +kernel
theorem dq_W_law_1604 : decode code 1604 = .ok (.aload_n 0, 1) := by decide +kernel
theorem dq_W_law_1605 : decode code 1605 = .ok (.iload_n 3, 1) := by decide +kernel
theorem dq_W_law_1606 : decode code 1606 = .ok (.iconst 1, 1) := by decide +kernel
theorem dq_W_law_1607 : decode code 1607 = .ok (.iadd, 1) := by decide +kernel
theorem dq_W_law_1608 : decode code 1608 = .ok (.iaload, 1) := by decide +kernel
theorem dq_W_law_1609 : decode code 1609 = .ok (.aload_n 0, 1) := by decide +kernel
theorem dq_W_law_1610 : decode code 1610 = .ok (.iload_n 3, 1) := by decide +kernel
theorem dq_W_law_1611 : decode code 1611 = .ok (.iconst 2, 1) := by decide +kernel
theorem dq_W_law_1612 : decode code 1612 = .ok (.iadd, 1) := by decide +kernel
theorem dq_W_law_1613 : decode code 1613 = .ok (.iaload, 1) := by decide +kernel
theorem dq_W_law_1614 : decode code 1614 = .ok (.invokevirtual 123, 3) := by decide +kernel
theorem dq_W_law_1617 : decode code 1617 = .ok (.lcmp, 1) := by decide +kernel
theorem dq_W_law_1618 : decode code 1618 = .ok (.ifCond .eq 136, 3) := by decide +kernel
theorem dq_W_law_1621 : decode code 1621 = .ok (.iconst 0, 1) := by decide +kernel
theorem dq_W_law_1622 : decode code 1622 = .ok (.ireturn, 1) := by decide +kernel
theorem dq_W_law_1623 : decode code 1623 = .ok (.aload_n 1, 1) := by decide +kernel
theorem dq_W_law_1624 : decode code 1624 = .ok (.aload_n 0, 1) := by decide +kernel
theorem dq_W_law_1625 : decode code 1625 = .ok (.iload_n 3, 1) := by decide +kernel
theorem dq_W_law_1626 : decode code 1626 = .ok (.iconst 1, 1) := by decide +kernel
theorem dq_W_law_1627 : decode code 1627 = .ok (.iadd, 1) := by decide +kernel
theorem dq_W_law_1628 : decode code 1628 = .ok (.iaload, 1) := by decide +kernel
theorem dq_W_law_1629 : decode code 1629 = .ok (.aload_n 0, 1) := by decide +kernel
theorem dq_W_law_1630 : decode code 1630 = .ok (.iload_n 3, 1) := by decide +kernel
theorem dq_W_law_1631 : decode code 1631 = .ok (.iconst 2, 1) := by decide +kernel
theorem dq_W_law_1632 : decode code 1632 = .ok (.iadd, 1) := by decide +kernel
theorem dq_W_law_1633 : decode code 1633 = .ok (.iaload, 1) := by decide +kernel
theorem dq_W_law_1634 : decode code 1634 = .ok (.aload_n 0, 1) := by decide +kernel
theorem dq_W_law_1635 : decode code 1635 = .ok (.iload_n 3, 1) := by decide +kernel
theorem dq_W_law_1636 : decode code 1636 = .ok (.iconst 3, 1) := by decide +kernel
theorem dq_W_law_1637 : decode code 1637 = .ok (.iadd, 1) := by decide +kernel
theorem dq_W_law_1638 : decode code 1638 = .ok (.iaload, 1) := by decide +kernel
theorem dq_W_law_1639 : decode code 1639 = .ok (.i2l, 1) := by decide +kernel
theorem dq_W_law_1640 : decode code 1640 = .ok (.bipush 32, 2) := by decide +kernel
theorem dq_W_law_1642 : decode code 1642 = .ok (.lshl, 1) := by decide +kernel
theorem dq_W_law_1643 : decode code 1643 = .ok (.aload_n 0, 1) := by decide +kernel
theorem dq_W_law_1644 : decode code 1644 = .ok (.iload_n 3, 1) := by decide +kernel
theorem dq_W_law_1645 : decode code 1645 = .ok (.iconst 4, 1) := by decide +kernel
theorem dq_W_law_1646 : decode code 1646 = .ok (.iadd, 1) := by decide +kernel
theorem dq_W_law_1647 : decode code 1647 = .ok (.iaload, 1) := by decide +kernel
theorem dq_W_law_1648 : decode code 1648 = .ok (.i2l, 1) := by decide +kernel
theorem dq_W_law_1649 : decode code 1649 = .ok (.ldc2_w 13, 3) := by decide +kernel
theorem dq_W_law_1652 : decode code 1652 = .ok (.land, 1) := by decide +kernel
theorem dq_W_law_1653 : decode code 1653 = .ok (.lor, 1) := by decide +kernel
theorem dq_W_law_1654 : decode code 1654 = .ok (.invokevirtual 124, 3) := by decide +kernel
theorem dq_W_law_1657 : decode code 1657 = .ok (.aload_n 2, 1) := by decide +kernel
theorem dq_W_law_1658 : decode code 1658 = .ok (.aload_n 0, 1) := by decide +kernel
theorem dq_W_law_1659 : decode code 1659 = .ok (.iload_n 3, 1) := by decide +kernel
theorem dq_W_law_1660 : decode code 1660 = .ok (.iconst 1, 1) := by decide +kernel
theorem dq_W_law_1661 : decode code 1661 = .ok (.iadd, 1) := by decide +kernel
theorem dq_W_law_1662 : decode code 1662 = .ok (.iaload, 1) := by decide +kernel
theorem dq_W_law_1663 : decode code 1663 = .ok (.aload_n 0, 1) := by decide +kernel
theorem dq_W_law_1664 : decode code 1664 = .ok (.iload_n 3, 1) := by decide +kernel
theorem dq_W_law_1665 : decode code 1665 = .ok (.iconst 2, 1) := by decide +kernel
theorem dq_W_law_1666 : decode code 1666 = .ok (.iadd, 1) := by decide +kernel
theorem dq_W_law_1667 : decode code 1667 = .ok (.iaload, 1) := by decide +kernel
theorem dq_W_law_1668 : decode code 1668 = .ok (.aload_n 0, 1) := by decide +kernel
theorem dq_W_law_1669 : decode code 1669 = .ok (.iload_n 3, 1) := by decide +kernel
theorem dq_W_law_1670 : decode code 1670 = .ok (.iconst 3, 1) := by decide +kernel
theorem dq_W_law_1671 : decode code 1671 = .ok (.iadd, 1) := by decide +kernel
theorem dq_W_law_1672 : decode code 1672 = .ok (.iaload, 1) := by decide +kernel
theorem dq_W_law_1673 : decode code 1673 = .ok (.i2l, 1) := by decide +kernel
theorem dq_W_law_1674 : decode code 1674 = .ok (.bipush 32, 2) := by decide +kernel
theorem dq_W_law_1676 : decode code 1676 = .ok (.lshl, 1) := by decide +kernel
theorem dq_W_law_1677 : decode code 1677 = .ok (.aload_n 0, 1) := by decide +kernel
theorem dq_W_law_1678 : decode code 1678 = .ok (.iload_n 3, 1) := by decide +kernel
theorem dq_W_law_1679 : decode code 1679 = .ok (.iconst 4, 1) := by decide +kernel
theorem dq_W_law_1680 : decode code 1680 = .ok (.iadd, 1) := by decide +kernel
theorem dq_W_law_1681 : decode code 1681 = .ok (.iaload, 1) := by decide +kernel
theorem dq_W_law_1682 : decode code 1682 = .ok (.i2l, 1) := by decide +kernel
theorem dq_W_law_1683 : decode code 1683 = .ok (.ldc2_w 13, 3) := by decide +kernel
theorem dq_W_law_1686 : decode code 1686 = .ok (.land, 1) := by decide +kernel
theorem dq_W_law_1687 : decode code 1687 = .ok (.lor, 1) := by decide +kernel
theorem dq_W_law_1688 : decode code 1688 = .ok (.invokevirtual 127, 3) := by decide +kernel
theorem dq_W_law_1691 : decode code 1691 = .ok (.lcmp, 1) := by decide +kernel
theorem dq_W_law_1692 : decode code 1692 = .ok (.ifCond .eq 62, 3) := by decide +kernel
theorem dq_W_law_1695 : decode code 1695 = .ok (.iconst 0, 1) := by decide +kernel
theorem dq_W_law_1696 : decode code 1696 = .ok (.ireturn, 1) := by decide +kernel
theorem dq_W_law_1697 : decode code 1697 = .ok (.aload_n 1, 1) := by decide +kernel
theorem dq_W_law_1698 : decode code 1698 = .ok (.aload_n 0, 1) := by decide +kernel
theorem dq_W_law_1699 : decode code 1699 = .ok (.iload_n 3, 1) := by decide +kernel
theorem dq_W_law_1700 : decode code 1700 = .ok (.iconst 1, 1) := by decide +kernel
theorem dq_W_law_1701 : decode code 1701 = .ok (.iadd, 1) := by decide +kernel
theorem dq_W_law_1702 : decode code 1702 = .ok (.iaload, 1) := by decide +kernel
theorem dq_W_law_1703 : decode code 1703 = .ok (.aload_n 0, 1) := by decide +kernel
theorem dq_W_law_1704 : decode code 1704 = .ok (.iload_n 3, 1) := by decide +kernel
theorem dq_W_law_1705 : decode code 1705 = .ok (.iconst 2, 1) := by decide +kernel
theorem dq_W_law_1706 : decode code 1706 = .ok (.iadd, 1) := by decide +kernel
theorem dq_W_law_1707 : decode code 1707 = .ok (.iaload, 1) := by decide +kernel
theorem dq_W_law_1708 : decode code 1708 = .ok (.invokevirtual 128, 3) := by decide +kernel
theorem dq_W_law_1711 : decode code 1711 = .ok (.aload_n 2, 1) := by decide +kernel
theorem dq_W_law_1712 : decode code 1712 = .ok (.aload_n 0, 1) := by decide +kernel
theorem dq_W_law_1713 : decode code 1713 = .ok (.iload_n 3, 1) := by decide +kernel
theorem dq_W_law_1714 : decode code 1714 = .ok (.iconst 1, 1) := by decide +kernel
theorem dq_W_law_1715 : decode code 1715 = .ok (.iadd, 1) := by decide +kernel
theorem dq_W_law_1716 : decode code 1716 = .ok (.iaload, 1) := by decide +kernel
theorem dq_W_law_1717 : decode code 1717 = .ok (.aload_n 0, 1) := by decide +kernel
theorem dq_W_law_1718 : decode code 1718 = .ok (.iload_n 3, 1) := by decide +kernel
theorem dq_W_law_1719 : decode code 1719 = .ok (.iconst 2, 1) := by decide +kernel
theorem dq_W_law_1720 : decode code 1720 = .ok (.iadd, 1) := by decide +kernel
theorem dq_W_law_1721 : decode code 1721 = .ok (.iaload, 1) := by decide +kernel
