theorem dL_law_1410 : decode cL_law 1410 = .ok (.aload_n 0, 1) := by decide +kernel
theorem dL_law_1411 : decode cL_law 1411 = .ok (.iload 4, 2) := by decide +kernel
theorem dL_law_1413 : decode cL_law 1413 = .ok (.iconst 2, 1) := by decide +kernel
theorem dL_law_1414 : decode cL_law 1414 = .ok (.iadd, 1) := by decide +kernel
theorem dL_law_1415 : decode cL_law 1415 = .ok (.iaload, 1) := by decide +kernel
theorem dL_law_1416 : decode cL_law 1416 = .ok (.invokevirtual 207, 3) := by decide +kernel
theorem dL_law_1419 : decode cL_law 1419 = .ok (.istore 6, 2) := by decide +kernel
theorem dL_law_1421 : decode cL_law 1421 = .ok (.aload_n 2, 1) := by decide +kernel
theorem dL_law_1422 : decode cL_law 1422 = .ok (.invokevirtual 139, 3) := by decide +kernel
theorem dL_law_1425 : decode cL_law 1425 = .ok (.iload 5, 2) := by decide +kernel
theorem dL_law_1427 : decode cL_law 1427 = .ok (.if_icmp .eq 5, 3) := by decide +kernel
theorem dL_law_1430 : decode cL_law 1430 = .ok (.iconst 0, 1) := by decide +kernel
theorem dL_law_1431 : decode cL_law 1431 = .ok (.ireturn, 1) := by decide +kernel
theorem dL_law_1432 : decode cL_law 1432 = .ok (.iload 5, 2) := by decide +kernel
theorem dL_law_1434 : decode cL_law 1434 = .ok (.ifCond .ne 15, 3) := by decide +kernel
theorem dL_law_1437 : decode cL_law 1437 = .ok (.aload_n 3, 1) := by decide +kernel
theorem dL_law_1438 : decode cL_law 1438 = .ok (.iconst 0, 1) := by decide +kernel
theorem dL_law_1439 : decode cL_law 1439 = .ok (.laload, 1) := by decide +kernel
theorem dL_law_1440 : decode cL_law 1440 = .ok (.iload 6, 2) := by decide +kernel
theorem dL_law_1442 : decode cL_law 1442 = .ok (.i2l, 1) := by decide +kernel
theorem dL_law_1443 : decode cL_law 1443 = .ok (.lcmp, 1) := by decide +kernel
theorem dL_law_1444 : decode cL_law 1444 = .ok (.ifCond .eq 5, 3) := by decide +kernel
theorem dL_law_1447 : decode cL_law 1447 = .ok (.iconst 0, 1) := by decide +kernel
theorem dL_law_1448 : decode cL_law 1448 = .ok (.ireturn, 1) := by decide +kernel
theorem dL_law_1449 : decode cL_law 1449 = .ok (.goto 1331, 3) := by decide +kernel
theorem dL_law_1452 : decode cL_law 1452 = .ok (.aload_n 1, 1) := by decide +kernel
theorem dL_law_1453 : decode cL_law 1453 = .ok (.aload_n 0, 1) := by decide +kernel
theorem dL_law_1454 : decode cL_law 1454 = .ok (.iload 4, 2) := by decide +kernel
theorem dL_law_1456 : decode cL_law 1456 = .ok (.iconst 1, 1) := by decide +kernel
theorem dL_law_1457 : decode cL_law 1457 = .ok (.iadd, 1) := by decide +kernel
theorem dL_law_1458 : decode cL_law 1458 = .ok (.iaload, 1) := by decide +kernel
theorem dL_law_1459 : decode cL_law 1459 = .ok (.aload_n 0, 1) := by decide +kernel
theorem dL_law_1460 : decode cL_law 1460 = .ok (.iload 4, 2) := by decide +kernel
theorem dL_law_1462 : decode cL_law 1462 = .ok (.iconst 2, 1) := by decide +kernel
theorem dL_law_1463 : decode cL_law 1463 = .ok (.iadd, 1) := by decide +kernel
theorem dL_law_1464 : decode cL_law 1464 = .ok (.iaload, 1) := by decide +kernel
theorem dL_law_1465 : decode cL_law 1465 = .ok (.aload_n 3, 1) := by decide +kernel
theorem dL_law_1466 : decode cL_law 1466 = .ok (.invokestatic 208, 3) := by decide +kernel
theorem dL_law_1469 : decode cL_law 1469 = .ok (.istore 5, 2) := by decide +kernel
theorem dL_law_1471 : decode cL_law 1471 = .ok (.aload_n 2, 1) := by decide +kernel
theorem dL_law_1472 : decode cL_law 1472 = .ok (.aload_n 0, 1) := by decide +kernel
theorem dL_law_1473 : decode cL_law 1473 = .ok (.iload 4, 2) := by decide +kernel
theorem dL_law_1475 : decode cL_law 1475 = .ok (.iconst 1, 1) := by decide +kernel
theorem dL_law_1476 : decode cL_law 1476 = .ok (.iadd, 1) := by decide +kernel
theorem dL_law_1477 : decode cL_law 1477 = .ok (.iaload, 1) := by decide +kernel
theorem dL_law_1478 : decode cL_law 1478 = .ok (.aload_n 0, 1) := by decide +kernel
theorem dL_law_1479 : decode cL_law 1479 = .ok (.iload 4, 2) := by decide +kernel
theorem dL_law_1481 : decode cL_law 1481 = .ok (.iconst 2, 1) := by decide +kernel
theorem dL_law_1482 : decode cL_law 1482 = .ok (.iadd, 1) := by decide +kernel
theorem dL_law_1483 : decode cL_law 1483 = .ok (.iaload, 1) := by decide +kernel
theorem dL_law_1484 : decode cL_law 1484 = .ok (.invokevirtual 210, 3) := by decide +kernel
theorem dL_law_1487 : decode cL_law 1487 = .ok (.istore 6, 2) := by decide +kernel
theorem dL_law_1489 : decode cL_law 1489 = .ok (.aload_n 2, 1) := by decide +kernel
theorem dL_law_1490 : decode cL_law 1490 = .ok (.invokevirtual 139, 3) := by decide +kernel
theorem dL_law_1493 : decode cL_law 1493 = .ok (.iload 5, 2) := by decide +kernel
theorem dL_law_1495 : decode cL_law 1495 = .ok (.if_icmp .eq 5, 3) := by decide +kernel
theorem dL_law_1498 : decode cL_law 1498 = .ok (.iconst 0, 1) := by decide +kernel
theorem dL_law_1499 : decode cL_law 1499 = .ok (.ireturn, 1) := by decide +kernel
theorem dL_law_1500 : decode cL_law 1500 = .ok (.iload 5, 2) := by decide +kernel
theorem dL_law_1502 : decode cL_law 1502 = .ok (.ifCond .ne 15, 3) := by decide +kernel
theorem dL_law_1505 : decode cL_law 1505 = .ok (.aload_n 3, 1) := by decide +kernel
theorem dL_law_1506 : decode cL_law 1506 = .ok (.iconst 0, 1) := by decide +kernel
theorem dL_law_1507 : decode cL_law 1507 = .ok (.laload, 1) := by decide +kernel
theorem dL_law_1508 : decode cL_law 1508 = .ok (.iload 6, 2) := by decide +kernel
theorem dL_law_1510 : decode cL_law 1510 = .ok (.i2l, 1) := by decide +kernel
theorem dL_law_1511 : decode cL_law 1511 = .ok (.lcmp, 1) := by decide +kernel
theorem dL_law_1512 : decode cL_law 1512 = .ok (.ifCond .eq 5, 3) := by decide +kernel
theorem dL_law_1515 : decode cL_law 1515 = .ok (.iconst 0, 1) := by decide +kernel
theorem dL_law_1516 : decode cL_law 1516 = .ok (.ireturn, 1) := by decide +kernel
theorem dL_law_1517 : decode cL_law 1517 = .ok (.goto 1263, 3) := by decide +kernel
theorem dL_law_1520 : decode cL_law 1520 = .ok (.aload_n 1, 1) := by decide +kernel
theorem dL_law_1521 : decode cL_law 1521 = .ok (.aload_n 0, 1) := by decide +kernel
theorem dL_law_1522 : decode cL_law 1522 = .ok (.iload 4, 2) := by decide +kernel
theorem dL_law_1524 : decode cL_law 1524 = .ok (.iconst 1, 1) := by decide +kernel
theorem dL_law_1525 : decode cL_law 1525 = .ok (.iadd, 1) := by decide +kernel
theorem dL_law_1526 : decode cL_law 1526 = .ok (.iaload, 1) := by decide +kernel
theorem dL_law_1527 : decode cL_law 1527 = .ok (.aload_n 0, 1) := by decide +kernel
theorem dL_law_1528 : decode cL_law 1528 = .ok (.iload 4, 2) := by decide +kernel
theorem dL_law_1530 : decode cL_law 1530 = .ok (.iconst 2, 1) := by decide +kernel
theorem dL_law_1531 : decode cL_law 1531 = .ok (.iadd, 1) := by decide +kernel
theorem dL_law_1532 : decode cL_law 1532 = .ok (.iaload, 1) := by decide +kernel
theorem dL_law_1533 : decode cL_law 1533 = .ok (.aload_n 3, 1) := by decide +kernel
theorem dL_law_1534 : decode cL_law 1534 = .ok (.invokestatic 211, 3) := by decide +kernel
theorem dL_law_1537 : decode cL_law 1537 = .ok (.istore 5, 2) := by decide +kernel
theorem dL_law_1539 : decode cL_law 1539 = .ok (.aload_n 2, 1) := by decide +kernel
theorem dL_law_1540 : decode cL_law 1540 = .ok (.aload_n 0, 1) := by decide +kernel
theorem dL_law_1541 : decode cL_law 1541 = .ok (.iload 4, 2) := by decide +kernel
theorem dL_law_1543 : decode cL_law 1543 = .ok (.iconst 1, 1) := by decide +kernel
theorem dL_law_1544 : decode cL_law 1544 = .ok (.iadd, 1) := by decide +kernel
theorem dL_law_1545 : decode cL_law 1545 = .ok (.iaload, 1) := by decide +kernel
theorem dL_law_1546 : decode cL_law 1546 = .ok (.aload_n 0, 1) := by decide +kernel
theorem dL_law_1547 : decode cL_law 1547 = .ok (.iload 4, 2) := by decide +kernel
theorem dL_law_1549 : decode cL_law 1549 = .ok (.iconst 2, 1) := by decide +kernel
theorem dL_law_1550 : decode cL_law 1550 = .ok (.iadd, 1) := by decide +kernel
theorem dL_law_1551 : decode cL_law 1551 = .ok (.iaload, 1) := by decide +kernel
theorem dL_law_1552 : decode cL_law 1552 = .ok (.invokevirtual 213, 3) := by decide +kernel
theorem dL_law_1555 : decode cL_law 1555 = .ok (.istore 6, 2) := by decide +kernel
theorem dL_law_1557 : decode cL_law 1557 = .ok (.aload_n 2, 1) := by decide +kernel
theorem dL_law_1558 : decode cL_law 1558 = .ok (.invokevirtual 139, 3) := by decide +kernel
theorem dL_law_1561 : decode cL_law 1561 = .ok (.iload 5, 2) := by decide +kernel
theorem dL_law_1563 : decode cL_law 1563 = .ok (.if_icmp .eq 5, 3) := by decide +kernel
theorem dL_law_1566 : decode cL_law 1566 = .ok (.iconst 0, 1) := by decide +kernel
theorem dL_law_1567 : decode cL_law 1567 = .ok (.ireturn, 1) := by decide +kernel
theorem dL_law_1568 : decode cL_law 1568 = .ok (.iload 5, 2) := by decide +kernel
theorem dL_law_1570 : decode cL_law 1570 = .ok (.ifCond .ne 22, 3) := by decide +kernel
theorem dL_law_1573 : decode cL_law 1573 = .ok (.aload_n 3, 1) := by decide +kernel
theorem dL_law_1574 : decode cL_law 1574 = .ok (.iconst 0, 1) := by decide +kernel
theorem dL_law_1575 : decode cL_law 1575 = .ok (.laload, 1) := by decide +kernel
theorem dL_law_1576 : decode cL_law 1576 = .ok (.iload 6, 2) := by decide +kernel
theorem dL_law_1578 : decode cL_law 1578 = .ok (.ifCond .eq 7, 3) := by decide +kernel
theorem dL_law_1581 : decode cL_law 1581 = .ok (.lconst 1, 1) := by decide +kernel
theorem dL_law_1582 : decode cL_law 1582 = .ok (.goto 4, 3) := by decide +kernel
theorem dL_law_1585 : decode cL_law 1585 = .ok (.lconst 0, 1) := by decide +kernel
theorem dL_law_1586 : decode cL_law 1586 = .ok (.lcmp, 1) := by decide +kernel
theorem dL_law_1587 : decode cL_law 1587 = .ok (.ifCond .eq 5, 3) := by decide +kernel
theorem dL_law_1590 : decode cL_law 1590 = .ok (.iconst 0, 1) := by decide +kernel
theorem dL_law_1591 : decode cL_law 1591 = .ok (.ireturn, 1) := by decide +kernel
theorem dL_law_1592 : decode cL_law 1592 = .ok (.goto 1188, 3) := by decide +kernel
theorem dL_law_1595 : decode cL_law 1595 = .ok (.aload_n 1, 1) := by decide +kernel
theorem dL_law_1596 : decode cL_law 1596 = .ok (.aload_n 0, 1) := by decide +kernel
theorem dL_law_1597 : decode cL_law 1597 = .ok (.iload 4, 2) := by decide +kernel
theorem dL_law_1599 : decode cL_law 1599 = .ok (.iconst 1, 1) := by decide +kernel
theorem dL_law_1600 : decode cL_law 1600 = .ok (.iadd, 1) := by decide +kernel
theorem dL_law_1601 : decode cL_law 1601 = .ok (.iaload, 1) := by decide +kernel
theorem dL_law_1602 : decode cL_law 1602 = .ok (.aload_n 0, 1) := by decide +kernel
theorem dL_law_1603 : decode cL_law 1603 = .ok (.iload 4, 2) := by decide +kernel
theorem dL_law_1605 : decode cL_law 1605 = .ok (.iconst 2, 1) := by decide +kernel
theorem dL_law_1606 : decode cL_law 1606 = .ok (.iadd, 1) := by decide +kernel
theorem dL_law_1607 : decode cL_law 1607 = .ok (.iaload, 1) := by decide +kernel
theorem dL_law_1608 : decode cL_law 1608 = .ok (.aload_n 3, 1) := by decide +kernel
theorem dL_law_1609 : decode cL_law 1609 = .ok (.invokestatic 214, 3) := by decide +kernel
theorem dL_law_1612 : decode cL_law 1612 = .ok (.istore 5, 2) := by decide +kernel
theorem dL_law_1614 : decode cL_law 1614 = .ok (.aload_n 2, 1) := by decide +kernel
theorem dL_law_1615 : decode cL_law 1615 = .ok (.aload_n 0, 1) := by decide +kernel
theorem dL_law_1616 : decode cL_law 1616 = .ok (.iload 4, 2) := by decide +kernel
theorem dL_law_1618 : decode cL_law 1618 = .ok (.iconst 1, 1) := by decide +kernel
theorem dL_law_1619 : decode cL_law 1619 = .ok (.iadd, 1) := by decide +kernel
theorem dL_law_1620 : decode cL_law 1620 = .ok (.iaload, 1) := by decide +kernel
theorem dL_law_1621 : decode cL_law 1621 = .ok (.aload_n 0, 1) := by decide +kernel
theorem dL_law_1622 : decode cL_law 1622 = .ok (.iload 4, 2) := by decide +kernel
theorem dL_law_1624 : decode cL_law 1624 = .ok (.iconst 2, 1) := by decide +kernel
theorem dL_law_1625 : decode cL_law 1625 = .ok (.iadd, 1) := by decide +kernel
theorem dL_law_1626 : decode cL_law 1626 = .ok (.iaload, 1) := by decide +kernel
theorem dL_law_1627 : decode cL_law 1627 = .ok (.invokevirtual 216, 3) := by decide +kernel
theorem dL_law_1630 : decode cL_law 1630 = .ok (.istore 6, 2) := by decide +kernel
theorem dL_law_1632 : decode cL_law 1632 = .ok (.aload_n 2, 1) := by decide +kernel
theorem dL_law_1633 : decode cL_law 1633 = .ok (.invokevirtual 139, 3) := by decide +kernel
theorem dL_law_1636 : decode cL_law 1636 = .ok (.iload 5, 2) := by decide +kernel
theorem dL_law_1638 : decode cL_law 1638 = .ok (.if_icmp .eq 5, 3) := by decide +kernel
theorem dL_law_1641 : decode cL_law 1641 = .ok (.iconst 0, 1) := by decide +kernel
theorem dL_law_1642 : decode cL_law 1642 = .ok (.ireturn, 1) := by decide +kernel
theorem dL_law_1643 : decode cL_law 1643 = .ok (.iload 5, 2) := by decide +kernel
theorem dL_law_1645 : decode cL_law 1645 = .ok (.ifCond .ne 15, 3) := by decide +kernel
theorem dL_law_1648 : decode cL_law 1648 = .ok (.aload_n 3, 1) := by decide +kernel
theorem dL_law_1649 : decode cL_law 1649 = .ok (.iconst 0, 1) := by decide +kernel
theorem dL_law_1650 : decode cL_law 1650 = .ok (.laload, 1) := by decide +kernel
theorem dL_law_1651 : decode cL_law 1651 = .ok (.iload 6, 2) := by decide +kernel
theorem dL_law_1653 : decode cL_law 1653 = .ok (.i2l, 1) := by decide +kernel
theorem dL_law_1654 : decode cL_law 1654 = .ok (.lcmp, 1) := by decide +kernel
theorem dL_law_1655 : decode cL_law 1655 = .ok (.ifCond .eq 5, 3) := by decide +kernel
theorem dL_law_1658 : decode cL_law 1658 = .ok (.iconst 0, 1) := by decide +kernel
theorem dL_law_1659 : decode cL_law 1659 = .ok (.ireturn, 1) := by decide +kernel
theorem dL_law_1660 : decode cL_law 1660 = .ok (.goto 1120, 3) := by decide +kernel
theorem dL_law_1663 : decode cL_law 1663 = .ok (.aload_n 1, 1) := by decide +kernel
theorem dL_law_1664 : decode cL_law 1664 = .ok (.aload_n 0, 1) := by decide +kernel
theorem dL_law_1665 : decode cL_law 1665 = .ok (.iload 4, 2) := by decide +kernel
theorem dL_law_1667 : decode cL_law 1667 = .ok (.iconst 1, 1) := by decide +kernel
theorem dL_law_1668 : decode cL_law 1668 = .ok (.iadd, 1) := by decide +kernel
theorem dL_law_1669 : decode cL_law 1669 = .ok (.iaload, 1) := by decide +kernel
theorem dL_law_1670 : decode cL_law 1670 = .ok (.aload_n 3, 1) := by decide +kernel
theorem dL_law_1671 : decode cL_law 1671 = .ok (.invokestatic 217, 3) := by decide +kernel
theorem dL_law_1674 : decode cL_law 1674 = .ok (.istore 5, 2) := by decide +kernel
theorem dL_law_1676 : decode cL_law 1676 = .ok (.aload_n 2, 1) := by decide +kernel
theorem dL_law_1677 : decode cL_law 1677 = .ok (.aload_n 0, 1) := by decide +kernel
theorem dL_law_1678 : decode cL_law 1678 = .ok (.iload 4, 2) := by decide +kernel
theorem dL_law_1680 : decode cL_law 1680 = .ok (.iconst 1, 1) := by decide +kernel
theorem dL_law_1681 : decode cL_law 1681 = .ok (.iadd, 1) := by decide +kernel
theorem dL_law_1682 : decode cL_law 1682 = .ok (.iaload, 1) := by decide +kernel
theorem dL_law_1683 : decode cL_law 1683 = .ok (.invokevirtual 219, 3) := by decide +kernel
theorem dL_law_1686 : decode cL_law 1686 = .ok (.istore 6, 2) := by decide +kernel
theorem dL_law_1688 : decode cL_law 1688 = .ok (.aload_n 2, 1) := by decide +kernel
theorem dL_law_1689 : decode cL_law 1689 = .ok (.invokevirtual 139, 3) := by decide +kernel
theorem dL_law_1692 : decode cL_law 1692 = .ok (.iload 5, 2) := by decide +kernel
theorem dL_law_1694 : decode cL_law 1694 = .ok (.if_icmp .eq 5, 3) := by decide +kernel
theorem dL_law_1697 : decode cL_law 1697 = .ok (.iconst 0, 1) := by decide +kernel
theorem dL_law_1698 : decode cL_law 1698 = .ok (.ireturn, 1) := by decide +kernel
theorem dL_law_1699 : decode cL_law 1699 = .ok (.iload 5, 2) := by decide +kernel
theorem dL_law_1701 : decode cL_law 1701 = .ok (.ifCond .ne 15, 3) := by decide +kernel
theorem dL_law_1704 : decode cL_law 1704 = .ok (.aload_n 3, 1) := by decide +kernel
theorem dL_law_1705 : decode cL_law 1705 = .ok (.iconst 0, 1) := by decide +kernel
theorem dL_law_1706 : decode cL_law 1706 = .ok (.laload, 1) := by decide +kernel
theorem dL_law_1707 : decode cL_law 1707 = .ok (.iload 6, 2) := by decide +kernel
theorem dL_law_1709 : decode cL_law 1709 = .ok (.i2l, 1) := by decide +kernel
theorem dL_law_1710 : decode cL_law 1710 = .ok (.lcmp, 1) := by decide +kernel
theorem dL_law_1711 : decode cL_law 1711 = .ok (.ifCond .eq 5, 3) := by decide +kernel
theorem dL_law_1714 : decode cL_law 1714 = .ok (.iconst 0, 1) := by decide +kernel
theorem dL_law_1715 : decode cL_law 1715 = .ok (.ireturn, 1) := by decide +kernel
theorem dL_law_1716 : decode cL_law 1716 = .ok (.goto 1064, 3) := by decide +kernel
theorem dL_law_1719 : decode cL_law 1719 = .ok (.aload_n 1, 1) := by decide +kernel
theorem dL_law_1720 : decode cL_law 1720 = .ok (.aload_n 0, 1) := by decide +kernel
theorem dL_law_1721 : decode cL_law 1721 = .ok (.iload 4, 2) := by decide +kernel
theorem dL_law_1723 : decode cL_law 1723 = .ok (.iconst 1, 1) := by decide +kernel
theorem dL_law_1724 : decode cL_law 1724 = .ok (.iadd, 1) := by decide +kernel
theorem dL_law_1725 : decode cL_law 1725 = .ok (.iaload, 1) := by decide +kernel
theorem dL_law_1726 : decode cL_law 1726 = .ok (.aload_n 3, 1) := by decide +kernel
theorem dL_law_1727 : decode cL_law 1727 = .ok (.invokestatic 220, 3) := by decide +kernel
theorem dL_law_1730 : decode cL_law 1730 = .ok (.istore 5, 2) := by decide +kernel
theorem dL_law_1732 : decode cL_law 1732 = .ok (.aload_n 2, 1) := by decide +kernel
theorem dL_law_1733 : decode cL_law 1733 = .ok (.aload_n 0, 1) := by decide +kernel
theorem dL_law_1734 : decode cL_law 1734 = .ok (.iload 4, 2) := by decide +kernel
theorem dL_law_1736 : decode cL_law 1736 = .ok (.iconst 1, 1) := by decide +kernel
theorem dL_law_1737 : decode cL_law 1737 = .ok (.iadd, 1) := by decide +kernel
theorem dL_law_1738 : decode cL_law 1738 = .ok (.iaload, 1) := by decide +kernel
theorem dL_law_1739 : decode cL_law 1739 = .ok (.invokevirtual 222, 3) := by decide +kernel
theorem dL_law_1742 : decode cL_law 1742 = .ok (.istore 6, 2) := by decide +kernel
theorem dL_law_1744 : decode cL_law 1744 = .ok (.aload_n 2, 1) := by decide +kernel
theorem dL_law_1745 : decode cL_law 1745 = .ok (.invokevirtual 139, 3) := by decide +kernel
theorem dL_law_1748 : decode cL_law 1748 = .ok (.iload 5, 2) := by decide +kernel
theorem dL_law_1750 : decode cL_law 1750 = .ok (.if_icmp .eq 5, 3) := by decide +kernel
theorem dL_law_1753 : decode cL_law 1753 = .ok (.iconst 0, 1) := by decide +kernel
theorem dL_law_1754 : decode cL_law 1754 = .ok (.ireturn, 1) := by decide +kernel
theorem dL_law_1755 : decode cL_law 1755 = .ok (.iload 5, 2) := by decide +kernel
theorem dL_law_1757 : decode cL_law 1757 = .ok (.ifCond .ne 15, 3) := by decide +kernel
theorem dL_law_1760 : decode cL_law 1760 = .ok (.aload_n 3, 1) := by decide +kernel
theorem dL_law_1761 : decode cL_law 1761 = .ok (.iconst 0, 1) := by decide +kernel
theorem dL_law_1762 : decode cL_law 1762 = .ok (.laload, 1) := by decide +kernel
theorem dL_law_1763 : decode cL_law 1763 = .ok (.iload 6, 2) := by decide +kernel
theorem dL_law_1765 : decode cL_law 1765 = .ok (.i2l, 1) := by decide +kernel
theorem dL_law_1766 : decode cL_law 1766 = .ok (.lcmp, 1) := by decide +kernel
theorem dL_law_1767 : decode cL_law 1767 = .ok (.ifCond .eq 5, 3) := by decide +kernel
theorem dL_law_1770 : decode cL_law 1770 = .ok (.iconst 0, 1) := by decide +kernel
theorem dL_law_1771 : decode cL_law 1771 = .ok (.ireturn, 1) := by decide +kernel
theorem dL_law_1772 : decode cL_law 1772 = .ok (.goto 1008, 3) := by decide +kernel
theorem dL_law_1775 : decode cL_law 1775 = .ok (.aload_n 1, 1) := by decide +kernel
theorem dL_law_1776 : decode cL_law 1776 = .ok (.aload_n 0, 1) := by decide +kernel
theorem dL_law_1777 : decode cL_law 1777 = .ok (.iload 4, 2) := by decide +kernel
theorem dL_law_1779 : decode cL_law 1779 = .ok (.iconst 1, 1) := by decide +kernel
theorem dL_law_1780 : decode cL_law 1780 = .ok (.iadd, 1) := by decide +kernel
theorem dL_law_1781 : decode cL_law 1781 = .ok (.iaload, 1) := by decide +kernel
theorem dL_law_1782 : decode cL_law 1782 = .ok (.aload_n 3, 1) := by decide +kernel
theorem dL_law_1783 : decode cL_law 1783 = .ok (.invokestatic 223, 3) := by decide +kernel
theorem dL_law_1786 : decode cL_law 1786 = .ok (.istore 5, 2) := by decide +kernel
theorem dL_law_1788 : decode cL_law 1788 = .ok (.aload_n 2, 1) := by decide +kernel
theorem dL_law_1789 : decode cL_law 1789 = .ok (.aload_n 0, 1) := by decide +kernel
theorem dL_law_1790 : decode cL_law 1790 = .ok (.iload 4, 2) := by decide +kernel
theorem dL_law_1792 : decode cL_law 1792 = .ok (.iconst 1, 1) := by decide +kernel
theorem dL_law_1793 : decode cL_law 1793 = .ok (.iadd, 1) := by decide +kernel
theorem dL_law_1794 : decode cL_law 1794 = .ok (.iaload, 1) := by decide +kernel
theorem dL_law_1795 : decode cL_law 1795 = .ok (.invokevirtual 225, 3) := by decide +kernel
theorem dL_law_1798 : decode cL_law 1798 = .ok (.istore 6, 2) := by decide +kernel
theorem dL_law_1800 : decode cL_law 1800 = .ok (.aload_n 2, 1) := by decide +kernel
theorem dL_law_1801 : decode cL_law 1801 = .ok (.invokevirtual 139, 3) := by decide +kernel
theorem dL_law_1804 : decode cL_law 1804 = .ok (.iload 5, 2) := by decide +kernel
theorem dL_law_1806 : decode cL_law 1806 = .ok (.if_icmp .eq 5, 3) := by decide +kernel
theorem dL_law_1809 : decode cL_law 1809 = .ok (.iconst 0, 1) := by decide +kernel
theorem dL_law_1810 : decode cL_law 1810 = .ok (.ireturn, 1) := by decide +kernel
theorem dL_law_1811 : decode cL_law 1811 = .ok (.iload 5, 2) := by decide +kernel
theorem dL_law_1813 : decode cL_law 1813 = .ok (.ifCond .ne 15, 3) := by decide +kernel
theorem dL_law_1816 : decode cL_law 1816 = .ok (.aload_n 3, 1) := by decide +kernel
theorem dL_law_1817 : decode cL_law 1817 = .ok (.iconst 0, 1) := by decide +kernel
theorem dL_law_1818 : decode cL_law 1818 = .ok (.laload, 1) := by decide +kernel
theorem dL_law_1819 : decode cL_law 1819 = .ok (.iload 6, 2) := by decide +kernel
theorem dL_law_1821 : decode cL_law 1821 = .ok (.i2l, 1) := by decide +kernel
theorem dL_law_1822 : decode cL_law 1822 = .ok (.lcmp, 1) := by decide +kernel
theorem dL_law_1823 : decode cL_law 1823 = .ok (.ifCond .eq 5, 3) := by decide +kernel
theorem dL_law_1826 : decode cL_law 1826 = .ok (.iconst 0, 1) := by decide +kernel
theorem dL_law_1827 : decode cL_law 1827 = .ok (.ireturn, 1) := by decide +kernel
theorem dL_law_1828 : decode cL_law 1828 = .ok (.goto 952, 3) := by decide +kernel
theorem dL_law_1831 : decode cL_law 1831 = .ok (.aload_n 1, 1) := by decide +kernel
theorem dL_law_1832 : decode cL_law 1832 = .ok (.aload_n 0, 1) := by decide +kernel
theorem dL_law_1833 : decode cL_law 1833 = .ok (.iload 4, 2) := by decide +kernel
theorem dL_law_1835 : decode cL_law 1835 = .ok (.iconst 1, 1) := by decide +kernel
theorem dL_law_1836 : decode cL_law 1836 = .ok (.iadd, 1) := by decide +kernel
theorem dL_law_1837 : decode cL_law 1837 = .ok (.iaload, 1) := by decide +kernel
theorem dL_law_1838 : decode cL_law 1838 = .ok (.aload_n 3, 1) := by decide +kernel
theorem dL_law_1839 : decode cL_law 1839 = .ok (.invokestatic 226, 3) := by decide +kernel
theorem dL_law_1842 : decode cL_law 1842 = .ok (.istore 5, 2) := by decide +kernel
theorem dL_law_1844 : decode cL_law 1844 = .ok (.aload_n 2, 1) := by decide +kernel
theorem dL_law_1845 : decode cL_law 1845 = .ok (.aload_n 0, 1) := by decide +kernel
theorem dL_law_1846 : decode cL_law 1846 = .ok (.iload 4, 2) := by decide +kernel
theorem dL_law_1848 : decode cL_law 1848 = .ok (.iconst 1, 1) := by decide +kernel
theorem dL_law_1849 : decode cL_law 1849 = .ok (.iadd, 1) := by decide +kernel
theorem dL_law_1850 : decode cL_law 1850 = .ok (.iaload, 1) := by decide +kernel
theorem dL_law_1851 : decode cL_law 1851 = .ok (.invokevirtual 228, 3) := by decide +kernel
theorem dL_law_1854 : decode cL_law 1854 = .ok (.istore 6, 2) := by decide +kernel
theorem dL_law_1856 : decode cL_law 1856 = .ok (.aload_n 2, 1) := by decide +kernel
theorem dL_law_1857 : decode cL_law 1857 = .ok (.invokevirtual 139, 3) := by decide +kernel
theorem dL_law_1860 : decode cL_law 1860 = .ok (.iload 5, 2) := by decide +kernel
theorem dL_law_1862 : decode cL_law 1862 = .ok (.if_icmp .eq 5, 3) := by decide +kernel
theorem dL_law_1865 : decode cL_law 1865 = .ok (.iconst 0, 1) := by decide +kernel
theorem dL_law_1866 : decode cL_law 1866 = .ok (.ireturn, 1) := by decide +kernel
theorem dL_law_1867 : decode cL_law 1867 = .ok (.iload 5, 2) := by decide +kernel
theorem dL_law_1869 : decode cL_law 1869 = .ok (.ifCond .ne 15, 3) := by decide +kernel
theorem dL_law_1872 : decode cL_law 1872 = .ok (.aload_n 3, 1) := by decide +kernel
theorem dL_law_1873 : decode cL_law 1873 = .ok (.iconst 0, 1) := by decide +kernel
theorem dL_law_1874 : decode cL_law 1874 = .ok (.laload, 1) := by decide +kernel
theorem dL_law_1875 : decode cL_law 1875 = .ok (.iload 6, 2) := by decide +kernel
theorem dL_law_1877 : decode cL_law 1877 = .ok (.i2l, 1) := by decide +kernel
theorem dL_law_1878 : decode cL_law 1878 = .ok (.lcmp, 1) := by decide +kernel
theorem dL_law_1879 : decode cL_law 1879 = .ok (.ifCond .eq 5, 3) := by decide +kernel
theorem dL_law_1882 : decode cL_law 1882 = .ok (.iconst 0, 1) := by decide +kernel
theorem dL_law_1883 : decode cL_law 1883 = .ok (.ireturn, 1) := by decide +kernel
theorem dL_law_1884 : decode cL_law 1884 = .ok (.goto 896, 3) := by decide +kernel
theorem dL_law_1887 : decode cL_law 1887 = .ok (.aload_n 1, 1) := by decide +kernel
theorem dL_law_1888 : decode cL_law 1888 = .ok (.aload_n 0, 1) := by decide +kernel
theorem dL_law_1889 : decode cL_law 1889 = .ok (.iload 4, 2) := by decide +kernel
theorem dL_law_1891 : decode cL_law 1891 = .ok (.iconst 1, 1) := by decide +kernel
theorem dL_law_1892 : decode cL_law 1892 = .ok (.iadd, 1) := by decide +kernel
theorem dL_law_1893 : decode cL_law 1893 = .ok (.iaload, 1) := by decide +kernel
theorem dL_law_1894 : decode cL_law 1894 = .ok (.aload_n 0, 1) := by decide +kernel
theorem dL_law_1895 : decode cL_law 1895 = .ok (.iload 4, 2) := by decide +kernel
theorem dL_law_1897 : decode cL_law 1897 = .ok (.iconst 2, 1) := by decide +kernel
theorem dL_law_1898 : decode cL_law 1898 = .ok (.iadd, 1) := by decide +kernel
theorem dL_law_1899 : decode cL_law 1899 = .ok (.iaload, 1) := by decide +kernel
theorem dL_law_1900 : decode cL_law 1900 = .ok (.aload_n 3, 1) := by decide +kernel
theorem dL_law_1901 : decode cL_law 1901 = .ok (.invokestatic 229, 3) := by decide +kernel
theorem dL_law_1904 : decode cL_law 1904 = .ok (.istore 5, 2) := by decide +kernel
theorem dL_law_1906 : decode cL_law 1906 = .ok (.aload_n 2, 1) := by decide +kernel
theorem dL_law_1907 : decode cL_law 1907 = .ok (.aload_n 0, 1) := by decide +kernel
theorem dL_law_1908 : decode cL_law 1908 = .ok (.iload 4, 2) := by decide +kernel
theorem dL_law_1910 : decode cL_law 1910 = .ok (.iconst 1, 1) := by decide +kernel
theorem dL_law_1911 : decode cL_law 1911 = .ok (.iadd, 1) := by decide +kernel
theorem dL_law_1912 : decode cL_law 1912 = .ok (.iaload, 1) := by decide +kernel
theorem dL_law_1913 : decode cL_law 1913 = .ok (.aload_n 0, 1) := by decide +kernel
theorem dL_law_1914 : decode cL_law 1914 = .ok (.iload 4, 2) := by decide +kernel
theorem dL_law_1916 : decode cL_law 1916 = .ok (.iconst 2, 1) := by decide +kernel
theorem dL_law_1917 : decode cL_law 1917 = .ok (.iadd, 1) := by decide +kernel
theorem dL_law_1918 : decode cL_law 1918 = .ok (.iaload, 1) := by decide +kernel
theorem dL_law_1919 : decode cL_law 1919 = .ok (.invokevirtual 231, 3) := by decide +kernel
theorem dL_law_1922 : decode cL_law 1922 = .ok (.istore 6, 2) := by decide +kernel
theorem dL_law_1924 : decode cL_law 1924 = .ok (.aload_n 2, 1) := by decide +kernel
theorem dL_law_1925 : decode cL_law 1925 = .ok (.invokevirtual 139, 3) := by decide +kernel
theorem dL_law_1928 : decode cL_law 1928 = .ok (.iload 5, 2) := by decide +kernel
theorem dL_law_1930 : decode cL_law 1930 = .ok (.if_icmp .eq 5, 3) := by decide +kernel
theorem dL_law_1933 : decode cL_law 1933 = .ok (.iconst 0, 1) := by decide +kernel
theorem dL_law_1934 : decode cL_law 1934 = .ok (.ireturn, 1) := by decide +kernel
theorem dL_law_1935 : decode cL_law 1935 = .ok (.iload 5, 2) := by decide +kernel
theorem dL_law_1937 : decode cL_law 1937 = .ok (.ifCond .ne 15, 3) := by decide +kernel
theorem dL_law_1940 : decode cL_law 1940 = .ok (.aload_n 3, 1) := by decide +kernel
theorem dL_law_1941 : decode cL_law 1941 = .ok (.iconst 0, 1) := by decide +kernel
theorem dL_law_1942 : decode cL_law 1942 = .ok (.laload, 1) := by decide +kernel
theorem dL_law_1943 : decode cL_law 1943 = .ok (.iload 6, 2) := by decide +kernel
theorem dL_law_1945 : decode cL_law 1945 = .ok (.i2l, 1) := by decide +kernel
theorem dL_law_1946 : decode cL_law 1946 = .ok (.lcmp, 1) := by decide +kernel
theorem dL_law_1947 : decode cL_law 1947 = .ok (.ifCond .eq 5, 3) := by decide +kernel
theorem dL_law_1950 : decode cL_law 1950 = .ok (.iconst 0, 1) := by decide +kernel
theorem dL_law_1951 : decode cL_law 1951 = .ok (.ireturn, 1) := by decide +kernel
theorem dL_law_1952 : decode cL_law 1952 = .ok (.goto 828, 3) := by decide +kernel
theorem dL_law_1955 : decode cL_law 1955 = .ok (.aload_n 1, 1) := by decide +kernel
theorem dL_law_1956 : decode cL_law 1956 = .ok (.aload_n 0, 1) := by decide +kernel
theorem dL_law_1957 : decode cL_law 1957 = .ok (.iload 4, 2) := by decide +kernel
theorem dL_law_1959 : decode cL_law 1959 = .ok (.iconst 1, 1) := by decide +kernel
theorem dL_law_1960 : decode cL_law 1960 = .ok (.iadd, 1) := by decide +kernel
theorem dL_law_1961 : decode cL_law 1961 = .ok (.iaload, 1) := by decide +kernel
theorem dL_law_1962 : decode cL_law 1962 = .ok (.aload_n 0, 1) := by decide +kernel
theorem dL_law_1963 : decode cL_law 1963 = .ok (.iload 4, 2) := by decide +kernel
theorem dL_law_1965 : decode cL_law 1965 = .ok (.iconst 2, 1) := by decide +kernel
theorem dL_law_1966 : decode cL_law 1966 = .ok (.iadd, 1) := by decide +kernel
theorem dL_law_1967 : decode cL_law 1967 = .ok (.iaload, 1) := by decide +kernel
theorem dL_law_1968 : decode cL_law 1968 = .ok (.aload_n 3, 1) := by decide +kernel
theorem dL_law_1969 : decode cL_law 1969 = .ok (.invokestatic 232, 3) := by decide +kernel
theorem dL_law_1972 : decode cL_law 1972 = .ok (.istore 5, 2) := by decide +kernel
theorem dL_law_1974 : decode cL_law 1974 = .ok (.aload_n 2, 1) := by decide +kernel
theorem dL_law_1975 : decode cL_law 1975 = .ok (.aload_n 0, 1) := by decide +kernel
theorem dL_law_1976 : decode cL_law 1976 = .ok (.iload 4, 2) := by decide +kernel
theorem dL_law_1978 : decode cL_law 1978 = .ok (.iconst 1, 1) := by decide +kernel
theorem dL_law_1979 : decode cL_law 1979 = .ok (.iadd, 1) := by decide +kernel
theorem dL_law_1980 : decode cL_law 1980 = .ok (.iaload, 1) := by decide +kernel
theorem dL_law_1981 : decode cL_law 1981 = .ok (.aload_n 0, 1) := by decide +kernel
theorem dL_law_1982 : decode cL_law 1982 = .ok (.iload 4, 2) := by decide +kernel
theorem dL_law_1984 : decode cL_law 1984 = .ok (.iconst 2, 1) := by decide +kernel
theorem dL_law_1985 : decode cL_law 1985 = .ok (.iadd, 1) := by decide +kernel
theorem dL_law_1986 : decode cL_law 1986 = .ok (.iaload, 1) := by decide +kernel
theorem dL_law_1987 : decode cL_law 1987 = .ok (.invokevirtual 234, 3) := by decide +kernel
theorem dL_law_1990 : decode cL_law 1990 = .ok (.istore 6, 2) := by decide +kernel
theorem dL_law_1992 : decode cL_law 1992 = .ok (.aload_n 2, 1) := by decide +kernel
theorem dL_law_1993 : decode cL_law 1993 = .ok (.invokevirtual 139, 3) := by decide +kernel
theorem dL_law_1996 : decode cL_law 1996 = .ok (.iload 5, 2) := by decide +kernel
theorem dL_law_1998 : decode cL_law 1998 = .ok (.if_icmp .eq 5, 3) := by decide +kernel
theorem dL_law_2001 : decode cL_law 2001 = .ok (.iconst 0, 1) := by decide +kernel
theorem dL_law_2002 : decode cL_law 2002 = .ok (.ireturn, 1) := by decide +kernel
theorem dL_law_2003 : decode cL_law 2003 = .ok (.iload 5, 2) := by decide +kernel
theorem dL_law_2005 : decode cL_law 2005 = .ok (.ifCond .ne 15, 3) := by decide +kernel
theorem dL_law_2008 : decode cL_law 2008 = .ok (.aload_n 3, 1) := by decide +kernel
theorem dL_law_2009 : decode cL_law 2009 = .ok (.iconst 0, 1) := by decide +kernel
theorem dL_law_2010 : decode cL_law 2010 = .ok (.laload, 1) := by decide +kernel
theorem dL_law_2011 : decode cL_law 2011 = .ok (.iload 6, 2) := by decide +kernel
theorem dL_law_2013 : decode cL_law 2013 = .ok (.i2l, 1) := by decide +kernel
theorem dL_law_2014 : decode cL_law 2014 = .ok (.lcmp, 1) := by decide +kernel
theorem dL_law_2015 : decode cL_law 2015 = .ok (.ifCond .eq 5, 3) := by decide +kernel
theorem dL_law_2018 : decode cL_law 2018 = .ok (.iconst 0, 1) := by decide +kernel
theorem dL_law_2019 : decode cL_law 2019 = .ok (.ireturn, 1) := by decide +kernel
theorem dL_law_2020 : decode cL_law 2020 = .ok (.goto 760, 3) := by decide +kernel
theorem dL_law_2023 : decode cL_law 2023 = .ok (.aload_n 1, 1) := by decide +kernel
theorem dL_law_2024 : decode cL_law 2024 = .ok (.invokevirtual 235, 3) := by decide +kernel
theorem dL_law_2027 : decode cL_law 2027 = .ok (.aload_n 2, 1) := by decide +kernel
theorem dL_law_2028 : decode cL_law 2028 = .ok (.invokevirtual 238, 3) := by decide +kernel
theorem dL_law_2031 : decode cL_law 2031 = .ok (.if_icmp .eq 749, 3) := by decide +kernel
theorem dL_law_2034 : decode cL_law 2034 = .ok (.iconst 0, 1) := by decide +kernel
theorem dL_law_2035 : decode cL_law 2035 = .ok (.ireturn, 1) := by decide +kernel
theorem dL_law_2036 : decode cL_law 2036 = .ok (.aload_n 1, 1) := by decide +kernel
theorem dL_law_2037 : decode cL_law 2037 = .ok (.invokevirtual 239, 3) := by decide +kernel
theorem dL_law_2040 : decode cL_law 2040 = .ok (.aload_n 2, 1) := by decide +kernel
theorem dL_law_2041 : decode cL_law 2041 = .ok (.invokevirtual 242, 3) := by decide +kernel
theorem dL_law_2044 : decode cL_law 2044 = .ok (.if_icmp .eq 736, 3) := by decide +kernel
theorem dL_law_2047 : decode cL_law 2047 = .ok (.iconst 0, 1) := by decide +kernel
theorem dL_law_2048 : decode cL_law 2048 = .ok (.ireturn, 1) := by decide +kernel
theorem dL_law_2049 : decode cL_law 2049 = .ok (.aload_n 1, 1) := by decide +kernel
theorem dL_law_2050 : decode cL_law 2050 = .ok (.aload_n 0, 1) := by decide +kernel
theorem dL_law_2051 : decode cL_law 2051 = .ok (.iload 4, 2) := by decide +kernel
theorem dL_law_2053 : decode cL_law 2053 = .ok (.iconst 1, 1) := by decide +kernel
theorem dL_law_2054 : decode cL_law 2054 = .ok (.iadd, 1) := by decide +kernel
theorem dL_law_2055 : decode cL_law 2055 = .ok (.iaload, 1) := by decide +kernel
theorem dL_law_2056 : decode cL_law 2056 = .ok (.aload_n 3, 1) := by decide +kernel
theorem dL_law_2057 : decode cL_law 2057 = .ok (.invokestatic 243, 3) := by decide +kernel
theorem dL_law_2060 : decode cL_law 2060 = .ok (.istore 5, 2) := by decide +kernel
theorem dL_law_2062 : decode cL_law 2062 = .ok (.aload_n 2, 1) := by decide +kernel
theorem dL_law_2063 : decode cL_law 2063 = .ok (.aload_n 0, 1) := by decide +kernel
theorem dL_law_2064 : decode cL_law 2064 = .ok (.iload 4, 2) := by decide +kernel
theorem dL_law_2066 : decode cL_law 2066 = .ok (.iconst 1, 1) := by decide +kernel
theorem dL_law_2067 : decode cL_law 2067 = .ok (.iadd, 1) := by decide +kernel
theorem dL_law_2068 : decode cL_law 2068 = .ok (.iaload, 1) := by decide +kernel
theorem dL_law_2069 : decode cL_law 2069 = .ok (.invokevirtual 245, 3) := by decide +kernel
theorem dL_law_2072 : decode cL_law 2072 = .ok (.istore 6, 2) := by decide +kernel
theorem dL_law_2074 : decode cL_law 2074 = .ok (.aload_n 2, 1) := by decide +kernel
theorem dL_law_2075 : decode cL_law 2075 = .ok (.invokevirtual 139, 3) := by decide +kernel
theorem dL_law_2078 : decode cL_law 2078 = .ok (.iload 5, 2) := by decide +kernel
theorem dL_law_2080 : decode cL_law 2080 = .ok (.if_icmp .eq 5, 3) := by decide +kernel
theorem dL_law_2083 : decode cL_law 2083 = .ok (.iconst 0, 1) := by decide +kernel
theorem dL_law_2084 : decode cL_law 2084 = .ok (.ireturn, 1) := by decide +kernel
theorem dL_law_2085 : decode cL_law 2085 = .ok (.iload 5, 2) := by decide +kernel
theorem dL_law_2087 : decode cL_law 2087 = .ok (.ifCond .ne 15, 3) := by decide +kernel
theorem dL_law_2090 : decode cL_law 2090 = .ok (.aload_n 3, 1) := by decide +kernel
theorem dL_law_2091 : decode cL_law 2091 = .ok (.iconst 0, 1) := by decide +kernel
theorem dL_law_2092 : decode cL_law 2092 = .ok (.laload, 1) := by decide +kernel
theorem dL_law_2093 : decode cL_law 2093 = .ok (.iload 6, 2) := by decide +kernel
theorem dL_law_2095 : decode cL_law 2095 = .ok (.i2l, 1) := by decide +kernel
theorem dL_law_2096 : decode cL_law 2096 = .ok (.lcmp, 1) := by decide +kernel
theorem dL_law_2097 : decode cL_law 2097 = .ok (.ifCond .eq 5, 3) := by decide +kernel
theorem dL_law_2100 : decode cL_law 2100 = .ok (.iconst 0, 1) := by decide +kernel
theorem dL_law_2101 : decode cL_law 2101 = .ok (.ireturn, 1) := by decide +kernel
theorem dL_law_2102 : decode cL_law 2102 = .ok (.goto 678, 3) := by decide +kernel
theorem dL_law_2105 : decode cL_law 2105 = .ok (.aload_n 1, 1) := by decide +kernel
theorem dL_law_2106 : decode cL_law 2106 = .ok (.aload_n 0, 1) := by decide +kernel
theorem dL_law_2107 : decode cL_law 2107 = .ok (.iload 4, 2) := by decide +kernel
theorem dL_law_2109 : decode cL_law 2109 = .ok (.iconst 1, 1) := by decide +kernel
theorem dL_law_2110 : decode cL_law 2110 = .ok (.iadd, 1) := by decide +kernel
theorem dL_law_2111 : decode cL_law 2111 = .ok (.iaload, 1) := by decide +kernel
theorem dL_law_2112 : decode cL_law 2112 = .ok (.aload_n 0, 1) := by decide +kernel
theorem dL_law_2113 : decode cL_law 2113 = .ok (.iload 4, 2) := by decide +kernel
theorem dL_law_2115 : decode cL_law 2115 = .ok (.iconst 2, 1) := by decide +kernel
theorem dL_law_2116 : decode cL_law 2116 = .ok (.iadd, 1) := by decide +kernel
theorem dL_law_2117 : decode cL_law 2117 = .ok (.iaload, 1) := by decide +kernel
theorem dL_law_2118 : decode cL_law 2118 = .ok (.aload_n 3, 1) := by decide +kernel
theorem dL_law_2119 : decode cL_law 2119 = .ok (.invokestatic 246, 3) := by decide +kernel
theorem dL_law_2122 : decode cL_law 2122 = .ok (.istore 5, 2) := by decide +kernel
theorem dL_law_2124 : decode cL_law 2124 = .ok (.aload_n 2, 1) := by decide +kernel
theorem dL_law_2125 : decode cL_law 2125 = .ok (.aload_n 0, 1) := by decide +kernel
theorem dL_law_2126 : decode cL_law 2126 = .ok (.iload 4, 2) := by decide +kernel
theorem dL_law_2128 : decode cL_law 2128 = .ok (.iconst 1, 1) := by decide +kernel
theorem dL_law_2129 : decode cL_law 2129 = .ok (.iadd, 1) := by decide +kernel
theorem dL_law_2130 : decode cL_law 2130 = .ok (.iaload, 1) := by decide +kernel
theorem dL_law_2131 : decode cL_law 2131 = .ok (.aload_n 0, 1) := by decide +kernel
theorem dL_law_2132 : decode cL_law 2132 = .ok (.iload 4, 2) := by decide +kernel
theorem dL_law_2134 : decode cL_law 2134 = .ok (.iconst 2, 1) := by decide +kernel
theorem dL_law_2135 : decode cL_law 2135 = .ok (.iadd, 1) := by decide +kernel
theorem dL_law_2136 : decode cL_law 2136 = .ok (.iaload, 1) := by decide +kernel
theorem dL_law_2137 : decode cL_law 2137 = .ok (.invokevirtual 248, 3) := by decide +kernel
theorem dL_law_2140 : decode cL_law 2140 = .ok (.istore 6, 2) := by decide +kernel
theorem dL_law_2142 : decode cL_law 2142 = .ok (.aload_n 2, 1) := by decide +kernel
theorem dL_law_2143 : decode cL_law 2143 = .ok (.invokevirtual 139, 3) := by decide +kernel
theorem dL_law_2146 : decode cL_law 2146 = .ok (.iload 5, 2) := by decide +kernel
theorem dL_law_2148 : decode cL_law 2148 = .ok (.if_icmp .eq 5, 3) := by decide +kernel
theorem dL_law_2151 : decode cL_law 2151 = .ok (.iconst 0, 1) := by decide +kernel
theorem dL_law_2152 : decode cL_law 2152 = .ok (.ireturn, 1) := by decide +kernel
theorem dL_law_2153 : decode cL_law 2153 = .ok (.iload 5, 2) := by decide +kernel
theorem dL_law_2155 : decode cL_law 2155 = .ok (.ifCond .ne 15, 3) := by decide +kernel
theorem dL_law_2158 : decode cL_law 2158 = .ok (.aload_n 3, 1) := by decide +kernel
theorem dL_law_2159 : decode cL_law 2159 = .ok (.iconst 0, 1) := by decide +kernel
theorem dL_law_2160 : decode cL_law 2160 = .ok (.laload, 1) := by decide +kernel
theorem dL_law_2161 : decode cL_law 2161 = .ok (.iload 6, 2) := by decide +kernel
theorem dL_law_2163 : decode cL_law 2163 = .ok (.i2l, 1) := by decide +kernel
theorem dL_law_2164 : decode cL_law 2164 = .ok (.lcmp, 1) := by decide +kernel
theorem dL_law_2165 : decode cL_law 2165 = .ok (.ifCond .eq 5, 3) := by decide +kernel
theorem dL_law_2168 : decode cL_law 2168 = .ok (.iconst 0, 1) := by decide +kernel
theorem dL_law_2169 : decode cL_law 2169 = .ok (.ireturn, 1) := by decide +kernel
theorem dL_law_2170 : decode cL_law 2170 = .ok (.goto 610, 3) := by decide +kernel
theorem dL_law_2173 : decode cL_law 2173 = .ok (.aload_n 1, 1) := by decide +kernel
theorem dL_law_2174 : decode cL_law 2174 = .ok (.aload_n 0, 1) := by decide +kernel
theorem dL_law_2175 : decode cL_law 2175 = .ok (.iload 4, 2) := by decide +kernel
theorem dL_law_2177 : decode cL_law 2177 = .ok (.iconst 1, 1) := by decide +kernel
theorem dL_law_2178 : decode cL_law 2178 = .ok (.iadd, 1) := by decide +kernel
theorem dL_law_2179 : decode cL_law 2179 = .ok (.iaload, 1) := by decide +kernel
theorem dL_law_2180 : decode cL_law 2180 = .ok (.aload_n 3, 1) := by decide +kernel
theorem dL_law_2181 : decode cL_law 2181 = .ok (.invokestatic 249, 3) := by decide +kernel
theorem dL_law_2184 : decode cL_law 2184 = .ok (.istore 5, 2) := by decide +kernel
theorem dL_law_2186 : decode cL_law 2186 = .ok (.aload_n 2, 1) := by decide +kernel
theorem dL_law_2187 : decode cL_law 2187 = .ok (.aload_n 0, 1) := by decide +kernel
theorem dL_law_2188 : decode cL_law 2188 = .ok (.iload 4, 2) := by decide +kernel
theorem dL_law_2190 : decode cL_law 2190 = .ok (.iconst 1, 1) := by decide +kernel
theorem dL_law_2191 : decode cL_law 2191 = .ok (.iadd, 1) := by decide +kernel
theorem dL_law_2192 : decode cL_law 2192 = .ok (.iaload, 1) := by decide +kernel
theorem dL_law_2193 : decode cL_law 2193 = .ok (.invokevirtual 251, 3) := by decide +kernel
theorem dL_law_2196 : decode cL_law 2196 = .ok (.istore 6, 2) := by decide +kernel
theorem dL_law_2198 : decode cL_law 2198 = .ok (.aload_n 2, 1) := by decide +kernel
theorem dL_law_2199 : decode cL_law 2199 = .ok (.invokevirtual 139, 3) := by decide +kernel
theorem dL_law_2202 : decode cL_law 2202 = .ok (.iload 5, 2) := by decide +kernel
theorem dL_law_2204 : decode cL_law 2204 = .ok (.if_icmp .eq 5, 3) := by decide +kernel
theorem dL_law_2207 : decode cL_law 2207 = .ok (.iconst 0, 1) := by decide +kernel
theorem dL_law_2208 : decode cL_law 2208 = .ok (.ireturn, 1) := by decide +kernel
theorem dL_law_2209 : decode cL_law 2209 = .ok (.iload 5, 2) := by decide +kernel
theorem dL_law_2211 : decode cL_law 2211 = .ok (.ifCond .ne 15, 3) := by decide +kernel
theorem dL_law_2214 : decode cL_law 2214 = .ok (.aload_n 3, 1) := by decide +kernel
theorem dL_law_2215 : decode cL_law 2215 = .ok (.iconst 0, 1) := by decide +kernel
theorem dL_law_2216 : decode cL_law 2216 = .ok (.laload, 1) := by decide +kernel
theorem dL_law_2217 : decode cL_law 2217 = .ok (.iload 6, 2) := by decide +kernel
theorem dL_law_2219 : decode cL_law 2219 = .ok (.i2l, 1) := by decide +kernel
theorem dL_law_2220 : decode cL_law 2220 = .ok (.lcmp, 1) := by decide +kernel
theorem dL_law_2221 : decode cL_law 2221 = .ok (.ifCond .eq 5, 3) := by decide +kernel
theorem dL_law_2224 : decode cL_law 2224 = .ok (.iconst 0, 1) := by decide +kernel
theorem dL_law_2225 : decode cL_law 2225 = .ok (.ireturn, 1) := by decide +kernel
theorem dL_law_2226 : decode cL_law 2226 = .ok (.goto 554, 3) := by decide +kernel
theorem dL_law_2229 : decode cL_law 2229 = .ok (.aload_n 1, 1) := by decide +kernel
theorem dL_law_2230 : decode cL_law 2230 = .ok (.aload_n 0, 1) := by decide +kernel
theorem dL_law_2231 : decode cL_law 2231 = .ok (.iload 4, 2) := by decide +kernel
theorem dL_law_2233 : decode cL_law 2233 = .ok (.iconst 1, 1) := by decide +kernel
theorem dL_law_2234 : decode cL_law 2234 = .ok (.iadd, 1) := by decide +kernel
theorem dL_law_2235 : decode cL_law 2235 = .ok (.iaload, 1) := by decide +kernel
theorem dL_law_2236 : decode cL_law 2236 = .ok (.aload_n 0, 1) := by decide +kernel
theorem dL_law_2237 : decode cL_law 2237 = .ok (.iload 4, 2) := by decide +kernel
theorem dL_law_2239 : decode cL_law 2239 = .ok (.iconst 2, 1) := by decide +kernel
theorem dL_law_2240 : decode cL_law 2240 = .ok (.iadd, 1) := by decide +kernel
theorem dL_law_2241 : decode cL_law 2241 = .ok (.iaload, 1) := by decide +kernel
theorem dL_law_2242 : decode cL_law 2242 = .ok (.aload_n 3, 1) := by decide +kernel
theorem dL_law_2243 : decode cL_law 2243 = .ok (.invokestatic 252, 3) := by decide +kernel
theorem dL_law_2246 : decode cL_law 2246 = .ok (.istore 5, 2) := by decide +kernel
theorem dL_law_2248 : decode cL_law 2248 = .ok (.aload_n 2, 1) := by decide +kernel
theorem dL_law_2249 : decode cL_law 2249 = .ok (.aload_n 0, 1) := by decide +kernel
theorem dL_law_2250 : decode cL_law 2250 = .ok (.iload 4, 2) := by decide +kernel
theorem dL_law_2252 : decode cL_law 2252 = .ok (.iconst 1, 1) := by decide +kernel
theorem dL_law_2253 : decode cL_law 2253 = .ok (.iadd, 1) := by decide +kernel
theorem dL_law_2254 : decode cL_law 2254 = .ok (.iaload, 1) := by decide +kernel
theorem dL_law_2255 : decode cL_law 2255 = .ok (.aload_n 0, 1) := by decide +kernel
theorem dL_law_2256 : decode cL_law 2256 = .ok (.iload 4, 2) := by decide +kernel
theorem dL_law_2258 : decode cL_law 2258 = .ok (.iconst 2, 1) := by decide +kernel
theorem dL_law_2259 : decode cL_law 2259 = .ok (.iadd, 1) := by decide +kernel
theorem dL_law_2260 : decode cL_law 2260 = .ok (.iaload, 1) := by decide +kernel
theorem dL_law_2261 : decode cL_law 2261 = .ok (.invokevirtual 254, 3) := by decide +kernel
theorem dL_law_2264 : decode cL_law 2264 = .ok (.istore 6, 2) := by decide +kernel
theorem dL_law_2266 : decode cL_law 2266 = .ok (.aload_n 2, 1) := by decide +kernel
theorem dL_law_2267 : decode cL_law 2267 = .ok (.invokevirtual 139, 3) := by decide +kernel
theorem dL_law_2270 : decode cL_law 2270 = .ok (.iload 5, 2) := by decide +kernel
theorem dL_law_2272 : decode cL_law 2272 = .ok (.if_icmp .eq 5, 3) := by decide +kernel
theorem dL_law_2275 : decode cL_law 2275 = .ok (.iconst 0, 1) := by decide +kernel
theorem dL_law_2276 : decode cL_law 2276 = .ok (.ireturn, 1) := by decide +kernel
theorem dL_law_2277 : decode cL_law 2277 = .ok (.iload 5, 2) := by decide +kernel
theorem dL_law_2279 : decode cL_law 2279 = .ok (.ifCond .ne 15, 3) := by decide +kernel
theorem dL_law_2282 : decode cL_law 2282 = .ok (.aload_n 3, 1) := by decide +kernel
theorem dL_law_2283 : decode cL_law 2283 = .ok (.iconst 0, 1) := by decide +kernel
theorem dL_law_2284 : decode cL_law 2284 = .ok (.laload, 1) := by decide +kernel
theorem dL_law_2285 : decode cL_law 2285 = .ok (.iload 6, 2) := by decide +kernel
theorem dL_law_2287 : decode cL_law 2287 = .ok (.i2l, 1) := by decide +kernel
theorem dL_law_2288 : decode cL_law 2288 = .ok (.lcmp, 1) := by decide +kernel
theorem dL_law_2289 : decode cL_law 2289 = .ok (.ifCond .eq 5, 3) := by decide +kernel
theorem dL_law_2292 : decode cL_law 2292 = .ok (.iconst 0, 1) := by decide +kernel
theorem dL_law_2293 : decode cL_law 2293 = .ok (.ireturn, 1) := by decide +kernel
theorem dL_law_2294 : decode cL_law 2294 = .ok (.goto 486, 3) := by decide +kernel
theorem dL_law_2297 : decode cL_law 2297 = .ok (.aload_n 1, 1) := by decide +kernel
theorem dL_law_2298 : decode cL_law 2298 = .ok (.aload_n 0, 1) := by decide +kernel
theorem dL_law_2299 : decode cL_law 2299 = .ok (.iload 4, 2) := by decide +kernel
theorem dL_law_2301 : decode cL_law 2301 = .ok (.iconst 1, 1) := by decide +kernel
theorem dL_law_2302 : decode cL_law 2302 = .ok (.iadd, 1) := by decide +kernel
theorem dL_law_2303 : decode cL_law 2303 = .ok (.iaload, 1) := by decide +kernel
theorem dL_law_2304 : decode cL_law 2304 = .ok (.aload_n 0, 1) := by decide +kernel
theorem dL_law_2305 : decode cL_law 2305 = .ok (.iload 4, 2) := by decide +kernel
theorem dL_law_2307 : decode cL_law 2307 = .ok (.iconst 2, 1) := by decide +kernel
theorem dL_law_2308 : decode cL_law 2308 = .ok (.iadd, 1) := by decide +kernel
theorem dL_law_2309 : decode cL_law 2309 = .ok (.iaload, 1) := by decide +kernel
theorem dL_law_2310 : decode cL_law 2310 = .ok (.aload_n 3, 1) := by decide +kernel
theorem dL_law_2311 : decode cL_law 2311 = .ok (.invokestatic 255, 3) := by decide +kernel
theorem dL_law_2314 : decode cL_law 2314 = .ok (.istore 5, 2) := by decide +kernel
theorem dL_law_2316 : decode cL_law 2316 = .ok (.aload_n 2, 1) := by decide +kernel
theorem dL_law_2317 : decode cL_law 2317 = .ok (.aload_n 0, 1) := by decide +kernel
theorem dL_law_2318 : decode cL_law 2318 = .ok (.iload 4, 2) := by decide +kernel
theorem dL_law_2320 : decode cL_law 2320 = .ok (.iconst 1, 1) := by decide +kernel
theorem dL_law_2321 : decode cL_law 2321 = .ok (.iadd, 1) := by decide +kernel
theorem dL_law_2322 : decode cL_law 2322 = .ok (.iaload, 1) := by decide +kernel
theorem dL_law_2323 : decode cL_law 2323 = .ok (.aload_n 0, 1) := by decide +kernel
theorem dL_law_2324 : decode cL_law 2324 = .ok (.iload 4, 2) := by decide +kernel
theorem dL_law_2326 : decode cL_law 2326 = .ok (.iconst 2, 1) := by decide +kernel
theorem dL_law_2327 : decode cL_law 2327 = .ok (.iadd, 1) := by decide +kernel
theorem dL_law_2328 : decode cL_law 2328 = .ok (.iaload, 1) := by decide +kernel
theorem dL_law_2329 : decode cL_law 2329 = .ok (.invokevirtual 257, 3) := by decide +kernel
theorem dL_law_2332 : decode cL_law 2332 = .ok (.istore 6, 2) := by decide +kernel
theorem dL_law_2334 : decode cL_law 2334 = .ok (.aload_n 2, 1) := by decide +kernel
theorem dL_law_2335 : decode cL_law 2335 = .ok (.invokevirtual 139, 3) := by decide +kernel
theorem dL_law_2338 : decode cL_law 2338 = .ok (.iload 5, 2) := by decide +kernel
theorem dL_law_2340 : decode cL_law 2340 = .ok (.if_icmp .eq 5, 3) := by decide +kernel
theorem dL_law_2343 : decode cL_law 2343 = .ok (.iconst 0, 1) := by decide +kernel
theorem dL_law_2344 : decode cL_law 2344 = .ok (.ireturn, 1) := by decide +kernel
theorem dL_law_2345 : decode cL_law 2345 = .ok (.iload 5, 2) := by decide +kernel
theorem dL_law_2347 : decode cL_law 2347 = .ok (.ifCond .ne 15, 3) := by decide +kernel
theorem dL_law_2350 : decode cL_law 2350 = .ok (.aload_n 3, 1) := by decide +kernel
theorem dL_law_2351 : decode cL_law 2351 = .ok (.iconst 0, 1) := by decide +kernel
theorem dL_law_2352 : decode cL_law 2352 = .ok (.laload, 1) := by decide +kernel
theorem dL_law_2353 : decode cL_law 2353 = .ok (.iload 6, 2) := by decide +kernel
theorem dL_law_2355 : decode cL_law 2355 = .ok (.i2l, 1) := by decide +kernel
theorem dL_law_2356 : decode cL_law 2356 = .ok (.lcmp, 1) := by decide +kernel
theorem dL_law_2357 : decode cL_law 2357 = .ok (.ifCond .eq 5, 3) := by decide +kernel
theorem dL_law_2360 : decode cL_law 2360 = .ok (.iconst 0, 1) := by decide +kernel
theorem dL_law_2361 : decode cL_law 2361 = .ok (.ireturn, 1) := by decide +kernel
theorem dL_law_2362 : decode cL_law 2362 = .ok (.goto 418, 3) := by decide +kernel
theorem dL_law_2365 : decode cL_law 2365 = .ok (.aload_n 1, 1) := by decide +kernel
theorem dL_law_2366 : decode cL_law 2366 = .ok (.aload_n 0, 1) := by decide +kernel
theorem dL_law_2367 : decode cL_law 2367 = .ok (.iload 4, 2) := by decide +kernel
theorem dL_law_2369 : decode cL_law 2369 = .ok (.iconst 1, 1) := by decide +kernel
theorem dL_law_2370 : decode cL_law 2370 = .ok (.iadd, 1) := by decide +kernel
theorem dL_law_2371 : decode cL_law 2371 = .ok (.iaload, 1) := by decide +kernel
theorem dL_law_2372 : decode cL_law 2372 = .ok (.aload_n 0, 1) := by decide +kernel
theorem dL_law_2373 : decode cL_law 2373 = .ok (.iload 4, 2) := by decide +kernel
theorem dL_law_2375 : decode cL_law 2375 = .ok (.iconst 2, 1) := by decide +kernel
theorem dL_law_2376 : decode cL_law 2376 = .ok (.iadd, 1) := by decide +kernel
theorem dL_law_2377 : decode cL_law 2377 = .ok (.iaload, 1) := by decide +kernel
theorem dL_law_2378 : decode cL_law 2378 = .ok (.aload_n 0, 1) := by decide +kernel
theorem dL_law_2379 : decode cL_law 2379 = .ok (.iload 4, 2) := by decide +kernel
theorem dL_law_2381 : decode cL_law 2381 = .ok (.iconst 3, 1) := by decide +kernel
theorem dL_law_2382 : decode cL_law 2382 = .ok (.iadd, 1) := by decide +kernel
theorem dL_law_2383 : decode cL_law 2383 = .ok (.iaload, 1) := by decide +kernel
theorem dL_law_2384 : decode cL_law 2384 = .ok (.ifCond .eq 7, 3) := by decide +kernel
theorem dL_law_2387 : decode cL_law 2387 = .ok (.iconst 1, 1) := by decide +kernel
theorem dL_law_2388 : decode cL_law 2388 = .ok (.goto 4, 3) := by decide +kernel
theorem dL_law_2391 : decode cL_law 2391 = .ok (.iconst 0, 1) := by decide +kernel
theorem dL_law_2392 : decode cL_law 2392 = .ok (.aload_n 3, 1) := by decide +kernel
theorem dL_law_2393 : decode cL_law 2393 = .ok (.invokestatic 258, 3) := by decide +kernel
theorem dL_law_2396 : decode cL_law 2396 = .ok (.istore 5, 2) := by decide +kernel
theorem dL_law_2398 : decode cL_law 2398 = .ok (.aload_n 2, 1) := by decide +kernel
theorem dL_law_2399 : decode cL_law 2399 = .ok (.aload_n 0, 1) := by decide +kernel
theorem dL_law_2400 : decode cL_law 2400 = .ok (.iload 4, 2) := by decide +kernel
theorem dL_law_2402 : decode cL_law 2402 = .ok (.iconst 1, 1) := by decide +kernel
theorem dL_law_2403 : decode cL_law 2403 = .ok (.iadd, 1) := by decide +kernel
theorem dL_law_2404 : decode cL_law 2404 = .ok (.iaload, 1) := by decide +kernel
theorem dL_law_2405 : decode cL_law 2405 = .ok (.aload_n 0, 1) := by decide +kernel
theorem dL_law_2406 : decode cL_law 2406 = .ok (.iload 4, 2) := by decide +kernel
theorem dL_law_2408 : decode cL_law 2408 = .ok (.iconst 2, 1) := by decide +kernel
theorem dL_law_2409 : decode cL_law 2409 = .ok (.iadd, 1) := by decide +kernel
theorem dL_law_2410 : decode cL_law 2410 = .ok (.iaload, 1) := by decide +kernel
theorem dL_law_2411 : decode cL_law 2411 = .ok (.aload_n 0, 1) := by decide +kernel
theorem dL_law_2412 : decode cL_law 2412 = .ok (.iload 4, 2) := by decide +kernel
theorem dL_law_2414 : decode cL_law 2414 = .ok (.iconst 3, 1) := by decide +kernel
theorem dL_law_2415 : decode cL_law 2415 = .ok (.iadd, 1) := by decide +kernel
theorem dL_law_2416 : decode cL_law 2416 = .ok (.iaload, 1) := by decide +kernel
theorem dL_law_2417 : decode cL_law 2417 = .ok (.ifCond .eq 7, 3) := by decide +kernel
theorem dL_law_2420 : decode cL_law 2420 = .ok (.iconst 1, 1) := by decide +kernel
theorem dL_law_2421 : decode cL_law 2421 = .ok (.goto 4, 3) := by decide +kernel
theorem dL_law_2424 : decode cL_law 2424 = .ok (.iconst 0, 1) := by decide +kernel
theorem dL_law_2425 : decode cL_law 2425 = .ok (.invokevirtual 260, 3) := by decide +kernel
theorem dL_law_2428 : decode cL_law 2428 = .ok (.istore 6, 2) := by decide +kernel
theorem dL_law_2430 : decode cL_law 2430 = .ok (.aload_n 2, 1) := by decide +kernel
theorem dL_law_2431 : decode cL_law 2431 = .ok (.invokevirtual 139, 3) := by decide +kernel
theorem dL_law_2434 : decode cL_law 2434 = .ok (.iload 5, 2) := by decide +kernel
theorem dL_law_2436 : decode cL_law 2436 = .ok (.if_icmp .eq 5, 3) := by decide +kernel
theorem dL_law_2439 : decode cL_law 2439 = .ok (.iconst 0, 1) := by decide +kernel
theorem dL_law_2440 : decode cL_law 2440 = .ok (.ireturn, 1) := by decide +kernel
theorem dL_law_2441 : decode cL_law 2441 = .ok (.iload 5, 2) := by decide +kernel
theorem dL_law_2443 : decode cL_law 2443 = .ok (.ifCond .ne 15, 3) := by decide +kernel
theorem dL_law_2446 : decode cL_law 2446 = .ok (.aload_n 3, 1) := by decide +kernel
theorem dL_law_2447 : decode cL_law 2447 = .ok (.iconst 0, 1) := by decide +kernel
theorem dL_law_2448 : decode cL_law 2448 = .ok (.laload, 1) := by decide +kernel
theorem dL_law_2449 : decode cL_law 2449 = .ok (.iload 6, 2) := by decide +kernel
theorem dL_law_2451 : decode cL_law 2451 = .ok (.i2l, 1) := by decide +kernel
theorem dL_law_2452 : decode cL_law 2452 = .ok (.lcmp, 1) := by decide +kernel
theorem dL_law_2453 : decode cL_law 2453 = .ok (.ifCond .eq 5, 3) := by decide +kernel
theorem dL_law_2456 : decode cL_law 2456 = .ok (.iconst 0, 1) := by decide +kernel
theorem dL_law_2457 : decode cL_law 2457 = .ok (.ireturn, 1) := by decide +kernel
theorem dL_law_2458 : decode cL_law 2458 = .ok (.goto 322, 3) := by decide +kernel
theorem dL_law_2461 : decode cL_law 2461 = .ok (.aload_n 1, 1) := by decide +kernel
theorem dL_law_2462 : decode cL_law 2462 = .ok (.aload_n 0, 1) := by decide +kernel
theorem dL_law_2463 : decode cL_law 2463 = .ok (.iload 4, 2) := by decide +kernel
theorem dL_law_2465 : decode cL_law 2465 = .ok (.iconst 1, 1) := by decide +kernel
theorem dL_law_2466 : decode cL_law 2466 = .ok (.iadd, 1) := by decide +kernel
theorem dL_law_2467 : decode cL_law 2467 = .ok (.iaload, 1) := by decide +kernel
theorem dL_law_2468 : decode cL_law 2468 = .ok (.aload_n 3, 1) := by decide +kernel
theorem dL_law_2469 : decode cL_law 2469 = .ok (.invokestatic 261, 3) := by decide +kernel
theorem dL_law_2472 : decode cL_law 2472 = .ok (.istore 5, 2) := by decide +kernel
theorem dL_law_2474 : decode cL_law 2474 = .ok (.aload_n 2, 1) := by decide +kernel
theorem dL_law_2475 : decode cL_law 2475 = .ok (.aload_n 0, 1) := by decide +kernel
theorem dL_law_2476 : decode cL_law 2476 = .ok (.iload 4, 2) := by decide +kernel
theorem dL_law_2478 : decode cL_law 2478 = .ok (.iconst 1, 1) := by decide +kernel
theorem dL_law_2479 : decode cL_law 2479 = .ok (.iadd, 1) := by decide +kernel
theorem dL_law_2480 : decode cL_law 2480 = .ok (.iaload, 1) := by decide +kernel
theorem dL_law_2481 : decode cL_law 2481 = .ok (.invokevirtual 263, 3) := by decide +kernel
theorem dL_law_2484 : decode cL_law 2484 = .ok (.istore 6, 2) := by decide +kernel
theorem dL_law_2486 : decode cL_law 2486 = .ok (.aload_n 2, 1) := by decide +kernel
theorem dL_law_2487 : decode cL_law 2487 = .ok (.invokevirtual 139, 3) := by decide +kernel
theorem dL_law_2490 : decode cL_law 2490 = .ok (.iload 5, 2) := by decide +kernel
theorem dL_law_2492 : decode cL_law 2492 = .ok (.if_icmp .eq 5, 3) := by decide +kernel
theorem dL_law_2495 : decode cL_law 2495 = .ok (.iconst 0, 1) := by decide +kernel
theorem dL_law_2496 : decode cL_law 2496 = .ok (.ireturn, 1) := by decide +kernel
theorem dL_law_2497 : decode cL_law 2497 = .ok (.iload 5, 2) := by decide +kernel
theorem dL_law_2499 : decode cL_law 2499 = .ok (.ifCond .ne 15, 3) := by decide +kernel
theorem dL_law_2502 : decode cL_law 2502 = .ok (.aload_n 3, 1) := by decide +kernel
theorem dL_law_2503 : decode cL_law 2503 = .ok (.iconst 0, 1) := by decide +kernel
theorem dL_law_2504 : decode cL_law 2504 = .ok (.laload, 1) := by decide +kernel
theorem dL_law_2505 : decode cL_law 2505 = .ok (.iload 6, 2) := by decide +kernel
theorem dL_law_2507 : decode cL_law 2507 = .ok (.i2l, 1) := by decide +kernel
theorem dL_law_2508 : decode cL_law 2508 = .ok (.lcmp, 1) := by decide +kernel
theorem dL_law_2509 : decode cL_law 2509 = .ok (.ifCond .eq 5, 3) := by decide +kernel
theorem dL_law_2512 : decode cL_law 2512 = .ok (.iconst 0, 1) := by decide +kernel
theorem dL_law_2513 : decode cL_law 2513 = .ok (.ireturn, 1) := by decide +kernel
theorem dL_law_2514 : decode cL_law 2514 = .ok (.goto 266, 3) := by decide +kernel
theorem dL_law_2517 : decode cL_law 2517 = .ok (.aload_n 1, 1) := by decide +kernel
theorem dL_law_2518 : decode cL_law 2518 = .ok (.aload_n 0, 1) := by decide +kernel
theorem dL_law_2519 : decode cL_law 2519 = .ok (.iload 4, 2) := by decide +kernel
theorem dL_law_2521 : decode cL_law 2521 = .ok (.iconst 1, 1) := by decide +kernel
theorem dL_law_2522 : decode cL_law 2522 = .ok (.iadd, 1) := by decide +kernel
theorem dL_law_2523 : decode cL_law 2523 = .ok (.iaload, 1) := by decide +kernel
theorem dL_law_2524 : decode cL_law 2524 = .ok (.aload_n 0, 1) := by decide +kernel
theorem dL_law_2525 : decode cL_law 2525 = .ok (.iload 4, 2) := by decide +kernel
theorem dL_law_2527 : decode cL_law 2527 = .ok (.iconst 2, 1) := by decide +kernel
theorem dL_law_2528 : decode cL_law 2528 = .ok (.iadd, 1) := by decide +kernel
theorem dL_law_2529 : decode cL_law 2529 = .ok (.iaload, 1) := by decide +kernel
theorem dL_law_2530 : decode cL_law 2530 = .ok (.aload_n 3, 1) := by decide +kernel
theorem dL_law_2531 : decode cL_law 2531 = .ok (.invokestatic 264, 3) := by decide +kernel
theorem dL_law_2534 : decode cL_law 2534 = .ok (.istore 5, 2) := by decide +kernel
theorem dL_law_2536 : decode cL_law 2536 = .ok (.aload_n 2, 1) := by decide +kernel
theorem dL_law_2537 : decode cL_law 2537 = .ok (.aload_n 0, 1) := by decide +kernel
theorem dL_law_2538 : decode cL_law 2538 = .ok (.iload 4, 2) := by decide +kernel
theorem dL_law_2540 : decode cL_law 2540 = .ok (.iconst 1, 1) := by decide +kernel
theorem dL_law_2541 : decode cL_law 2541 = .ok (.iadd, 1) := by decide +kernel
theorem dL_law_2542 : decode cL_law 2542 = .ok (.iaload, 1) := by decide +kernel
theorem dL_law_2543 : decode cL_law 2543 = .ok (.aload_n 0, 1) := by decide +kernel
theorem dL_law_2544 : decode cL_law 2544 = .ok (.iload 4, 2) := by decide +kernel
theorem dL_law_2546 : decode cL_law 2546 = .ok (.iconst 2, 1) := by decide +kernel
theorem dL_law_2547 : decode cL_law 2547 = .ok (.iadd, 1) := by decide +kernel
theorem dL_law_2548 : decode cL_law 2548 = .ok (.iaload, 1) := by decide +kernel
theorem dL_law_2549 : decode cL_law 2549 = .ok (.invokevirtual 266, 3) := by decide +kernel
theorem dL_law_2552 : decode cL_law 2552 = .ok (.istore 6, 2) := by decide +kernel
theorem dL_law_2554 : decode cL_law 2554 = .ok (.aload_n 2, 1) := by decide +kernel
theorem dL_law_2555 : decode cL_law 2555 = .ok (.invokevirtual 139, 3) := by decide +kernel
theorem dL_law_2558 : decode cL_law 2558 = .ok (.iload 5, 2) := by decide +kernel
theorem dL_law_2560 : decode cL_law 2560 = .ok (.if_icmp .eq 5, 3) := by decide +kernel
theorem dL_law_2563 : decode cL_law 2563 = .ok (.iconst 0, 1) := by decide +kernel
theorem dL_law_2564 : decode cL_law 2564 = .ok (.ireturn, 1) := by decide +kernel
theorem dL_law_2565 : decode cL_law 2565 = .ok (.iload 5, 2) := by decide +kernel
theorem dL_law_2567 : decode cL_law 2567 = .ok (.ifCond .ne 15, 3) := by decide +kernel
theorem dL_law_2570 : decode cL_law 2570 = .ok (.aload_n 3, 1) := by decide +kernel
theorem dL_law_2571 : decode cL_law 2571 = .ok (.iconst 0, 1) := by decide +kernel
theorem dL_law_2572 : decode cL_law 2572 = .ok (.laload, 1) := by decide +kernel
theorem dL_law_2573 : decode cL_law 2573 = .ok (.iload 6, 2) := by decide +kernel
theorem dL_law_2575 : decode cL_law 2575 = .ok (.i2l, 1) := by decide +kernel
theorem dL_law_2576 : decode cL_law 2576 = .ok (.lcmp, 1) := by decide +kernel
theorem dL_law_2577 : decode cL_law 2577 = .ok (.ifCond .eq 5, 3) := by decide +kernel
theorem dL_law_2580 : decode cL_law 2580 = .ok (.iconst 0, 1) := by decide +kernel
theorem dL_law_2581 : decode cL_law 2581 = .ok (.ireturn, 1) := by decide +kernel
theorem dL_law_2582 : decode cL_law 2582 = .ok (.goto 198, 3) := by decide +kernel
theorem dL_law_2585 : decode cL_law 2585 = .ok (.aload_n 1, 1) := by decide +kernel
theorem dL_law_2586 : decode cL_law 2586 = .ok (.invokevirtual 267, 3) := by decide +kernel
theorem dL_law_2589 : decode cL_law 2589 = .ok (.aload_n 2, 1) := by decide +kernel
theorem dL_law_2590 : decode cL_law 2590 = .ok (.invokevirtual 270, 3) := by decide +kernel
theorem dL_law_2593 : decode cL_law 2593 = .ok (.goto 187, 3) := by decide +kernel
theorem dL_law_2596 : decode cL_law 2596 = .ok (.aload_n 1, 1) := by decide +kernel
theorem dL_law_2597 : decode cL_law 2597 = .ok (.aload_n 0, 1) := by decide +kernel
theorem dL_law_2598 : decode cL_law 2598 = .ok (.iload 4, 2) := by decide +kernel
theorem dL_law_2600 : decode cL_law 2600 = .ok (.iconst 1, 1) := by decide +kernel
theorem dL_law_2601 : decode cL_law 2601 = .ok (.iadd, 1) := by decide +kernel
theorem dL_law_2602 : decode cL_law 2602 = .ok (.iaload, 1) := by decide +kernel
theorem dL_law_2603 : decode cL_law 2603 = .ok (.aload_n 0, 1) := by decide +kernel
theorem dL_law_2604 : decode cL_law 2604 = .ok (.iload 4, 2) := by decide +kernel
theorem dL_law_2606 : decode cL_law 2606 = .ok (.iconst 2, 1) := by decide +kernel
theorem dL_law_2607 : decode cL_law 2607 = .ok (.iadd, 1) := by decide +kernel
theorem dL_law_2608 : decode cL_law 2608 = .ok (.iaload, 1) := by decide +kernel
theorem dL_law_2609 : decode cL_law 2609 = .ok (.aload_n 0, 1) := by decide +kernel
theorem dL_law_2610 : decode cL_law 2610 = .ok (.iload 4, 2) := by decide +kernel
theorem dL_law_2612 : decode cL_law 2612 = .ok (.iconst 3, 1) := by decide +kernel
theorem dL_law_2613 : decode cL_law 2613 = .ok (.iadd, 1) := by decide +kernel
theorem dL_law_2614 : decode cL_law 2614 = .ok (.iaload, 1) := by decide +kernel
theorem dL_law_2615 : decode cL_law 2615 = .ok (.aload_n 3, 1) := by decide +kernel
theorem dL_law_2616 : decode cL_law 2616 = .ok (.invokestatic 271, 3) := by decide +kernel
theorem dL_law_2619 : decode cL_law 2619 = .ok (.istore 5, 2) := by decide +kernel
theorem dL_law_2621 : decode cL_law 2621 = .ok (.aload_n 2, 1) := by decide +kernel
theorem dL_law_2622 : decode cL_law 2622 = .ok (.aload_n 0, 1) := by decide +kernel
theorem dL_law_2623 : decode cL_law 2623 = .ok (.iload 4, 2) := by decide +kernel
theorem dL_law_2625 : decode cL_law 2625 = .ok (.iconst 1, 1) := by decide +kernel
theorem dL_law_2626 : decode cL_law 2626 = .ok (.iadd, 1) := by decide +kernel
theorem dL_law_2627 : decode cL_law 2627 = .ok (.iaload, 1) := by decide +kernel
theorem dL_law_2628 : decode cL_law 2628 = .ok (.aload_n 0, 1) := by decide +kernel
theorem dL_law_2629 : decode cL_law 2629 = .ok (.iload 4, 2) := by decide +kernel
theorem dL_law_2631 : decode cL_law 2631 = .ok (.iconst 2, 1) := by decide +kernel
theorem dL_law_2632 : decode cL_law 2632 = .ok (.iadd, 1) := by decide +kernel
theorem dL_law_2633 : decode cL_law 2633 = .ok (.iaload, 1) := by decide +kernel
theorem dL_law_2634 : decode cL_law 2634 = .ok (.aload_n 0, 1) := by decide +kernel
theorem dL_law_2635 : decode cL_law 2635 = .ok (.iload 4, 2) := by decide +kernel
theorem dL_law_2637 : decode cL_law 2637 = .ok (.iconst 3, 1) := by decide +kernel
theorem dL_law_2638 : decode cL_law 2638 = .ok (.iadd, 1) := by decide +kernel
theorem dL_law_2639 : decode cL_law 2639 = .ok (.iaload, 1) := by decide +kernel
theorem dL_law_2640 : decode cL_law 2640 = .ok (.invokevirtual 273, 3) := by decide +kernel
theorem dL_law_2643 : decode cL_law 2643 = .ok (.istore 6, 2) := by decide +kernel
theorem dL_law_2645 : decode cL_law 2645 = .ok (.aload_n 2, 1) := by decide +kernel
theorem dL_law_2646 : decode cL_law 2646 = .ok (.invokevirtual 139, 3) := by decide +kernel
theorem dL_law_2649 : decode cL_law 2649 = .ok (.iload 5, 2) := by decide +kernel
theorem dL_law_2651 : decode cL_law 2651 = .ok (.if_icmp .eq 5, 3) := by decide +kernel
theorem dL_law_2654 : decode cL_law 2654 = .ok (.iconst 0, 1) := by decide +kernel
theorem dL_law_2655 : decode cL_law 2655 = .ok (.ireturn, 1) := by decide +kernel
theorem dL_law_2656 : decode cL_law 2656 = .ok (.iload 5, 2) := by decide +kernel
theorem dL_law_2658 : decode cL_law 2658 = .ok (.ifCond .ne 15, 3) := by decide +kernel
theorem dL_law_2661 : decode cL_law 2661 = .ok (.aload_n 3, 1) := by decide +kernel
theorem dL_law_2662 : decode cL_law 2662 = .ok (.iconst 0, 1) := by decide +kernel
theorem dL_law_2663 : decode cL_law 2663 = .ok (.laload, 1) := by decide +kernel
theorem dL_law_2664 : decode cL_law 2664 = .ok (.iload 6, 2) := by decide +kernel
theorem dL_law_2666 : decode cL_law 2666 = .ok (.i2l, 1) := by decide +kernel
theorem dL_law_2667 : decode cL_law 2667 = .ok (.lcmp, 1) := by decide +kernel
theorem dL_law_2668 : decode cL_law 2668 = .ok (.ifCond .eq 5, 3) := by decide +kernel
theorem dL_law_2671 : decode cL_law 2671 = .ok (.iconst 0, 1) := by decide +kernel
theorem dL_law_2672 : decode cL_law 2672 = .ok (.ireturn, 1) := by decide +kernel
theorem dL_law_2673 : decode cL_law 2673 = .ok (.goto 107, 3) := by decide +kernel
theorem dL_law_2676 : decode cL_law 2676 = .ok (.aload_n 1, 1) := by decide +kernel
theorem dL_law_2677 : decode cL_law 2677 = .ok (.aload_n 0, 1) := by decide +kernel
theorem dL_law_2678 : decode cL_law 2678 = .ok (.iload 4, 2) := by decide +kernel
theorem dL_law_2680 : decode cL_law 2680 = .ok (.iconst 1, 1) := by decide +kernel
theorem dL_law_2681 : decode cL_law 2681 = .ok (.iadd, 1) := by decide +kernel
theorem dL_law_2682 : decode cL_law 2682 = .ok (.iaload, 1) := by decide +kernel
theorem dL_law_2683 : decode cL_law 2683 = .ok (.aload_n 0, 1) := by decide +kernel
theorem dL_law_2684 : decode cL_law 2684 = .ok (.iload 4, 2) := by decide +kernel
theorem dL_law_2686 : decode cL_law 2686 = .ok (.iconst 2, 1) := by decide +kernel
theorem dL_law_2687 : decode cL_law 2687 = .ok (.iadd, 1) := by decide +kernel
theorem dL_law_2688 : decode cL_law 2688 = .ok (.iaload, 1) := by decide +kernel
theorem dL_law_2689 : decode cL_law 2689 = .ok (.aload_n 0, 1) := by decide +kernel
theorem dL_law_2690 : decode cL_law 2690 = .ok (.iload 4, 2) := by decide +kernel
theorem dL_law_2692 : decode cL_law 2692 = .ok (.iconst 3, 1) := by decide +kernel
theorem dL_law_2693 : decode cL_law 2693 = .ok (.iadd, 1) := by decide +kernel
theorem dL_law_2694 : decode cL_law 2694 = .ok (.iaload, 1) := by decide +kernel
theorem dL_law_2695 : decode cL_law 2695 = .ok (.aload_n 3, 1) := by decide +kernel
theorem dL_law_2696 : decode cL_law 2696 = .ok (.invokestatic 274, 3) := by decide +kernel
theorem dL_law_2699 : decode cL_law 2699 = .ok (.istore 5, 2) := by decide +kernel
theorem dL_law_2701 : decode cL_law 2701 = .ok (.aload_n 2, 1) := by decide +kernel
theorem dL_law_2702 : decode cL_law 2702 = .ok (.aload_n 0, 1) := by decide +kernel
theorem dL_law_2703 : decode cL_law 2703 = .ok (.iload 4, 2) := by decide +kernel
theorem dL_law_2705 : decode cL_law 2705 = .ok (.iconst 1, 1) := by decide +kernel
theorem dL_law_2706 : decode cL_law 2706 = .ok (.iadd, 1) := by decide +kernel
theorem dL_law_2707 : decode cL_law 2707 = .ok (.iaload, 1) := by decide +kernel
theorem dL_law_2708 : decode cL_law 2708 = .ok (.aload_n 0, 1) := by decide +kernel
theorem dL_law_2709 : decode cL_law 2709 = .ok (.iload 4, 2) := by decide +kernel
theorem dL_law_2711 : decode cL_law 2711 = .ok (.iconst 2, 1) := by decide +kernel
theorem dL_law_2712 : decode cL_law 2712 = .ok (.iadd, 1) := by decide +kernel
theorem dL_law_2713 : decode cL_law 2713 = .ok (.iaload, 1) := by decide +kernel
theorem dL_law_2714 : decode cL_law 2714 = .ok (.aload_n 0, 1) := by decide +kernel
theorem dL_law_2715 : decode cL_law 2715 = .ok (.iload 4, 2) := by decide +kernel
theorem dL_law_2717 : decode cL_law 2717 = .ok (.iconst 3, 1) := by decide +kernel
theorem dL_law_2718 : decode cL_law 2718 = .ok (.iadd, 1) := by decide +kernel
theorem dL_law_2719 : decode cL_law 2719 = .ok (.iaload, 1) := by decide +kernel
theorem dL_law_2720 : decode cL_law 2720 = .ok (.invokevirtual 276, 3) := by decide +kernel
theorem dL_law_2723 : decode cL_law 2723 = .ok (.istore 6, 2) := by decide +kernel
theorem dL_law_2725 : decode cL_law 2725 = .ok (.aload_n 2, 1) := by decide +kernel
theorem dL_law_2726 : decode cL_law 2726 = .ok (.invokevirtual 139, 3) := by decide +kernel
theorem dL_law_2729 : decode cL_law 2729 = .ok (.iload 5, 2) := by decide +kernel
theorem dL_law_2731 : decode cL_law 2731 = .ok (.if_icmp .eq 5, 3) := by decide +kernel
theorem dL_law_2734 : decode cL_law 2734 = .ok (.iconst 0, 1) := by decide +kernel
theorem dL_law_2735 : decode cL_law 2735 = .ok (.ireturn, 1) := by decide +kernel
theorem dL_law_2736 : decode cL_law 2736 = .ok (.iload 5, 2) := by decide +kernel
theorem dL_law_2738 : decode cL_law 2738 = .ok (.ifCond .ne 15, 3) := by decide +kernel
theorem dL_law_2741 : decode cL_law 2741 = .ok (.aload_n 3, 1) := by decide +kernel
theorem dL_law_2742 : decode cL_law 2742 = .ok (.iconst 0, 1) := by decide +kernel
theorem dL_law_2743 : decode cL_law 2743 = .ok (.laload, 1) := by decide +kernel
theorem dL_law_2744 : decode cL_law 2744 = .ok (.iload 6, 2) := by decide +kernel
theorem dL_law_2746 : decode cL_law 2746 = .ok (.i2l, 1) := by decide +kernel
theorem dL_law_2747 : decode cL_law 2747 = .ok (.lcmp, 1) := by decide +kernel
theorem dL_law_2748 : decode cL_law 2748 = .ok (.ifCond .eq 5, 3) := by decide +kernel
theorem dL_law_2751 : decode cL_law 2751 = .ok (.iconst 0, 1) := by decide +kernel
theorem dL_law_2752 : decode cL_law 2752 = .ok (.ireturn, 1) := by decide +kernel
theorem dL_law_2753 : decode cL_law 2753 = .ok (.goto 27, 3) := by decide +kernel
theorem dL_law_2756 : decode cL_law 2756 = .ok (.aload_n 1, 1) := by decide +kernel
theorem dL_law_2757 : decode cL_law 2757 = .ok (.invokevirtual 277, 3) := by decide +kernel
theorem dL_law_2760 : decode cL_law 2760 = .ok (.aload_n 2, 1) := by decide +kernel
theorem dL_law_2761 : decode cL_law 2761 = .ok (.invokevirtual 280, 3) := by decide +kernel
theorem dL_law_2764 : decode cL_law 2764 = .ok (.goto 16, 3) := by decide +kernel
theorem dL_law_2767 : decode cL_law 2767 = .ok (.aload_n 1, 1) := by decide +kernel
theorem dL_law_2768 : decode cL_law 2768 = .ok (.invokevirtual 281, 3) := by decide +kernel
theorem dL_law_2771 : decode cL_law 2771 = .ok (.aload_n 2, 1) := by decide +kernel
theorem dL_law_2772 : decode cL_law 2772 = .ok (.invokevirtual 285, 3) := by decide +kernel
theorem dL_law_2775 : decode cL_law 2775 = .ok (.if_icmp .eq 5, 3) := by decide +kernel
theorem dL_law_2778 : decode cL_law 2778 = .ok (.iconst 0, 1) := by decide +kernel
theorem dL_law_2779 : decode cL_law 2779 = .ok (.ireturn, 1) := by decide +kernel
theorem dL_law_2780 : decode cL_law 2780 = .ok (.iinc 4 6, 3) := by decide +kernel
theorem dL_law_2783 : decode cL_law 2783 = .ok (.goto (-2760), 3) := by decide +kernel
theorem dL_law_2786 : decode cL_law 2786 = .ok (.iconst 1, 1) := by decide +kernel
theorem dL_law_2787 : decode cL_law 2787 = .ok (.ireturn, 1) := by decide +kernel
