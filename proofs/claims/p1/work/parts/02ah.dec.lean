theorem dX13_init_1469 : decode cX13_init 1469 = .ok (.bipush 100, 2) := by decide +kernel
theorem dX13_init_1471 : decode cX13_init 1471 = .ok (.bipush 32, 2) := by decide +kernel
theorem dX13_init_1473 : decode cX13_init 1473 = .ok (.bastore, 1) := by decide +kernel
theorem dX13_init_1474 : decode cX13_init 1474 = .ok (.dup, 1) := by decide +kernel
theorem dX13_init_1475 : decode cX13_init 1475 = .ok (.bipush 101, 2) := by decide +kernel
theorem dX13_init_1477 : decode cX13_init 1477 = .ok (.bipush 32, 2) := by decide +kernel
theorem dX13_init_1479 : decode cX13_init 1479 = .ok (.bastore, 1) := by decide +kernel
theorem dX13_init_1480 : decode cX13_init 1480 = .ok (.dup, 1) := by decide +kernel
theorem dX13_init_1481 : decode cX13_init 1481 = .ok (.bipush 102, 2) := by decide +kernel
theorem dX13_init_1483 : decode cX13_init 1483 = .ok (.bipush 33, 2) := by decide +kernel
theorem dX13_init_1485 : decode cX13_init 1485 = .ok (.bastore, 1) := by decide +kernel
theorem dX13_init_1486 : decode cX13_init 1486 = .ok (.dup, 1) := by decide +kernel
theorem dX13_init_1487 : decode cX13_init 1487 = .ok (.bipush 103, 2) := by decide +kernel
theorem dX13_init_1489 : decode cX13_init 1489 = .ok (.bipush 34, 2) := by decide +kernel
theorem dX13_init_1491 : decode cX13_init 1491 = .ok (.bastore, 1) := by decide +kernel
theorem dX13_init_1492 : decode cX13_init 1492 = .ok (.dup, 1) := by decide +kernel
theorem dX13_init_1493 : decode cX13_init 1493 = .ok (.bipush 104, 2) := by decide +kernel
theorem dX13_init_1495 : decode cX13_init 1495 = .ok (.bipush 34, 2) := by decide +kernel
theorem dX13_init_1497 : decode cX13_init 1497 = .ok (.bastore, 1) := by decide +kernel
theorem dX13_init_1498 : decode cX13_init 1498 = .ok (.dup, 1) := by decide +kernel
theorem dX13_init_1499 : decode cX13_init 1499 = .ok (.bipush 105, 2) := by decide +kernel
theorem dX13_init_1501 : decode cX13_init 1501 = .ok (.bipush 34, 2) := by decide +kernel
theorem dX13_init_1503 : decode cX13_init 1503 = .ok (.bastore, 1) := by decide +kernel
theorem dX13_init_1504 : decode cX13_init 1504 = .ok (.dup, 1) := by decide +kernel
theorem dX13_init_1505 : decode cX13_init 1505 = .ok (.bipush 106, 2) := by decide +kernel
theorem dX13_init_1507 : decode cX13_init 1507 = .ok (.bipush 35, 2) := by decide +kernel
theorem dX13_init_1509 : decode cX13_init 1509 = .ok (.bastore, 1) := by decide +kernel
theorem dX13_init_1510 : decode cX13_init 1510 = .ok (.dup, 1) := by decide +kernel
theorem dX13_init_1511 : decode cX13_init 1511 = .ok (.bipush 107, 2) := by decide +kernel
theorem dX13_init_1513 : decode cX13_init 1513 = .ok (.bipush 35, 2) := by decide +kernel
theorem dX13_init_1515 : decode cX13_init 1515 = .ok (.bastore, 1) := by decide +kernel
theorem dX13_init_1516 : decode cX13_init 1516 = .ok (.dup, 1) := by decide +kernel
theorem dX13_init_1517 : decode cX13_init 1517 = .ok (.bipush 108, 2) := by decide +kernel
theorem dX13_init_1519 : decode cX13_init 1519 = .ok (.bipush 35, 2) := by decide +kernel
theorem dX13_init_1521 : decode cX13_init 1521 = .ok (.bastore, 1) := by decide +kernel
theorem dX13_init_1522 : decode cX13_init 1522 = .ok (.dup, 1) := by decide +kernel
theorem dX13_init_1523 : decode cX13_init 1523 = .ok (.bipush 109, 2) := by decide +kernel
theorem dX13_init_1525 : decode cX13_init 1525 = .ok (.bipush 35, 2) := by decide +kernel
theorem dX13_init_1527 : decode cX13_init 1527 = .ok (.bastore, 1) := by decide +kernel
theorem dX13_init_1528 : decode cX13_init 1528 = .ok (.dup, 1) := by decide +kernel
theorem dX13_init_1529 : decode cX13_init 1529 = .ok (.bipush 110, 2) := by decide +kernel
theorem dX13_init_1531 : decode cX13_init 1531 = .ok (.bipush 36, 2) := by decide +kernel
theorem dX13_init_1533 : decode cX13_init 1533 = .ok (.bastore, 1) := by decide +kernel
theorem dX13_init_1534 : decode cX13_init 1534 = .ok (.dup, 1) := by decide +kernel
theorem dX13_init_1535 : decode cX13_init 1535 = .ok (.bipush 111, 2) := by decide +kernel
theorem dX13_init_1537 : decode cX13_init 1537 = .ok (.bipush 36, 2) := by decide +kernel
theorem dX13_init_1539 : decode cX13_init 1539 = .ok (.bastore, 1) := by decide +kernel
theorem dX13_init_1540 : decode cX13_init 1540 = .ok (.dup, 1) := by decide +kernel
theorem dX13_init_1541 : decode cX13_init 1541 = .ok (.bipush 112, 2) := by decide +kernel
theorem dX13_init_1543 : decode cX13_init 1543 = .ok (.bipush 37, 2) := by decide +kernel
theorem dX13_init_1545 : decode cX13_init 1545 = .ok (.bastore, 1) := by decide +kernel
theorem dX13_init_1546 : decode cX13_init 1546 = .ok (.dup, 1) := by decide +kernel
theorem dX13_init_1547 : decode cX13_init 1547 = .ok (.bipush 113, 2) := by decide +kernel
theorem dX13_init_1549 : decode cX13_init 1549 = .ok (.bipush 37, 2) := by decide +kernel
theorem dX13_init_1551 : decode cX13_init 1551 = .ok (.bastore, 1) := by decide +kernel
theorem dX13_init_1552 : decode cX13_init 1552 = .ok (.dup, 1) := by decide +kernel
theorem dX13_init_1553 : decode cX13_init 1553 = .ok (.bipush 114, 2) := by decide +kernel
theorem dX13_init_1555 : decode cX13_init 1555 = .ok (.bipush 37, 2) := by decide +kernel
theorem dX13_init_1557 : decode cX13_init 1557 = .ok (.bastore, 1) := by decide +kernel
theorem dX13_init_1558 : decode cX13_init 1558 = .ok (.dup, 1) := by decide +kernel
theorem dX13_init_1559 : decode cX13_init 1559 = .ok (.bipush 115, 2) := by decide +kernel
theorem dX13_init_1561 : decode cX13_init 1561 = .ok (.bipush 37, 2) := by decide +kernel
theorem dX13_init_1563 : decode cX13_init 1563 = .ok (.bastore, 1) := by decide +kernel
theorem dX13_init_1564 : decode cX13_init 1564 = .ok (.dup, 1) := by decide +kernel
theorem dX13_init_1565 : decode cX13_init 1565 = .ok (.bipush 116, 2) := by decide +kernel
theorem dX13_init_1567 : decode cX13_init 1567 = .ok (.bipush 38, 2) := by decide +kernel
theorem dX13_init_1569 : decode cX13_init 1569 = .ok (.bastore, 1) := by decide +kernel
theorem dX13_init_1570 : decode cX13_init 1570 = .ok (.dup, 1) := by decide +kernel
theorem dX13_init_1571 : decode cX13_init 1571 = .ok (.bipush 117, 2) := by decide +kernel
theorem dX13_init_1573 : decode cX13_init 1573 = .ok (.bipush 39, 2) := by decide +kernel
theorem dX13_init_1575 : decode cX13_init 1575 = .ok (.bastore, 1) := by decide +kernel
theorem dX13_init_1576 : decode cX13_init 1576 = .ok (.dup, 1) := by decide +kernel
theorem dX13_init_1577 : decode cX13_init 1577 = .ok (.bipush 118, 2) := by decide +kernel
theorem dX13_init_1579 : decode cX13_init 1579 = .ok (.bipush 40, 2) := by decide +kernel
theorem dX13_init_1581 : decode cX13_init 1581 = .ok (.bastore, 1) := by decide +kernel
theorem dX13_init_1582 : decode cX13_init 1582 = .ok (.dup, 1) := by decide +kernel
theorem dX13_init_1583 : decode cX13_init 1583 = .ok (.bipush 119, 2) := by decide +kernel
theorem dX13_init_1585 : decode cX13_init 1585 = .ok (.bipush 41, 2) := by decide +kernel
theorem dX13_init_1587 : decode cX13_init 1587 = .ok (.bastore, 1) := by decide +kernel
theorem dX13_init_1588 : decode cX13_init 1588 = .ok (.dup, 1) := by decide +kernel
theorem dX13_init_1589 : decode cX13_init 1589 = .ok (.bipush 120, 2) := by decide +kernel
theorem dX13_init_1591 : decode cX13_init 1591 = .ok (.bipush 42, 2) := by decide +kernel
theorem dX13_init_1593 : decode cX13_init 1593 = .ok (.bastore, 1) := by decide +kernel
theorem dX13_init_1594 : decode cX13_init 1594 = .ok (.dup, 1) := by decide +kernel
theorem dX13_init_1595 : decode cX13_init 1595 = .ok (.bipush 121, 2) := by decide +kernel
theorem dX13_init_1597 : decode cX13_init 1597 = .ok (.bipush 43, 2) := by decide +kernel
theorem dX13_init_1599 : decode cX13_init 1599 = .ok (.bastore, 1) := by decide +kernel
theorem dX13_init_1600 : decode cX13_init 1600 = .ok (.dup, 1) := by decide +kernel
theorem dX13_init_1601 : decode cX13_init 1601 = .ok (.bipush 122, 2) := by decide +kernel
theorem dX13_init_1603 : decode cX13_init 1603 = .ok (.bipush 44, 2) := by decide +kernel
theorem dX13_init_1605 : decode cX13_init 1605 = .ok (.bastore, 1) := by decide +kernel
theorem dX13_init_1606 : decode cX13_init 1606 = .ok (.dup, 1) := by decide +kernel
theorem dX13_init_1607 : decode cX13_init 1607 = .ok (.bipush 123, 2) := by decide +kernel
theorem dX13_init_1609 : decode cX13_init 1609 = .ok (.bipush 45, 2) := by decide +kernel
theorem dX13_init_1611 : decode cX13_init 1611 = .ok (.bastore, 1) := by decide +kernel
theorem dX13_init_1612 : decode cX13_init 1612 = .ok (.dup, 1) := by decide +kernel
theorem dX13_init_1613 : decode cX13_init 1613 = .ok (.bipush 124, 2) := by decide +kernel
theorem dX13_init_1615 : decode cX13_init 1615 = .ok (.bipush 46, 2) := by decide +kernel
theorem dX13_init_1617 : decode cX13_init 1617 = .ok (.bastore, 1) := by decide +kernel
theorem dX13_init_1618 : decode cX13_init 1618 = .ok (.dup, 1) := by decide +kernel
theorem dX13_init_1619 : decode cX13_init 1619 = .ok (.bipush 125, 2) := by decide +kernel
theorem dX13_init_1621 : decode cX13_init 1621 = .ok (.bipush 47, 2) := by decide +kernel
theorem dX13_init_1623 : decode cX13_init 1623 = .ok (.bastore, 1) := by decide +kernel
theorem dX13_init_1624 : decode cX13_init 1624 = .ok (.dup, 1) := by decide +kernel
theorem dX13_init_1625 : decode cX13_init 1625 = .ok (.bipush 126, 2) := by decide +kernel
theorem dX13_init_1627 : decode cX13_init 1627 = .ok (.bipush 48, 2) := by decide +kernel
theorem dX13_init_1629 : decode cX13_init 1629 = .ok (.bastore, 1) := by decide +kernel
theorem dX13_init_1630 : decode cX13_init 1630 = .ok (.dup, 1) := by decide +kernel
theorem dX13_init_1631 : decode cX13_init 1631 = .ok (.bipush 127, 2) := by decide +kernel
theorem dX13_init_1633 : decode cX13_init 1633 = .ok (.bipush 49, 2) := by decide +kernel
theorem dX13_init_1635 : decode cX13_init 1635 = .ok (.bastore, 1) := by decide +kernel
theorem dX13_init_1636 : decode cX13_init 1636 = .ok (.putfield 269, 3) := by decide +kernel
theorem dX13_init_1639 : decode cX13_init 1639 = .ok (.aload_n 0, 1) := by decide +kernel
theorem dX13_init_1640 : decode cX13_init 1640 = .ok (.sipush 128, 3) := by decide +kernel
theorem dX13_init_1643 : decode cX13_init 1643 = .ok (.newarray .int, 2) := by decide +kernel
theorem dX13_init_1645 : decode cX13_init 1645 = .ok (.dup, 1) := by decide +kernel
theorem dX13_init_1646 : decode cX13_init 1646 = .ok (.iconst 0, 1) := by decide +kernel
theorem dX13_init_1647 : decode cX13_init 1647 = .ok (.bipush 51, 2) := by decide +kernel
theorem dX13_init_1649 : decode cX13_init 1649 = .ok (.iastore, 1) := by decide +kernel
theorem dX13_init_1650 : decode cX13_init 1650 = .ok (.dup, 1) := by decide +kernel
theorem dX13_init_1651 : decode cX13_init 1651 = .ok (.iconst 1, 1) := by decide +kernel
theorem dX13_init_1652 : decode cX13_init 1652 = .ok (.ldc_w 273, 3) := by decide +kernel
theorem dX13_init_1655 : decode cX13_init 1655 = .ok (.iastore, 1) := by decide +kernel
theorem dX13_init_1656 : decode cX13_init 1656 = .ok (.dup, 1) := by decide +kernel
theorem dX13_init_1657 : decode cX13_init 1657 = .ok (.iconst 2, 1) := by decide +kernel
theorem dX13_init_1658 : decode cX13_init 1658 = .ok (.sipush 4147, 3) := by decide +kernel
theorem dX13_init_1661 : decode cX13_init 1661 = .ok (.iastore, 1) := by decide +kernel
theorem dX13_init_1662 : decode cX13_init 1662 = .ok (.dup, 1) := by decide +kernel
theorem dX13_init_1663 : decode cX13_init 1663 = .ok (.iconst 3, 1) := by decide +kernel
theorem dX13_init_1664 : decode cX13_init 1664 = .ok (.sipush 8243, 3) := by decide +kernel
theorem dX13_init_1667 : decode cX13_init 1667 = .ok (.iastore, 1) := by decide +kernel
theorem dX13_init_1668 : decode cX13_init 1668 = .ok (.dup, 1) := by decide +kernel
theorem dX13_init_1669 : decode cX13_init 1669 = .ok (.iconst 4, 1) := by decide +kernel
theorem dX13_init_1670 : decode cX13_init 1670 = .ok (.sipush 12339, 3) := by decide +kernel
theorem dX13_init_1673 : decode cX13_init 1673 = .ok (.iastore, 1) := by decide +kernel
theorem dX13_init_1674 : decode cX13_init 1674 = .ok (.dup, 1) := by decide +kernel
theorem dX13_init_1675 : decode cX13_init 1675 = .ok (.iconst 5, 1) := by decide +kernel
theorem dX13_init_1676 : decode cX13_init 1676 = .ok (.sipush 16435, 3) := by decide +kernel
theorem dX13_init_1679 : decode cX13_init 1679 = .ok (.iastore, 1) := by decide +kernel
theorem dX13_init_1680 : decode cX13_init 1680 = .ok (.dup, 1) := by decide +kernel
theorem dX13_init_1681 : decode cX13_init 1681 = .ok (.bipush 6, 2) := by decide +kernel
theorem dX13_init_1683 : decode cX13_init 1683 = .ok (.sipush 20531, 3) := by decide +kernel
theorem dX13_init_1686 : decode cX13_init 1686 = .ok (.iastore, 1) := by decide +kernel
theorem dX13_init_1687 : decode cX13_init 1687 = .ok (.dup, 1) := by decide +kernel
theorem dX13_init_1688 : decode cX13_init 1688 = .ok (.bipush 7, 2) := by decide +kernel
theorem dX13_init_1690 : decode cX13_init 1690 = .ok (.ldc_w 274, 3) := by decide +kernel
theorem dX13_init_1693 : decode cX13_init 1693 = .ok (.iastore, 1) := by decide +kernel
theorem dX13_init_1694 : decode cX13_init 1694 = .ok (.dup, 1) := by decide +kernel
theorem dX13_init_1695 : decode cX13_init 1695 = .ok (.bipush 8, 2) := by decide +kernel
theorem dX13_init_1697 : decode cX13_init 1697 = .ok (.sipush 24627, 3) := by decide +kernel
theorem dX13_init_1700 : decode cX13_init 1700 = .ok (.iastore, 1) := by decide +kernel
theorem dX13_init_1701 : decode cX13_init 1701 = .ok (.dup, 1) := by decide +kernel
theorem dX13_init_1702 : decode cX13_init 1702 = .ok (.bipush 9, 2) := by decide +kernel
theorem dX13_init_1704 : decode cX13_init 1704 = .ok (.sipush 28723, 3) := by decide +kernel
theorem dX13_init_1707 : decode cX13_init 1707 = .ok (.iastore, 1) := by decide +kernel
theorem dX13_init_1708 : decode cX13_init 1708 = .ok (.dup, 1) := by decide +kernel
theorem dX13_init_1709 : decode cX13_init 1709 = .ok (.bipush 10, 2) := by decide +kernel
theorem dX13_init_1711 : decode cX13_init 1711 = .ok (.ldc_w 275, 3) := by decide +kernel
theorem dX13_init_1714 : decode cX13_init 1714 = .ok (.iastore, 1) := by decide +kernel
theorem dX13_init_1715 : decode cX13_init 1715 = .ok (.dup, 1) := by decide +kernel
theorem dX13_init_1716 : decode cX13_init 1716 = .ok (.bipush 11, 2) := by decide +kernel
theorem dX13_init_1718 : decode cX13_init 1718 = .ok (.ldc_w 276, 3) := by decide +kernel
theorem dX13_init_1721 : decode cX13_init 1721 = .ok (.iastore, 1) := by decide +kernel
theorem dX13_init_1722 : decode cX13_init 1722 = .ok (.dup, 1) := by decide +kernel
theorem dX13_init_1723 : decode cX13_init 1723 = .ok (.bipush 12, 2) := by decide +kernel
theorem dX13_init_1725 : decode cX13_init 1725 = .ok (.ldc_w 277, 3) := by decide +kernel
theorem dX13_init_1728 : decode cX13_init 1728 = .ok (.iastore, 1) := by decide +kernel
theorem dX13_init_1729 : decode cX13_init 1729 = .ok (.dup, 1) := by decide +kernel
theorem dX13_init_1730 : decode cX13_init 1730 = .ok (.bipush 13, 2) := by decide +kernel
theorem dX13_init_1732 : decode cX13_init 1732 = .ok (.ldc_w 278, 3) := by decide +kernel
theorem dX13_init_1735 : decode cX13_init 1735 = .ok (.iastore, 1) := by decide +kernel
theorem dX13_init_1736 : decode cX13_init 1736 = .ok (.dup, 1) := by decide +kernel
theorem dX13_init_1737 : decode cX13_init 1737 = .ok (.bipush 14, 2) := by decide +kernel
theorem dX13_init_1739 : decode cX13_init 1739 = .ok (.ldc_w 279, 3) := by decide +kernel
theorem dX13_init_1742 : decode cX13_init 1742 = .ok (.iastore, 1) := by decide +kernel
theorem dX13_init_1743 : decode cX13_init 1743 = .ok (.dup, 1) := by decide +kernel
theorem dX13_init_1744 : decode cX13_init 1744 = .ok (.bipush 15, 2) := by decide +kernel
theorem dX13_init_1746 : decode cX13_init 1746 = .ok (.ldc_w 280, 3) := by decide +kernel
theorem dX13_init_1749 : decode cX13_init 1749 = .ok (.iastore, 1) := by decide +kernel
theorem dX13_init_1750 : decode cX13_init 1750 = .ok (.dup, 1) := by decide +kernel
theorem dX13_init_1751 : decode cX13_init 1751 = .ok (.bipush 16, 2) := by decide +kernel
theorem dX13_init_1753 : decode cX13_init 1753 = .ok (.ldc_w 281, 3) := by decide +kernel
theorem dX13_init_1756 : decode cX13_init 1756 = .ok (.iastore, 1) := by decide +kernel
theorem dX13_init_1757 : decode cX13_init 1757 = .ok (.dup, 1) := by decide +kernel
theorem dX13_init_1758 : decode cX13_init 1758 = .ok (.bipush 17, 2) := by decide +kernel
theorem dX13_init_1760 : decode cX13_init 1760 = .ok (.ldc_w 282, 3) := by decide +kernel
theorem dX13_init_1763 : decode cX13_init 1763 = .ok (.iastore, 1) := by decide +kernel
theorem dX13_init_1764 : decode cX13_init 1764 = .ok (.dup, 1) := by decide +kernel
theorem dX13_init_1765 : decode cX13_init 1765 = .ok (.bipush 18, 2) := by decide +kernel
theorem dX13_init_1767 : decode cX13_init 1767 = .ok (.bipush 19, 2) := by decide +kernel
theorem dX13_init_1769 : decode cX13_init 1769 = .ok (.iastore, 1) := by decide +kernel
theorem dX13_init_1770 : decode cX13_init 1770 = .ok (.dup, 1) := by decide +kernel
theorem dX13_init_1771 : decode cX13_init 1771 = .ok (.bipush 19, 2) := by decide +kernel
theorem dX13_init_1773 : decode cX13_init 1773 = .ok (.sipush 8211, 3) := by decide +kernel
theorem dX13_init_1776 : decode cX13_init 1776 = .ok (.iastore, 1) := by decide +kernel
theorem dX13_init_1777 : decode cX13_init 1777 = .ok (.dup, 1) := by decide +kernel
theorem dX13_init_1778 : decode cX13_init 1778 = .ok (.bipush 20, 2) := by decide +kernel
theorem dX13_init_1780 : decode cX13_init 1780 = .ok (.sipush 12307, 3) := by decide +kernel
theorem dX13_init_1783 : decode cX13_init 1783 = .ok (.iastore, 1) := by decide +kernel
theorem dX13_init_1784 : decode cX13_init 1784 = .ok (.dup, 1) := by decide +kernel
theorem dX13_init_1785 : decode cX13_init 1785 = .ok (.bipush 21, 2) := by decide +kernel
theorem dX13_init_1787 : decode cX13_init 1787 = .ok (.sipush 16403, 3) := by decide +kernel
theorem dX13_init_1790 : decode cX13_init 1790 = .ok (.iastore, 1) := by decide +kernel
theorem dX13_init_1791 : decode cX13_init 1791 = .ok (.dup, 1) := by decide +kernel
theorem dX13_init_1792 : decode cX13_init 1792 = .ok (.bipush 22, 2) := by decide +kernel
theorem dX13_init_1794 : decode cX13_init 1794 = .ok (.sipush 24595, 3) := by decide +kernel
theorem dX13_init_1797 : decode cX13_init 1797 = .ok (.iastore, 1) := by decide +kernel
theorem dX13_init_1798 : decode cX13_init 1798 = .ok (.dup, 1) := by decide +kernel
theorem dX13_init_1799 : decode cX13_init 1799 = .ok (.bipush 23, 2) := by decide +kernel
theorem dX13_init_1801 : decode cX13_init 1801 = .ok (.sipush 28691, 3) := by decide +kernel
theorem dX13_init_1804 : decode cX13_init 1804 = .ok (.iastore, 1) := by decide +kernel
theorem dX13_init_1805 : decode cX13_init 1805 = .ok (.dup, 1) := by decide +kernel
theorem dX13_init_1806 : decode cX13_init 1806 = .ok (.bipush 24, 2) := by decide +kernel
theorem dX13_init_1808 : decode cX13_init 1808 = .ok (.sipush 4115, 3) := by decide +kernel
theorem dX13_init_1811 : decode cX13_init 1811 = .ok (.iastore, 1) := by decide +kernel
theorem dX13_init_1812 : decode cX13_init 1812 = .ok (.dup, 1) := by decide +kernel
theorem dX13_init_1813 : decode cX13_init 1813 = .ok (.bipush 25, 2) := by decide +kernel
theorem dX13_init_1815 : decode cX13_init 1815 = .ok (.sipush 20499, 3) := by decide +kernel
theorem dX13_init_1818 : decode cX13_init 1818 = .ok (.iastore, 1) := by decide +kernel
theorem dX13_init_1819 : decode cX13_init 1819 = .ok (.dup, 1) := by decide +kernel
theorem dX13_init_1820 : decode cX13_init 1820 = .ok (.bipush 26, 2) := by decide +kernel
theorem dX13_init_1822 : decode cX13_init 1822 = .ok (.ldc_w 283, 3) := by decide +kernel
theorem dX13_init_1825 : decode cX13_init 1825 = .ok (.iastore, 1) := by decide +kernel
theorem dX13_init_1826 : decode cX13_init 1826 = .ok (.dup, 1) := by decide +kernel
theorem dX13_init_1827 : decode cX13_init 1827 = .ok (.bipush 27, 2) := by decide +kernel
theorem dX13_init_1829 : decode cX13_init 1829 = .ok (.iconst 3, 1) := by decide +kernel
theorem dX13_init_1830 : decode cX13_init 1830 = .ok (.iastore, 1) := by decide +kernel
theorem dX13_init_1831 : decode cX13_init 1831 = .ok (.dup, 1) := by decide +kernel
theorem dX13_init_1832 : decode cX13_init 1832 = .ok (.bipush 28, 2) := by decide +kernel
theorem dX13_init_1834 : decode cX13_init 1834 = .ok (.sipush 4099, 3) := by decide +kernel
theorem dX13_init_1837 : decode cX13_init 1837 = .ok (.iastore, 1) := by decide +kernel
theorem dX13_init_1838 : decode cX13_init 1838 = .ok (.dup, 1) := by decide +kernel
theorem dX13_init_1839 : decode cX13_init 1839 = .ok (.bipush 29, 2) := by decide +kernel
theorem dX13_init_1841 : decode cX13_init 1841 = .ok (.sipush 8195, 3) := by decide +kernel
theorem dX13_init_1844 : decode cX13_init 1844 = .ok (.iastore, 1) := by decide +kernel
theorem dX13_init_1845 : decode cX13_init 1845 = .ok (.dup, 1) := by decide +kernel
theorem dX13_init_1846 : decode cX13_init 1846 = .ok (.bipush 30, 2) := by decide +kernel
theorem dX13_init_1848 : decode cX13_init 1848 = .ok (.sipush 16387, 3) := by decide +kernel
theorem dX13_init_1851 : decode cX13_init 1851 = .ok (.iastore, 1) := by decide +kernel
theorem dX13_init_1852 : decode cX13_init 1852 = .ok (.dup, 1) := by decide +kernel
theorem dX13_init_1853 : decode cX13_init 1853 = .ok (.bipush 31, 2) := by decide +kernel
theorem dX13_init_1855 : decode cX13_init 1855 = .ok (.sipush 20483, 3) := by decide +kernel
theorem dX13_init_1858 : decode cX13_init 1858 = .ok (.iastore, 1) := by decide +kernel
theorem dX13_init_1859 : decode cX13_init 1859 = .ok (.dup, 1) := by decide +kernel
theorem dX13_init_1860 : decode cX13_init 1860 = .ok (.bipush 32, 2) := by decide +kernel
theorem dX13_init_1862 : decode cX13_init 1862 = .ok (.bipush 103, 2) := by decide +kernel
theorem dX13_init_1864 : decode cX13_init 1864 = .ok (.iastore, 1) := by decide +kernel
theorem dX13_init_1865 : decode cX13_init 1865 = .ok (.dup, 1) := by decide +kernel
theorem dX13_init_1866 : decode cX13_init 1866 = .ok (.bipush 33, 2) := by decide +kernel
theorem dX13_init_1868 : decode cX13_init 1868 = .ok (.bipush 35, 2) := by decide +kernel
theorem dX13_init_1870 : decode cX13_init 1870 = .ok (.iastore, 1) := by decide +kernel
theorem dX13_init_1871 : decode cX13_init 1871 = .ok (.dup, 1) := by decide +kernel
theorem dX13_init_1872 : decode cX13_init 1872 = .ok (.bipush 34, 2) := by decide +kernel
theorem dX13_init_1874 : decode cX13_init 1874 = .ok (.sipush 4131, 3) := by decide +kernel
theorem dX13_init_1877 : decode cX13_init 1877 = .ok (.iastore, 1) := by decide +kernel
theorem dX13_init_1878 : decode cX13_init 1878 = .ok (.dup, 1) := by decide +kernel
theorem dX13_init_1879 : decode cX13_init 1879 = .ok (.bipush 35, 2) := by decide +kernel
theorem dX13_init_1881 : decode cX13_init 1881 = .ok (.sipush 8227, 3) := by decide +kernel
theorem dX13_init_1884 : decode cX13_init 1884 = .ok (.iastore, 1) := by decide +kernel
theorem dX13_init_1885 : decode cX13_init 1885 = .ok (.dup, 1) := by decide +kernel
theorem dX13_init_1886 : decode cX13_init 1886 = .ok (.bipush 36, 2) := by decide +kernel
theorem dX13_init_1888 : decode cX13_init 1888 = .ok (.bipush 55, 2) := by decide +kernel
theorem dX13_init_1890 : decode cX13_init 1890 = .ok (.iastore, 1) := by decide +kernel
theorem dX13_init_1891 : decode cX13_init 1891 = .ok (.dup, 1) := by decide +kernel
theorem dX13_init_1892 : decode cX13_init 1892 = .ok (.bipush 37, 2) := by decide +kernel
theorem dX13_init_1894 : decode cX13_init 1894 = .ok (.bipush 23, 2) := by decide +kernel
theorem dX13_init_1896 : decode cX13_init 1896 = .ok (.iastore, 1) := by decide +kernel
theorem dX13_init_1897 : decode cX13_init 1897 = .ok (.dup, 1) := by decide +kernel
theorem dX13_init_1898 : decode cX13_init 1898 = .ok (.bipush 38, 2) := by decide +kernel
theorem dX13_init_1900 : decode cX13_init 1900 = .ok (.bipush 99, 2) := by decide +kernel
theorem dX13_init_1902 : decode cX13_init 1902 = .ok (.iastore, 1) := by decide +kernel
theorem dX13_init_1903 : decode cX13_init 1903 = .ok (.dup, 1) := by decide +kernel
theorem dX13_init_1904 : decode cX13_init 1904 = .ok (.bipush 39, 2) := by decide +kernel
theorem dX13_init_1906 : decode cX13_init 1906 = .ok (.sipush 4195, 3) := by decide +kernel
theorem dX13_init_1909 : decode cX13_init 1909 = .ok (.iastore, 1) := by decide +kernel
theorem dX13_init_1910 : decode cX13_init 1910 = .ok (.dup, 1) := by decide +kernel
theorem dX13_init_1911 : decode cX13_init 1911 = .ok (.bipush 40, 2) := by decide +kernel
theorem dX13_init_1913 : decode cX13_init 1913 = .ok (.sipush 16483, 3) := by decide +kernel
theorem dX13_init_1916 : decode cX13_init 1916 = .ok (.iastore, 1) := by decide +kernel
theorem dX13_init_1917 : decode cX13_init 1917 = .ok (.dup, 1) := by decide +kernel
theorem dX13_init_1918 : decode cX13_init 1918 = .ok (.bipush 41, 2) := by decide +kernel
theorem dX13_init_1920 : decode cX13_init 1920 = .ok (.sipush 20579, 3) := by decide +kernel
theorem dX13_init_1923 : decode cX13_init 1923 = .ok (.iastore, 1) := by decide +kernel
theorem dX13_init_1924 : decode cX13_init 1924 = .ok (.dup, 1) := by decide +kernel
theorem dX13_init_1925 : decode cX13_init 1925 = .ok (.bipush 42, 2) := by decide +kernel
theorem dX13_init_1927 : decode cX13_init 1927 = .ok (.sipush 24675, 3) := by decide +kernel
theorem dX13_init_1930 : decode cX13_init 1930 = .ok (.iastore, 1) := by decide +kernel
theorem dX13_init_1931 : decode cX13_init 1931 = .ok (.dup, 1) := by decide +kernel
theorem dX13_init_1932 : decode cX13_init 1932 = .ok (.bipush 43, 2) := by decide +kernel
theorem dX13_init_1934 : decode cX13_init 1934 = .ok (.sipush 28771, 3) := by decide +kernel
theorem dX13_init_1937 : decode cX13_init 1937 = .ok (.iastore, 1) := by decide +kernel
theorem dX13_init_1938 : decode cX13_init 1938 = .ok (.dup, 1) := by decide +kernel
theorem dX13_init_1939 : decode cX13_init 1939 = .ok (.bipush 44, 2) := by decide +kernel
theorem dX13_init_1941 : decode cX13_init 1941 = .ok (.bipush 111, 2) := by decide +kernel
theorem dX13_init_1943 : decode cX13_init 1943 = .ok (.iastore, 1) := by decide +kernel
theorem dX13_init_1944 : decode cX13_init 1944 = .ok (.dup, 1) := by decide +kernel
theorem dX13_init_1945 : decode cX13_init 1945 = .ok (.bipush 45, 2) := by decide +kernel
theorem dX13_init_1947 : decode cX13_init 1947 = .ok (.ldc_w 284, 3) := by decide +kernel
theorem dX13_init_1950 : decode cX13_init 1950 = .ok (.iastore, 1) := by decide +kernel
theorem dX13_init_1951 : decode cX13_init 1951 = .ok (.dup, 1) := by decide +kernel
theorem dX13_init_1952 : decode cX13_init 1952 = .ok (.bipush 46, 2) := by decide +kernel
theorem dX13_init_1954 : decode cX13_init 1954 = .ok (.ldc_w 285, 3) := by decide +kernel
theorem dX13_init_1957 : decode cX13_init 1957 = .ok (.iastore, 1) := by decide +kernel
theorem dX13_init_1958 : decode cX13_init 1958 = .ok (.dup, 1) := by decide +kernel
theorem dX13_init_1959 : decode cX13_init 1959 = .ok (.bipush 47, 2) := by decide +kernel
theorem dX13_init_1961 : decode cX13_init 1961 = .ok (.sipush 8239, 3) := by decide +kernel
theorem dX13_init_1964 : decode cX13_init 1964 = .ok (.iastore, 1) := by decide +kernel
theorem dX13_init_1965 : decode cX13_init 1965 = .ok (.dup, 1) := by decide +kernel
theorem dX13_init_1966 : decode cX13_init 1966 = .ok (.bipush 48, 2) := by decide +kernel
theorem dX13_init_1968 : decode cX13_init 1968 = .ok (.ldc_w 286, 3) := by decide +kernel
theorem dX13_init_1971 : decode cX13_init 1971 = .ok (.iastore, 1) := by decide +kernel
theorem dX13_init_1972 : decode cX13_init 1972 = .ok (.dup, 1) := by decide +kernel
theorem dX13_init_1973 : decode cX13_init 1973 = .ok (.bipush 49, 2) := by decide +kernel
theorem dX13_init_1975 : decode cX13_init 1975 = .ok (.ldc_w 287, 3) := by decide +kernel
theorem dX13_init_1978 : decode cX13_init 1978 = .ok (.iastore, 1) := by decide +kernel
theorem dX13_init_1979 : decode cX13_init 1979 = .ok (.dup, 1) := by decide +kernel
theorem dX13_init_1980 : decode cX13_init 1980 = .ok (.bipush 50, 2) := by decide +kernel
theorem dX13_init_1982 : decode cX13_init 1982 = .ok (.ldc_w 288, 3) := by decide +kernel
theorem dX13_init_1985 : decode cX13_init 1985 = .ok (.iastore, 1) := by decide +kernel
theorem dX13_init_1986 : decode cX13_init 1986 = .ok (.dup, 1) := by decide +kernel
theorem dX13_init_1987 : decode cX13_init 1987 = .ok (.bipush 51, 2) := by decide +kernel
theorem dX13_init_1989 : decode cX13_init 1989 = .ok (.ldc_w 289, 3) := by decide +kernel
theorem dX13_init_1992 : decode cX13_init 1992 = .ok (.iastore, 1) := by decide +kernel
theorem dX13_init_1993 : decode cX13_init 1993 = .ok (.dup, 1) := by decide +kernel
theorem dX13_init_1994 : decode cX13_init 1994 = .ok (.bipush 52, 2) := by decide +kernel
theorem dX13_init_1996 : decode cX13_init 1996 = .ok (.ldc_w 290, 3) := by decide +kernel
theorem dX13_init_1999 : decode cX13_init 1999 = .ok (.iastore, 1) := by decide +kernel
theorem dX13_init_2000 : decode cX13_init 2000 = .ok (.dup, 1) := by decide +kernel
theorem dX13_init_2001 : decode cX13_init 2001 = .ok (.bipush 53, 2) := by decide +kernel
theorem dX13_init_2003 : decode cX13_init 2003 = .ok (.ldc_w 291, 3) := by decide +kernel
theorem dX13_init_2006 : decode cX13_init 2006 = .ok (.iastore, 1) := by decide +kernel
theorem dX13_init_2007 : decode cX13_init 2007 = .ok (.dup, 1) := by decide +kernel
theorem dX13_init_2008 : decode cX13_init 2008 = .ok (.bipush 54, 2) := by decide +kernel
theorem dX13_init_2010 : decode cX13_init 2010 = .ok (.ldc_w 292, 3) := by decide +kernel
theorem dX13_init_2013 : decode cX13_init 2013 = .ok (.iastore, 1) := by decide +kernel
theorem dX13_init_2014 : decode cX13_init 2014 = .ok (.dup, 1) := by decide +kernel
theorem dX13_init_2015 : decode cX13_init 2015 = .ok (.bipush 55, 2) := by decide +kernel
theorem dX13_init_2017 : decode cX13_init 2017 = .ok (.ldc_w 293, 3) := by decide +kernel
theorem dX13_init_2020 : decode cX13_init 2020 = .ok (.iastore, 1) := by decide +kernel
theorem dX13_init_2021 : decode cX13_init 2021 = .ok (.dup, 1) := by decide +kernel
theorem dX13_init_2022 : decode cX13_init 2022 = .ok (.bipush 56, 2) := by decide +kernel
theorem dX13_init_2024 : decode cX13_init 2024 = .ok (.ldc_w 294, 3) := by decide +kernel
theorem dX13_init_2027 : decode cX13_init 2027 = .ok (.iastore, 1) := by decide +kernel
theorem dX13_init_2028 : decode cX13_init 2028 = .ok (.dup, 1) := by decide +kernel
theorem dX13_init_2029 : decode cX13_init 2029 = .ok (.bipush 57, 2) := by decide +kernel
theorem dX13_init_2031 : decode cX13_init 2031 = .ok (.ldc_w 295, 3) := by decide +kernel
theorem dX13_init_2034 : decode cX13_init 2034 = .ok (.iastore, 1) := by decide +kernel
theorem dX13_init_2035 : decode cX13_init 2035 = .ok (.dup, 1) := by decide +kernel
theorem dX13_init_2036 : decode cX13_init 2036 = .ok (.bipush 58, 2) := by decide +kernel
theorem dX13_init_2038 : decode cX13_init 2038 = .ok (.ldc_w 296, 3) := by decide +kernel
