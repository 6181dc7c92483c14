/-! the law: what its bytes say, 6 -/
theorem dl_1518 : decode code 1518 = .ok (.iaload, 1) := by decide +kernel
theorem dl_1519 : decode code 1519 = .ok (.invokevirtual 187, 3) := by decide +kernel
theorem dl_1522 : decode code 1522 = .ok (.aload_n 2, 1) := by decide +kernel
theorem dl_1523 : decode code 1523 = .ok (.aload_n 0, 1) := by decide +kernel
theorem dl_1524 : decode code 1524 = .ok (.iload_n 3, 1) := by decide +kernel
theorem dl_1525 : decode code 1525 = .ok (.iconst 1, 1) := by decide +kernel
theorem dl_1526 : decode code 1526 = .ok (.iadd, 1) := by decide +kernel
theorem dl_1527 : decode code 1527 = .ok (.iaload, 1) := by decide +kernel
theorem dl_1528 : decode code 1528 = .ok (.invokevirtual 190, 3) := by decide +kernel
theorem dl_1531 : decode code 1531 = .ok (.if_icmp .eq 494, 3) := by decide +kernel
theorem dl_1534 : decode code 1534 = .ok (.iconst 0, 1) := by decide +kernel
theorem dl_1535 : decode code 1535 = .ok (.ireturn, 1) := by decide +kernel
theorem dl_1536 : decode code 1536 = .ok (.aload_n 1, 1) := by decide +kernel
theorem dl_1537 : decode code 1537 = .ok (.aload_n 0, 1) := by decide +kernel
theorem dl_1538 : decode code 1538 = .ok (.iload_n 3, 1) := by decide +kernel
theorem dl_1539 : decode code 1539 = .ok (.iconst 1, 1) := by decide +kernel
theorem dl_1540 : decode code 1540 = .ok (.iadd, 1) := by decide +kernel
theorem dl_1541 : decode code 1541 = .ok (.iaload, 1) := by decide +kernel
theorem dl_1542 : decode code 1542 = .ok (.invokevirtual 191, 3) := by decide +kernel
theorem dl_1545 : decode code 1545 = .ok (.aload_n 2, 1) := by decide +kernel
theorem dl_1546 : decode code 1546 = .ok (.aload_n 0, 1) := by decide +kernel
theorem dl_1547 : decode code 1547 = .ok (.iload_n 3, 1) := by decide +kernel
theorem dl_1548 : decode code 1548 = .ok (.iconst 1, 1) := by decide +kernel
theorem dl_1549 : decode code 1549 = .ok (.iadd, 1) := by decide +kernel
theorem dl_1550 : decode code 1550 = .ok (.iaload, 1) := by decide +kernel
theorem dl_1551 : decode code 1551 = .ok (.invokevirtual 194, 3) := by decide +kernel
theorem dl_1554 : decode code 1554 = .ok (.if_icmp .eq 471, 3) := by decide +kernel
theorem dl_1557 : decode code 1557 = .ok (.iconst 0, 1) := by decide +kernel
theorem dl_1558 : decode code 1558 = .ok (.ireturn, 1) := by decide +kernel
theorem dl_1559 : decode code 1559 = .ok (.aload_n 1, 1) := by decide +kernel
theorem dl_1560 : decode code 1560 = .ok (.aload_n 0, 1) := by decide +kernel
theorem dl_1561 : decode code 1561 = .ok (.iload_n 3, 1) := by decide +kernel
theorem dl_1562 : decode code 1562 = .ok (.iconst 1, 1) := by decide +kernel
theorem dl_1563 : decode code 1563 = .ok (.iadd, 1) := by decide +kernel
theorem dl_1564 : decode code 1564 = .ok (.iaload, 1) := by decide +kernel
theorem dl_1565 : decode code 1565 = .ok (.aload_n 0, 1) := by decide +kernel
theorem dl_1566 : decode code 1566 = .ok (.iload_n 3, 1) := by decide +kernel
theorem dl_1567 : decode code 1567 = .ok (.iconst 2, 1) := by decide +kernel
theorem dl_1568 : decode code 1568 = .ok (.iadd, 1) := by decide +kernel
theorem dl_1569 : decode code 1569 = .ok (.iaload, 1) := by decide +kernel
theorem dl_1570 : decode code 1570 = .ok (.aload_n 0, 1) := by decide +kernel
theorem dl_1571 : decode code 1571 = .ok (.iload_n 3, 1) := by decide +kernel
theorem dl_1572 : decode code 1572 = .ok (.iconst 3, 1) := by decide +kernel
theorem dl_1573 : decode code 1573 = .ok (.iadd, 1) := by decide +kernel
theorem dl_1574 : decode code 1574 = .ok (.iaload, 1) := by decide +kernel
theorem dl_1575 : decode code 1575 = .ok (.invokevirtual 195, 3) := by decide +kernel
theorem dl_1578 : decode code 1578 = .ok (.aload_n 2, 1) := by decide +kernel
theorem dl_1579 : decode code 1579 = .ok (.aload_n 0, 1) := by decide +kernel
theorem dl_1580 : decode code 1580 = .ok (.iload_n 3, 1) := by decide +kernel
theorem dl_1581 : decode code 1581 = .ok (.iconst 1, 1) := by decide +kernel
theorem dl_1582 : decode code 1582 = .ok (.iadd, 1) := by decide +kernel
theorem dl_1583 : decode code 1583 = .ok (.iaload, 1) := by decide +kernel
theorem dl_1584 : decode code 1584 = .ok (.aload_n 0, 1) := by decide +kernel
theorem dl_1585 : decode code 1585 = .ok (.iload_n 3, 1) := by decide +kernel
theorem dl_1586 : decode code 1586 = .ok (.iconst 2, 1) := by decide +kernel
theorem dl_1587 : decode code 1587 = .ok (.iadd, 1) := by decide +kernel
theorem dl_1588 : decode code 1588 = .ok (.iaload, 1) := by decide +kernel
theorem dl_1589 : decode code 1589 = .ok (.aload_n 0, 1) := by decide +kernel
theorem dl_1590 : decode code 1590 = .ok (.iload_n 3, 1) := by decide +kernel
theorem dl_1591 : decode code 1591 = .ok (.iconst 3, 1) := by decide +kernel
theorem dl_1592 : decode code 1592 = .ok (.iadd, 1) := by decide +kernel
theorem dl_1593 : decode code 1593 = .ok (.iaload, 1) := by decide +kernel
theorem dl_1594 : decode code 1594 = .ok (.invokevirtual 199, 3) := by decide +kernel
theorem dl_1597 : decode code 1597 = .ok (.if_icmp .eq 428, 3) := by decide +kernel
theorem dl_1600 : decode code 1600 = .ok (.iconst 0, 1) := by decide +kernel
theorem dl_1601 : decode code 1601 = .ok (.ireturn, 1) := by decide +kernel
theorem dl_1602 : decode code 1602 = .ok (.aload_n 1, 1) := by decide +kernel
theorem dl_1603 : decode code 1603 = .ok (.aload_n 0, 1) := by decide +kernel
theorem dl_1604 : decode code 1604 = .ok (.iload_n 3, 1) := by decide +kernel
theorem dl_1605 : decode code 1605 = .ok (.iconst 1, 1) := by decide +kernel
theorem dl_1606 : decode code 1606 = .ok (.iadd, 1) := by decide +kernel
theorem dl_1607 : decode code 1607 = .ok (.iaload, 1) := by decide +kernel
theorem dl_1608 : decode code 1608 = .ok (.aload_n 0, 1) := by decide +kernel
theorem dl_1609 : decode code 1609 = .ok (.iload_n 3, 1) := by decide +kernel
theorem dl_1610 : decode code 1610 = .ok (.iconst 2, 1) := by decide +kernel
theorem dl_1611 : decode code 1611 = .ok (.iadd, 1) := by decide +kernel
theorem dl_1612 : decode code 1612 = .ok (.iaload, 1) := by decide +kernel
theorem dl_1613 : decode code 1613 = .ok (.aload_n 0, 1) := by decide +kernel
theorem dl_1614 : decode code 1614 = .ok (.iload_n 3, 1) := by decide +kernel
theorem dl_1615 : decode code 1615 = .ok (.iconst 3, 1) := by decide +kernel
theorem dl_1616 : decode code 1616 = .ok (.iadd, 1) := by decide +kernel
theorem dl_1617 : decode code 1617 = .ok (.iaload, 1) := by decide +kernel
theorem dl_1618 : decode code 1618 = .ok (.invokevirtual 200, 3) := by decide +kernel
theorem dl_1621 : decode code 1621 = .ok (.aload_n 2, 1) := by decide +kernel
theorem dl_1622 : decode code 1622 = .ok (.aload_n 0, 1) := by decide +kernel
theorem dl_1623 : decode code 1623 = .ok (.iload_n 3, 1) := by decide +kernel
theorem dl_1624 : decode code 1624 = .ok (.iconst 1, 1) := by decide +kernel
theorem dl_1625 : decode code 1625 = .ok (.iadd, 1) := by decide +kernel
theorem dl_1626 : decode code 1626 = .ok (.iaload, 1) := by decide +kernel
theorem dl_1627 : decode code 1627 = .ok (.aload_n 0, 1) := by decide +kernel
theorem dl_1628 : decode code 1628 = .ok (.iload_n 3, 1) := by decide +kernel
theorem dl_1629 : decode code 1629 = .ok (.iconst 2, 1) := by decide +kernel
theorem dl_1630 : decode code 1630 = .ok (.iadd, 1) := by decide +kernel
theorem dl_1631 : decode code 1631 = .ok (.iaload, 1) := by decide +kernel
theorem dl_1632 : decode code 1632 = .ok (.aload_n 0, 1) := by decide +kernel
theorem dl_1633 : decode code 1633 = .ok (.iload_n 3, 1) := by decide +kernel
theorem dl_1634 : decode code 1634 = .ok (.iconst 3, 1) := by decide +kernel
theorem dl_1635 : decode code 1635 = .ok (.iadd, 1) := by decide +kernel
theorem dl_1636 : decode code 1636 = .ok (.iaload, 1) := by decide +kernel
theorem dl_1637 : decode code 1637 = .ok (.invokevirtual 203, 3) := by decide +kernel
theorem dl_1640 : decode code 1640 = .ok (.if_icmp .eq 385, 3) := by decide +kernel
theorem dl_1643 : decode code 1643 = .ok (.iconst 0, 1) := by decide +kernel
theorem dl_1644 : decode code 1644 = .ok (.ireturn, 1) := by decide +kernel
theorem dl_1645 : decode code 1645 = .ok (.aload_n 1, 1) := by decide +kernel
theorem dl_1646 : decode code 1646 = .ok (.invokevirtual 204, 3) := by decide +kernel
theorem dl_1649 : decode code 1649 = .ok (.aload_n 2, 1) := by decide +kernel
theorem dl_1650 : decode code 1650 = .ok (.invokevirtual 207, 3) := by decide +kernel
theorem dl_1653 : decode code 1653 = .ok (.if_icmp .eq 372, 3) := by decide +kernel
theorem dl_1656 : decode code 1656 = .ok (.iconst 0, 1) := by decide +kernel
theorem dl_1657 : decode code 1657 = .ok (.ireturn, 1) := by decide +kernel
theorem dl_1658 : decode code 1658 = .ok (.aload_n 1, 1) := by decide +kernel
theorem dl_1659 : decode code 1659 = .ok (.invokevirtual 208, 3) := by decide +kernel
theorem dl_1662 : decode code 1662 = .ok (.aload_n 2, 1) := by decide +kernel
theorem dl_1663 : decode code 1663 = .ok (.invokevirtual 211, 3) := by decide +kernel
theorem dl_1666 : decode code 1666 = .ok (.if_icmp .eq 359, 3) := by decide +kernel
theorem dl_1669 : decode code 1669 = .ok (.iconst 0, 1) := by decide +kernel
theorem dl_1670 : decode code 1670 = .ok (.ireturn, 1) := by decide +kernel
theorem dl_1671 : decode code 1671 = .ok (.aload_n 1, 1) := by decide +kernel
theorem dl_1672 : decode code 1672 = .ok (.invokevirtual 212, 3) := by decide +kernel
theorem dl_1675 : decode code 1675 = .ok (.aload_n 2, 1) := by decide +kernel
theorem dl_1676 : decode code 1676 = .ok (.invokevirtual 215, 3) := by decide +kernel
theorem dl_1679 : decode code 1679 = .ok (.if_icmp .eq 346, 3) := by decide +kernel
theorem dl_1682 : decode code 1682 = .ok (.iconst 0, 1) := by decide +kernel
theorem dl_1683 : decode code 1683 = .ok (.ireturn, 1) := by decide +kernel
theorem dl_1684 : decode code 1684 = .ok (.aload_n 1, 1) := by decide +kernel
theorem dl_1685 : decode code 1685 = .ok (.aload_n 0, 1) := by decide +kernel
theorem dl_1686 : decode code 1686 = .ok (.iload_n 3, 1) := by decide +kernel
theorem dl_1687 : decode code 1687 = .ok (.iconst 1, 1) := by decide +kernel
theorem dl_1688 : decode code 1688 = .ok (.iadd, 1) := by decide +kernel
theorem dl_1689 : decode code 1689 = .ok (.iaload, 1) := by decide +kernel
theorem dl_1690 : decode code 1690 = .ok (.invokevirtual 216, 3) := by decide +kernel
theorem dl_1693 : decode code 1693 = .ok (.aload_n 2, 1) := by decide +kernel
theorem dl_1694 : decode code 1694 = .ok (.aload_n 0, 1) := by decide +kernel
theorem dl_1695 : decode code 1695 = .ok (.iload_n 3, 1) := by decide +kernel
theorem dl_1696 : decode code 1696 = .ok (.iconst 1, 1) := by decide +kernel
theorem dl_1697 : decode code 1697 = .ok (.iadd, 1) := by decide +kernel
theorem dl_1698 : decode code 1698 = .ok (.iaload, 1) := by decide +kernel
theorem dl_1699 : decode code 1699 = .ok (.invokevirtual 219, 3) := by decide +kernel
theorem dl_1702 : decode code 1702 = .ok (.if_icmp .eq 323, 3) := by decide +kernel
theorem dl_1705 : decode code 1705 = .ok (.iconst 0, 1) := by decide +kernel
theorem dl_1706 : decode code 1706 = .ok (.ireturn, 1) := by decide +kernel
theorem dl_1707 : decode code 1707 = .ok (.aload_n 1, 1) := by decide +kernel
theorem dl_1708 : decode code 1708 = .ok (.aload_n 0, 1) := by decide +kernel
theorem dl_1709 : decode code 1709 = .ok (.iload_n 3, 1) := by decide +kernel
theorem dl_1710 : decode code 1710 = .ok (.iconst 1, 1) := by decide +kernel
theorem dl_1711 : decode code 1711 = .ok (.iadd, 1) := by decide +kernel
theorem dl_1712 : decode code 1712 = .ok (.iaload, 1) := by decide +kernel
theorem dl_1713 : decode code 1713 = .ok (.invokevirtual 220, 3) := by decide +kernel
theorem dl_1716 : decode code 1716 = .ok (.aload_n 2, 1) := by decide +kernel
theorem dl_1717 : decode code 1717 = .ok (.aload_n 0, 1) := by decide +kernel
theorem dl_1718 : decode code 1718 = .ok (.iload_n 3, 1) := by decide +kernel
theorem dl_1719 : decode code 1719 = .ok (.iconst 1, 1) := by decide +kernel
theorem dl_1720 : decode code 1720 = .ok (.iadd, 1) := by decide +kernel
theorem dl_1721 : decode code 1721 = .ok (.iaload, 1) := by decide +kernel
theorem dl_1722 : decode code 1722 = .ok (.invokevirtual 223, 3) := by decide +kernel
theorem dl_1725 : decode code 1725 = .ok (.if_icmp .eq 300, 3) := by decide +kernel
theorem dl_1728 : decode code 1728 = .ok (.iconst 0, 1) := by decide +kernel
theorem dl_1729 : decode code 1729 = .ok (.ireturn, 1) := by decide +kernel
theorem dl_1730 : decode code 1730 = .ok (.aload_n 1, 1) := by decide +kernel
theorem dl_1731 : decode code 1731 = .ok (.aload_n 0, 1) := by decide +kernel
theorem dl_1732 : decode code 1732 = .ok (.iload_n 3, 1) := by decide +kernel
theorem dl_1733 : decode code 1733 = .ok (.iconst 1, 1) := by decide +kernel
theorem dl_1734 : decode code 1734 = .ok (.iadd, 1) := by decide +kernel
theorem dl_1735 : decode code 1735 = .ok (.iaload, 1) := by decide +kernel
theorem dl_1736 : decode code 1736 = .ok (.invokevirtual 224, 3) := by decide +kernel
theorem dl_1739 : decode code 1739 = .ok (.aload_n 2, 1) := by decide +kernel
theorem dl_1740 : decode code 1740 = .ok (.aload_n 0, 1) := by decide +kernel
theorem dl_1741 : decode code 1741 = .ok (.iload_n 3, 1) := by decide +kernel
theorem dl_1742 : decode code 1742 = .ok (.iconst 1, 1) := by decide +kernel
theorem dl_1743 : decode code 1743 = .ok (.iadd, 1) := by decide +kernel
theorem dl_1744 : decode code 1744 = .ok (.iaload, 1) := by decide +kernel
theorem dl_1745 : decode code 1745 = .ok (.invokevirtual 227, 3) := by decide +kernel
theorem dl_1748 : decode code 1748 = .ok (.if_icmp .eq 277, 3) := by decide +kernel
theorem dl_1751 : decode code 1751 = .ok (.iconst 0, 1) := by decide +kernel
theorem dl_1752 : decode code 1752 = .ok (.ireturn, 1) := by decide +kernel
theorem dl_1753 : decode code 1753 = .ok (.aload_n 1, 1) := by decide +kernel
theorem dl_1754 : decode code 1754 = .ok (.aload_n 0, 1) := by decide +kernel
theorem dl_1755 : decode code 1755 = .ok (.iload_n 3, 1) := by decide +kernel
theorem dl_1756 : decode code 1756 = .ok (.iconst 1, 1) := by decide +kernel
theorem dl_1757 : decode code 1757 = .ok (.iadd, 1) := by decide +kernel
theorem dl_1758 : decode code 1758 = .ok (.iaload, 1) := by decide +kernel
theorem dl_1759 : decode code 1759 = .ok (.aload_n 0, 1) := by decide +kernel
theorem dl_1760 : decode code 1760 = .ok (.iload_n 3, 1) := by decide +kernel
theorem dl_1761 : decode code 1761 = .ok (.iconst 2, 1) := by decide +kernel
theorem dl_1762 : decode code 1762 = .ok (.iadd, 1) := by decide +kernel
theorem dl_1763 : decode code 1763 = .ok (.iaload, 1) := by decide +kernel
theorem dl_1764 : decode code 1764 = .ok (.invokevirtual 228, 3) := by decide +kernel
theorem dl_1767 : decode code 1767 = .ok (.aload_n 2, 1) := by decide +kernel
theorem dl_1768 : decode code 1768 = .ok (.aload_n 0, 1) := by decide +kernel
theorem dl_1769 : decode code 1769 = .ok (.iload_n 3, 1) := by decide +kernel
theorem dl_1770 : decode code 1770 = .ok (.iconst 1, 1) := by decide +kernel
theorem dl_1771 : decode code 1771 = .ok (.iadd, 1) := by decide +kernel
theorem dl_1772 : decode code 1772 = .ok (.iaload, 1) := by decide +kernel
theorem dl_1773 : decode code 1773 = .ok (.aload_n 0, 1) := by decide +kernel
theorem dl_1774 : decode code 1774 = .ok (.iload_n 3, 1) := by decide +kernel
theorem dl_1775 : decode code 1775 = .ok (.iconst 2, 1) := by decide +kernel
theorem dl_1776 : decode code 1776 = .ok (.iadd, 1) := by decide +kernel
theorem dl_1777 : decode code 1777 = .ok (.iaload, 1) := by decide +kernel
