theorem dL_law_1531 : decode cL_law 1531 = .ok (.aload_n 2, 1) := by decide +kernel
theorem dL_law_1532 : decode cL_law 1532 = .ok (.aload_n 0, 1) := by decide +kernel
theorem dL_law_1533 : decode cL_law 1533 = .ok (.iload_n 3, 1) := by decide +kernel
theorem dL_law_1534 : decode cL_law 1534 = .ok (.iconst 1, 1) := by decide +kernel
theorem dL_law_1535 : decode cL_law 1535 = .ok (.iadd, 1) := by decide +kernel
theorem dL_law_1536 : decode cL_law 1536 = .ok (.iaload, 1) := by decide +kernel
theorem dL_law_1537 : decode cL_law 1537 = .ok (.invokevirtual 186, 3) := by decide +kernel
theorem dL_law_1540 : decode cL_law 1540 = .ok (.if_icmp .eq 386, 3) := by decide +kernel
theorem dL_law_1543 : decode cL_law 1543 = .ok (.iconst 0, 1) := by decide +kernel
theorem dL_law_1544 : decode cL_law 1544 = .ok (.ireturn, 1) := by decide +kernel
theorem dL_law_1545 : decode cL_law 1545 = .ok (.aload_n 1, 1) := by decide +kernel
theorem dL_law_1546 : decode cL_law 1546 = .ok (.invokevirtual 187, 3) := by decide +kernel
theorem dL_law_1549 : decode cL_law 1549 = .ok (.aload_n 2, 1) := by decide +kernel
theorem dL_law_1550 : decode cL_law 1550 = .ok (.invokevirtual 190, 3) := by decide +kernel
theorem dL_law_1553 : decode cL_law 1553 = .ok (.if_icmp .eq 373, 3) := by decide +kernel
theorem dL_law_1556 : decode cL_law 1556 = .ok (.iconst 0, 1) := by decide +kernel
theorem dL_law_1557 : decode cL_law 1557 = .ok (.ireturn, 1) := by decide +kernel
theorem dL_law_1558 : decode cL_law 1558 = .ok (.aload_n 1, 1) := by decide +kernel
theorem dL_law_1559 : decode cL_law 1559 = .ok (.invokevirtual 191, 3) := by decide +kernel
theorem dL_law_1562 : decode cL_law 1562 = .ok (.aload_n 2, 1) := by decide +kernel
theorem dL_law_1563 : decode cL_law 1563 = .ok (.invokevirtual 194, 3) := by decide +kernel
theorem dL_law_1566 : decode cL_law 1566 = .ok (.if_icmp .eq 360, 3) := by decide +kernel
theorem dL_law_1569 : decode cL_law 1569 = .ok (.iconst 0, 1) := by decide +kernel
theorem dL_law_1570 : decode cL_law 1570 = .ok (.ireturn, 1) := by decide +kernel
theorem dL_law_1571 : decode cL_law 1571 = .ok (.aload_n 1, 1) := by decide +kernel
theorem dL_law_1572 : decode cL_law 1572 = .ok (.aload_n 0, 1) := by decide +kernel
theorem dL_law_1573 : decode cL_law 1573 = .ok (.iload_n 3, 1) := by decide +kernel
theorem dL_law_1574 : decode cL_law 1574 = .ok (.iconst 1, 1) := by decide +kernel
theorem dL_law_1575 : decode cL_law 1575 = .ok (.iadd, 1) := by decide +kernel
theorem dL_law_1576 : decode cL_law 1576 = .ok (.iaload, 1) := by decide +kernel
theorem dL_law_1577 : decode cL_law 1577 = .ok (.invokevirtual 195, 3) := by decide +kernel
theorem dL_law_1580 : decode cL_law 1580 = .ok (.aload_n 2, 1) := by decide +kernel
theorem dL_law_1581 : decode cL_law 1581 = .ok (.aload_n 0, 1) := by decide +kernel
theorem dL_law_1582 : decode cL_law 1582 = .ok (.iload_n 3, 1) := by decide +kernel
theorem dL_law_1583 : decode cL_law 1583 = .ok (.iconst 1, 1) := by decide +kernel
theorem dL_law_1584 : decode cL_law 1584 = .ok (.iadd, 1) := by decide +kernel
theorem dL_law_1585 : decode cL_law 1585 = .ok (.iaload, 1) := by decide +kernel
theorem dL_law_1586 : decode cL_law 1586 = .ok (.invokevirtual 198, 3) := by decide +kernel
theorem dL_law_1589 : decode cL_law 1589 = .ok (.if_icmp .eq 337, 3) := by decide +kernel
theorem dL_law_1592 : decode cL_law 1592 = .ok (.iconst 0, 1) := by decide +kernel
theorem dL_law_1593 : decode cL_law 1593 = .ok (.ireturn, 1) := by decide +kernel
theorem dL_law_1594 : decode cL_law 1594 = .ok (.aload_n 1, 1) := by decide +kernel
theorem dL_law_1595 : decode cL_law 1595 = .ok (.aload_n 0, 1) := by decide +kernel
theorem dL_law_1596 : decode cL_law 1596 = .ok (.iload_n 3, 1) := by decide +kernel
theorem dL_law_1597 : decode cL_law 1597 = .ok (.iconst 1, 1) := by decide +kernel
theorem dL_law_1598 : decode cL_law 1598 = .ok (.iadd, 1) := by decide +kernel
theorem dL_law_1599 : decode cL_law 1599 = .ok (.iaload, 1) := by decide +kernel
theorem dL_law_1600 : decode cL_law 1600 = .ok (.invokevirtual 199, 3) := by decide +kernel
theorem dL_law_1603 : decode cL_law 1603 = .ok (.aload_n 2, 1) := by decide +kernel
theorem dL_law_1604 : decode cL_law 1604 = .ok (.aload_n 0, 1) := by decide +kernel
theorem dL_law_1605 : decode cL_law 1605 = .ok (.iload_n 3, 1) := by decide +kernel
theorem dL_law_1606 : decode cL_law 1606 = .ok (.iconst 1, 1) := by decide +kernel
theorem dL_law_1607 : decode cL_law 1607 = .ok (.iadd, 1) := by decide +kernel
theorem dL_law_1608 : decode cL_law 1608 = .ok (.iaload, 1) := by decide +kernel
theorem dL_law_1609 : decode cL_law 1609 = .ok (.invokevirtual 202, 3) := by decide +kernel
theorem dL_law_1612 : decode cL_law 1612 = .ok (.if_icmp .eq 314, 3) := by decide +kernel
theorem dL_law_1615 : decode cL_law 1615 = .ok (.iconst 0, 1) := by decide +kernel
theorem dL_law_1616 : decode cL_law 1616 = .ok (.ireturn, 1) := by decide +kernel
theorem dL_law_1617 : decode cL_law 1617 = .ok (.aload_n 1, 1) := by decide +kernel
theorem dL_law_1618 : decode cL_law 1618 = .ok (.aload_n 0, 1) := by decide +kernel
theorem dL_law_1619 : decode cL_law 1619 = .ok (.iload_n 3, 1) := by decide +kernel
theorem dL_law_1620 : decode cL_law 1620 = .ok (.iconst 1, 1) := by decide +kernel
theorem dL_law_1621 : decode cL_law 1621 = .ok (.iadd, 1) := by decide +kernel
theorem dL_law_1622 : decode cL_law 1622 = .ok (.iaload, 1) := by decide +kernel
theorem dL_law_1623 : decode cL_law 1623 = .ok (.aload_n 0, 1) := by decide +kernel
theorem dL_law_1624 : decode cL_law 1624 = .ok (.iload_n 3, 1) := by decide +kernel
theorem dL_law_1625 : decode cL_law 1625 = .ok (.iconst 2, 1) := by decide +kernel
theorem dL_law_1626 : decode cL_law 1626 = .ok (.iadd, 1) := by decide +kernel
theorem dL_law_1627 : decode cL_law 1627 = .ok (.iaload, 1) := by decide +kernel
theorem dL_law_1628 : decode cL_law 1628 = .ok (.invokevirtual 203, 3) := by decide +kernel
theorem dL_law_1631 : decode cL_law 1631 = .ok (.aload_n 2, 1) := by decide +kernel
theorem dL_law_1632 : decode cL_law 1632 = .ok (.aload_n 0, 1) := by decide +kernel
theorem dL_law_1633 : decode cL_law 1633 = .ok (.iload_n 3, 1) := by decide +kernel
theorem dL_law_1634 : decode cL_law 1634 = .ok (.iconst 1, 1) := by decide +kernel
theorem dL_law_1635 : decode cL_law 1635 = .ok (.iadd, 1) := by decide +kernel
theorem dL_law_1636 : decode cL_law 1636 = .ok (.iaload, 1) := by decide +kernel
theorem dL_law_1637 : decode cL_law 1637 = .ok (.aload_n 0, 1) := by decide +kernel
theorem dL_law_1638 : decode cL_law 1638 = .ok (.iload_n 3, 1) := by decide +kernel
theorem dL_law_1639 : decode cL_law 1639 = .ok (.iconst 2, 1) := by decide +kernel
theorem dL_law_1640 : decode cL_law 1640 = .ok (.iadd, 1) := by decide +kernel
theorem dL_law_1641 : decode cL_law 1641 = .ok (.iaload, 1) := by decide +kernel
theorem dL_law_1642 : decode cL_law 1642 = .ok (.invokevirtual 206, 3) := by decide +kernel
theorem dL_law_1645 : decode cL_law 1645 = .ok (.if_icmp .eq 281, 3) := by decide +kernel
theorem dL_law_1648 : decode cL_law 1648 = .ok (.iconst 0, 1) := by decide +kernel
theorem dL_law_1649 : decode cL_law 1649 = .ok (.ireturn, 1) := by decide +kernel
theorem dL_law_1650 : decode cL_law 1650 = .ok (.aload_n 1, 1) := by decide +kernel
theorem dL_law_1651 : decode cL_law 1651 = .ok (.aload_n 0, 1) := by decide +kernel
theorem dL_law_1652 : decode cL_law 1652 = .ok (.iload_n 3, 1) := by decide +kernel
theorem dL_law_1653 : decode cL_law 1653 = .ok (.iconst 1, 1) := by decide +kernel
theorem dL_law_1654 : decode cL_law 1654 = .ok (.iadd, 1) := by decide +kernel
theorem dL_law_1655 : decode cL_law 1655 = .ok (.iaload, 1) := by decide +kernel
theorem dL_law_1656 : decode cL_law 1656 = .ok (.aload_n 0, 1) := by decide +kernel
theorem dL_law_1657 : decode cL_law 1657 = .ok (.iload_n 3, 1) := by decide +kernel
theorem dL_law_1658 : decode cL_law 1658 = .ok (.iconst 2, 1) := by decide +kernel
theorem dL_law_1659 : decode cL_law 1659 = .ok (.iadd, 1) := by decide +kernel
theorem dL_law_1660 : decode cL_law 1660 = .ok (.iaload, 1) := by decide +kernel
theorem dL_law_1661 : decode cL_law 1661 = .ok (.invokevirtual 207, 3) := by decide +kernel
theorem dL_law_1664 : decode cL_law 1664 = .ok (.aload_n 2, 1) := by decide +kernel
theorem dL_law_1665 : decode cL_law 1665 = .ok (.aload_n 0, 1) := by decide +kernel
theorem dL_law_1666 : decode cL_law 1666 = .ok (.iload_n 3, 1) := by decide +kernel
theorem dL_law_1667 : decode cL_law 1667 = .ok (.iconst 1, 1) := by decide +kernel
theorem dL_law_1668 : decode cL_law 1668 = .ok (.iadd, 1) := by decide +kernel
theorem dL_law_1669 : decode cL_law 1669 = .ok (.iaload, 1) := by decide +kernel
theorem dL_law_1670 : decode cL_law 1670 = .ok (.aload_n 0, 1) := by decide +kernel
theorem dL_law_1671 : decode cL_law 1671 = .ok (.iload_n 3, 1) := by decide +kernel
theorem dL_law_1672 : decode cL_law 1672 = .ok (.iconst 2, 1) := by decide +kernel
theorem dL_law_1673 : decode cL_law 1673 = .ok (.iadd, 1) := by decide +kernel
theorem dL_law_1674 : decode cL_law 1674 = .ok (.iaload, 1) := by decide +kernel
theorem dL_law_1675 : decode cL_law 1675 = .ok (.invokevirtual 210, 3) := by decide +kernel
theorem dL_law_1678 : decode cL_law 1678 = .ok (.if_icmp .eq 248, 3) := by decide +kernel
theorem dL_law_1681 : decode cL_law 1681 = .ok (.iconst 0, 1) := by decide +kernel
theorem dL_law_1682 : decode cL_law 1682 = .ok (.ireturn, 1) := by decide +kernel
theorem dL_law_1683 : decode cL_law 1683 = .ok (.aload_n 1, 1) := by decide +kernel
theorem dL_law_1684 : decode cL_law 1684 = .ok (.invokevirtual 211, 3) := by decide +kernel
theorem dL_law_1687 : decode cL_law 1687 = .ok (.aload_n 2, 1) := by decide +kernel
theorem dL_law_1688 : decode cL_law 1688 = .ok (.invokevirtual 214, 3) := by decide +kernel
theorem dL_law_1691 : decode cL_law 1691 = .ok (.if_icmp .eq 235, 3) := by decide +kernel
theorem dL_law_1694 : decode cL_law 1694 = .ok (.iconst 0, 1) := by decide +kernel
theorem dL_law_1695 : decode cL_law 1695 = .ok (.ireturn, 1) := by decide +kernel
theorem dL_law_1696 : decode cL_law 1696 = .ok (.aload_n 1, 1) := by decide +kernel
theorem dL_law_1697 : decode cL_law 1697 = .ok (.invokevirtual 215, 3) := by decide +kernel
theorem dL_law_1700 : decode cL_law 1700 = .ok (.aload_n 2, 1) := by decide +kernel
theorem dL_law_1701 : decode cL_law 1701 = .ok (.invokevirtual 218, 3) := by decide +kernel
theorem dL_law_1704 : decode cL_law 1704 = .ok (.if_icmp .eq 222, 3) := by decide +kernel
theorem dL_law_1707 : decode cL_law 1707 = .ok (.iconst 0, 1) := by decide +kernel
theorem dL_law_1708 : decode cL_law 1708 = .ok (.ireturn, 1) := by decide +kernel
theorem dL_law_1709 : decode cL_law 1709 = .ok (.aload_n 1, 1) := by decide +kernel
theorem dL_law_1710 : decode cL_law 1710 = .ok (.aload_n 0, 1) := by decide +kernel
theorem dL_law_1711 : decode cL_law 1711 = .ok (.iload_n 3, 1) := by decide +kernel
theorem dL_law_1712 : decode cL_law 1712 = .ok (.iconst 1, 1) := by decide +kernel
theorem dL_law_1713 : decode cL_law 1713 = .ok (.iadd, 1) := by decide +kernel
theorem dL_law_1714 : decode cL_law 1714 = .ok (.iaload, 1) := by decide +kernel
theorem dL_law_1715 : decode cL_law 1715 = .ok (.aload_n 0, 1) := by decide +kernel
theorem dL_law_1716 : decode cL_law 1716 = .ok (.iload_n 3, 1) := by decide +kernel
theorem dL_law_1717 : decode cL_law 1717 = .ok (.iconst 2, 1) := by decide +kernel
theorem dL_law_1718 : decode cL_law 1718 = .ok (.iadd, 1) := by decide +kernel
theorem dL_law_1719 : decode cL_law 1719 = .ok (.iaload, 1) := by decide +kernel
theorem dL_law_1720 : decode cL_law 1720 = .ok (.invokevirtual 219, 3) := by decide +kernel
theorem dL_law_1723 : decode cL_law 1723 = .ok (.aload_n 2, 1) := by decide +kernel
theorem dL_law_1724 : decode cL_law 1724 = .ok (.aload_n 0, 1) := by decide +kernel
theorem dL_law_1725 : decode cL_law 1725 = .ok (.iload_n 3, 1) := by decide +kernel
theorem dL_law_1726 : decode cL_law 1726 = .ok (.iconst 1, 1) := by decide +kernel
theorem dL_law_1727 : decode cL_law 1727 = .ok (.iadd, 1) := by decide +kernel
theorem dL_law_1728 : decode cL_law 1728 = .ok (.iaload, 1) := by decide +kernel
theorem dL_law_1729 : decode cL_law 1729 = .ok (.aload_n 0, 1) := by decide +kernel
theorem dL_law_1730 : decode cL_law 1730 = .ok (.iload_n 3, 1) := by decide +kernel
theorem dL_law_1731 : decode cL_law 1731 = .ok (.iconst 2, 1) := by decide +kernel
theorem dL_law_1732 : decode cL_law 1732 = .ok (.iadd, 1) := by decide +kernel
theorem dL_law_1733 : decode cL_law 1733 = .ok (.iaload, 1) := by decide +kernel
theorem dL_law_1734 : decode cL_law 1734 = .ok (.invokevirtual 222, 3) := by decide +kernel
theorem dL_law_1737 : decode cL_law 1737 = .ok (.if_icmp .eq 189, 3) := by decide +kernel
theorem dL_law_1740 : decode cL_law 1740 = .ok (.iconst 0, 1) := by decide +kernel
theorem dL_law_1741 : decode cL_law 1741 = .ok (.ireturn, 1) := by decide +kernel
theorem dL_law_1742 : decode cL_law 1742 = .ok (.aload_n 1, 1) := by decide +kernel
theorem dL_law_1743 : decode cL_law 1743 = .ok (.aload_n 0, 1) := by decide +kernel
theorem dL_law_1744 : decode cL_law 1744 = .ok (.iload_n 3, 1) := by decide +kernel
theorem dL_law_1745 : decode cL_law 1745 = .ok (.iconst 1, 1) := by decide +kernel
theorem dL_law_1746 : decode cL_law 1746 = .ok (.iadd, 1) := by decide +kernel
theorem dL_law_1747 : decode cL_law 1747 = .ok (.iaload, 1) := by decide +kernel
theorem dL_law_1748 : decode cL_law 1748 = .ok (.aload_n 0, 1) := by decide +kernel
theorem dL_law_1749 : decode cL_law 1749 = .ok (.iload_n 3, 1) := by decide +kernel
theorem dL_law_1750 : decode cL_law 1750 = .ok (.iconst 2, 1) := by decide +kernel
theorem dL_law_1751 : decode cL_law 1751 = .ok (.iadd, 1) := by decide +kernel
theorem dL_law_1752 : decode cL_law 1752 = .ok (.iaload, 1) := by decide +kernel
theorem dL_law_1753 : decode cL_law 1753 = .ok (.invokevirtual 223, 3) := by decide +kernel
theorem dL_law_1756 : decode cL_law 1756 = .ok (.aload_n 2, 1) := by decide +kernel
theorem dL_law_1757 : decode cL_law 1757 = .ok (.aload_n 0, 1) := by decide +kernel
theorem dL_law_1758 : decode cL_law 1758 = .ok (.iload_n 3, 1) := by decide +kernel
theorem dL_law_1759 : decode cL_law 1759 = .ok (.iconst 1, 1) := by decide +kernel
theorem dL_law_1760 : decode cL_law 1760 = .ok (.iadd, 1) := by decide +kernel
theorem dL_law_1761 : decode cL_law 1761 = .ok (.iaload, 1) := by decide +kernel
theorem dL_law_1762 : decode cL_law 1762 = .ok (.aload_n 0, 1) := by decide +kernel
theorem dL_law_1763 : decode cL_law 1763 = .ok (.iload_n 3, 1) := by decide +kernel
theorem dL_law_1764 : decode cL_law 1764 = .ok (.iconst 2, 1) := by decide +kernel
theorem dL_law_1765 : decode cL_law 1765 = .ok (.iadd, 1) := by decide +kernel
theorem dL_law_1766 : decode cL_law 1766 = .ok (.iaload, 1) := by decide +kernel
theorem dL_law_1767 : decode cL_law 1767 = .ok (.invokevirtual 226, 3) := by decide +kernel
theorem dL_law_1770 : decode cL_law 1770 = .ok (.if_icmp .eq 156, 3) := by decide +kernel
theorem dL_law_1773 : decode cL_law 1773 = .ok (.iconst 0, 1) := by decide +kernel
theorem dL_law_1774 : decode cL_law 1774 = .ok (.ireturn, 1) := by decide +kernel
theorem dL_law_1775 : decode cL_law 1775 = .ok (.aload_n 1, 1) := by decide +kernel
theorem dL_law_1776 : decode cL_law 1776 = .ok (.aload_n 0, 1) := by decide +kernel
theorem dL_law_1777 : decode cL_law 1777 = .ok (.iload_n 3, 1) := by decide +kernel
theorem dL_law_1778 : decode cL_law 1778 = .ok (.iconst 1, 1) := by decide +kernel
theorem dL_law_1779 : decode cL_law 1779 = .ok (.iadd, 1) := by decide +kernel
theorem dL_law_1780 : decode cL_law 1780 = .ok (.iaload, 1) := by decide +kernel
theorem dL_law_1781 : decode cL_law 1781 = .ok (.invokevirtual 227, 3) := by decide +kernel
theorem dL_law_1784 : decode cL_law 1784 = .ok (.aload_n 2, 1) := by decide +kernel
theorem dL_law_1785 : decode cL_law 1785 = .ok (.aload_n 0, 1) := by decide +kernel
theorem dL_law_1786 : decode cL_law 1786 = .ok (.iload_n 3, 1) := by decide +kernel
theorem dL_law_1787 : decode cL_law 1787 = .ok (.iconst 1, 1) := by decide +kernel
theorem dL_law_1788 : decode cL_law 1788 = .ok (.iadd, 1) := by decide +kernel
theorem dL_law_1789 : decode cL_law 1789 = .ok (.iaload, 1) := by decide +kernel
theorem dL_law_1790 : decode cL_law 1790 = .ok (.invokevirtual 231, 3) := by decide +kernel
theorem dL_law_1793 : decode cL_law 1793 = .ok (.if_icmp .eq 133, 3) := by decide +kernel
theorem dL_law_1796 : decode cL_law 1796 = .ok (.iconst 0, 1) := by decide +kernel
theorem dL_law_1797 : decode cL_law 1797 = .ok (.ireturn, 1) := by decide +kernel
theorem dL_law_1798 : decode cL_law 1798 = .ok (.aload_n 1, 1) := by decide +kernel
theorem dL_law_1799 : decode cL_law 1799 = .ok (.aload_n 0, 1) := by decide +kernel
theorem dL_law_1800 : decode cL_law 1800 = .ok (.iload_n 3, 1) := by decide +kernel
theorem dL_law_1801 : decode cL_law 1801 = .ok (.iconst 1, 1) := by decide +kernel
theorem dL_law_1802 : decode cL_law 1802 = .ok (.iadd, 1) := by decide +kernel
theorem dL_law_1803 : decode cL_law 1803 = .ok (.iaload, 1) := by decide +kernel
theorem dL_law_1804 : decode cL_law 1804 = .ok (.invokevirtual 232, 3) := by decide +kernel
theorem dL_law_1807 : decode cL_law 1807 = .ok (.aload_n 2, 1) := by decide +kernel
theorem dL_law_1808 : decode cL_law 1808 = .ok (.aload_n 0, 1) := by decide +kernel
theorem dL_law_1809 : decode cL_law 1809 = .ok (.iload_n 3, 1) := by decide +kernel
theorem dL_law_1810 : decode cL_law 1810 = .ok (.iconst 1, 1) := by decide +kernel
theorem dL_law_1811 : decode cL_law 1811 = .ok (.iadd, 1) := by decide +kernel
theorem dL_law_1812 : decode cL_law 1812 = .ok (.iaload, 1) := by decide +kernel
theorem dL_law_1813 : decode cL_law 1813 = .ok (.invokevirtual 235, 3) := by decide +kernel
theorem dL_law_1816 : decode cL_law 1816 = .ok (.if_icmp .eq 110, 3) := by decide +kernel
theorem dL_law_1819 : decode cL_law 1819 = .ok (.iconst 0, 1) := by decide +kernel
theorem dL_law_1820 : decode cL_law 1820 = .ok (.ireturn, 1) := by decide +kernel
theorem dL_law_1821 : decode cL_law 1821 = .ok (.aload_n 1, 1) := by decide +kernel
theorem dL_law_1822 : decode cL_law 1822 = .ok (.aload_n 0, 1) := by decide +kernel
theorem dL_law_1823 : decode cL_law 1823 = .ok (.iload_n 3, 1) := by decide +kernel
theorem dL_law_1824 : decode cL_law 1824 = .ok (.iconst 1, 1) := by decide +kernel
theorem dL_law_1825 : decode cL_law 1825 = .ok (.iadd, 1) := by decide +kernel
theorem dL_law_1826 : decode cL_law 1826 = .ok (.iaload, 1) := by decide +kernel
theorem dL_law_1827 : decode cL_law 1827 = .ok (.invokevirtual 236, 3) := by decide +kernel
theorem dL_law_1830 : decode cL_law 1830 = .ok (.aload_n 2, 1) := by decide +kernel
theorem dL_law_1831 : decode cL_law 1831 = .ok (.aload_n 0, 1) := by decide +kernel
theorem dL_law_1832 : decode cL_law 1832 = .ok (.iload_n 3, 1) := by decide +kernel
theorem dL_law_1833 : decode cL_law 1833 = .ok (.iconst 1, 1) := by decide +kernel
theorem dL_law_1834 : decode cL_law 1834 = .ok (.iadd, 1) := by decide +kernel
theorem dL_law_1835 : decode cL_law 1835 = .ok (.iaload, 1) := by decide +kernel
theorem dL_law_1836 : decode cL_law 1836 = .ok (.invokevirtual 239, 3) := by decide +kernel
theorem dL_law_1839 : decode cL_law 1839 = .ok (.if_icmp .eq 87, 3) := by decide +kernel
theorem dL_law_1842 : decode cL_law 1842 = .ok (.iconst 0, 1) := by decide +kernel
theorem dL_law_1843 : decode cL_law 1843 = .ok (.ireturn, 1) := by decide +kernel
theorem dL_law_1844 : decode cL_law 1844 = .ok (.aload_n 1, 1) := by decide +kernel
theorem dL_law_1845 : decode cL_law 1845 = .ok (.aload_n 0, 1) := by decide +kernel
theorem dL_law_1846 : decode cL_law 1846 = .ok (.iload_n 3, 1) := by decide +kernel
theorem dL_law_1847 : decode cL_law 1847 = .ok (.iconst 1, 1) := by decide +kernel
theorem dL_law_1848 : decode cL_law 1848 = .ok (.iadd, 1) := by decide +kernel
theorem dL_law_1849 : decode cL_law 1849 = .ok (.iaload, 1) := by decide +kernel
theorem dL_law_1850 : decode cL_law 1850 = .ok (.invokevirtual 240, 3) := by decide +kernel
theorem dL_law_1853 : decode cL_law 1853 = .ok (.aload_n 2, 1) := by decide +kernel
theorem dL_law_1854 : decode cL_law 1854 = .ok (.aload_n 0, 1) := by decide +kernel
theorem dL_law_1855 : decode cL_law 1855 = .ok (.iload_n 3, 1) := by decide +kernel
theorem dL_law_1856 : decode cL_law 1856 = .ok (.iconst 1, 1) := by decide +kernel
theorem dL_law_1857 : decode cL_law 1857 = .ok (.iadd, 1) := by decide +kernel
theorem dL_law_1858 : decode cL_law 1858 = .ok (.iaload, 1) := by decide +kernel
theorem dL_law_1859 : decode cL_law 1859 = .ok (.invokevirtual 243, 3) := by decide +kernel
theorem dL_law_1862 : decode cL_law 1862 = .ok (.if_icmp .eq 64, 3) := by decide +kernel
theorem dL_law_1865 : decode cL_law 1865 = .ok (.iconst 0, 1) := by decide +kernel
theorem dL_law_1866 : decode cL_law 1866 = .ok (.ireturn, 1) := by decide +kernel
theorem dL_law_1867 : decode cL_law 1867 = .ok (.aload_n 1, 1) := by decide +kernel
theorem dL_law_1868 : decode cL_law 1868 = .ok (.aload_n 0, 1) := by decide +kernel
theorem dL_law_1869 : decode cL_law 1869 = .ok (.iload_n 3, 1) := by decide +kernel
theorem dL_law_1870 : decode cL_law 1870 = .ok (.iconst 1, 1) := by decide +kernel
theorem dL_law_1871 : decode cL_law 1871 = .ok (.iadd, 1) := by decide +kernel
theorem dL_law_1872 : decode cL_law 1872 = .ok (.iaload, 1) := by decide +kernel
theorem dL_law_1873 : decode cL_law 1873 = .ok (.aload_n 0, 1) := by decide +kernel
theorem dL_law_1874 : decode cL_law 1874 = .ok (.iload_n 3, 1) := by decide +kernel
theorem dL_law_1875 : decode cL_law 1875 = .ok (.iconst 2, 1) := by decide +kernel
theorem dL_law_1876 : decode cL_law 1876 = .ok (.iadd, 1) := by decide +kernel
theorem dL_law_1877 : decode cL_law 1877 = .ok (.iaload, 1) := by decide +kernel
theorem dL_law_1878 : decode cL_law 1878 = .ok (.invokevirtual 244, 3) := by decide +kernel
theorem dL_law_1881 : decode cL_law 1881 = .ok (.aload_n 2, 1) := by decide +kernel
theorem dL_law_1882 : decode cL_law 1882 = .ok (.aload_n 0, 1) := by decide +kernel
theorem dL_law_1883 : decode cL_law 1883 = .ok (.iload_n 3, 1) := by decide +kernel
theorem dL_law_1884 : decode cL_law 1884 = .ok (.iconst 1, 1) := by decide +kernel
theorem dL_law_1885 : decode cL_law 1885 = .ok (.iadd, 1) := by decide +kernel
theorem dL_law_1886 : decode cL_law 1886 = .ok (.iaload, 1) := by decide +kernel
theorem dL_law_1887 : decode cL_law 1887 = .ok (.aload_n 0, 1) := by decide +kernel
theorem dL_law_1888 : decode cL_law 1888 = .ok (.iload_n 3, 1) := by decide +kernel
theorem dL_law_1889 : decode cL_law 1889 = .ok (.iconst 2, 1) := by decide +kernel
theorem dL_law_1890 : decode cL_law 1890 = .ok (.iadd, 1) := by decide +kernel
theorem dL_law_1891 : decode cL_law 1891 = .ok (.iaload, 1) := by decide +kernel
theorem dL_law_1892 : decode cL_law 1892 = .ok (.invokevirtual 247, 3) := by decide +kernel
theorem dL_law_1895 : decode cL_law 1895 = .ok (.if_icmp .eq 31, 3) := by decide +kernel
theorem dL_law_1898 : decode cL_law 1898 = .ok (.iconst 0, 1) := by decide +kernel
theorem dL_law_1899 : decode cL_law 1899 = .ok (.ireturn, 1) := by decide +kernel
theorem dL_law_1900 : decode cL_law 1900 = .ok (.aload_n 1, 1) := by decide +kernel
theorem dL_law_1901 : decode cL_law 1901 = .ok (.invokevirtual 248, 3) := by decide +kernel
theorem dL_law_1904 : decode cL_law 1904 = .ok (.aload_n 2, 1) := by decide +kernel
theorem dL_law_1905 : decode cL_law 1905 = .ok (.invokevirtual 251, 3) := by decide +kernel
theorem dL_law_1908 : decode cL_law 1908 = .ok (.if_icmp .eq 18, 3) := by decide +kernel
theorem dL_law_1911 : decode cL_law 1911 = .ok (.iconst 0, 1) := by decide +kernel
theorem dL_law_1912 : decode cL_law 1912 = .ok (.ireturn, 1) := by decide +kernel
theorem dL_law_1913 : decode cL_law 1913 = .ok (.aload_n 1, 1) := by decide +kernel
theorem dL_law_1914 : decode cL_law 1914 = .ok (.invokevirtual 252, 3) := by decide +kernel
theorem dL_law_1917 : decode cL_law 1917 = .ok (.aload_n 2, 1) := by decide +kernel
theorem dL_law_1918 : decode cL_law 1918 = .ok (.invokevirtual 255, 3) := by decide +kernel
theorem dL_law_1921 : decode cL_law 1921 = .ok (.if_icmp .eq 5, 3) := by decide +kernel
theorem dL_law_1924 : decode cL_law 1924 = .ok (.iconst 0, 1) := by decide +kernel
theorem dL_law_1925 : decode cL_law 1925 = .ok (.ireturn, 1) := by decide +kernel
theorem dL_law_1926 : decode cL_law 1926 = .ok (.iinc 3 6, 3) := by decide +kernel
theorem dL_law_1929 : decode cL_law 1929 = .ok (.goto (-1911), 3) := by decide +kernel
theorem dL_law_1932 : decode cL_law 1932 = .ok (.iconst 1, 1) := by decide +kernel
theorem dL_law_1933 : decode cL_law 1933 = .ok (.ireturn, 1) := by decide +kernel
theorem dX0_init_0 : decode cX0_init 0 = .ok (.aload_n 0, 1) := by decide +kernel
theorem dX0_init_1 : decode cX0_init 1 = .ok (.invokespecial 3, 3) := by decide +kernel
theorem dX0_init_4 : decode cX0_init 4 = .ok (.aload_n 0, 1) := by decide +kernel
theorem dX0_init_5 : decode cX0_init 5 = .ok (.new 9, 3) := by decide +kernel
theorem dX0_init_8 : decode cX0_init 8 = .ok (.dup, 1) := by decide +kernel
theorem dX0_init_9 : decode cX0_init 9 = .ok (.invokespecial 11, 3) := by decide +kernel
theorem dX0_init_12 : decode cX0_init 12 = .ok (.putfield 12, 3) := by decide +kernel
theorem dX0_init_15 : decode cX0_init 15 = .ok (.aload_n 0, 1) := by decide +kernel
theorem dX0_init_16 : decode cX0_init 16 = .ok (.new 18, 3) := by decide +kernel
theorem dX0_init_19 : decode cX0_init 19 = .ok (.dup, 1) := by decide +kernel
theorem dX0_init_20 : decode cX0_init 20 = .ok (.invokespecial 20, 3) := by decide +kernel
theorem dX0_init_23 : decode cX0_init 23 = .ok (.putfield 21, 3) := by decide +kernel
theorem dX0_init_26 : decode cX0_init 26 = .ok (.aload_n 0, 1) := by decide +kernel
theorem dX0_init_27 : decode cX0_init 27 = .ok (.new 25, 3) := by decide +kernel
theorem dX0_init_30 : decode cX0_init 30 = .ok (.dup, 1) := by decide +kernel
theorem dX0_init_31 : decode cX0_init 31 = .ok (.bipush 7, 2) := by decide +kernel
theorem dX0_init_33 : decode cX0_init 33 = .ok (.iconst 5, 1) := by decide +kernel
theorem dX0_init_34 : decode cX0_init 34 = .ok (.invokespecial 27, 3) := by decide +kernel
theorem dX0_init_37 : decode cX0_init 37 = .ok (.putfield 30, 3) := by decide +kernel
theorem dX0_init_40 : decode cX0_init 40 = .ok (.aload_n 0, 1) := by decide +kernel
theorem dX0_init_41 : decode cX0_init 41 = .ok (.new 25, 3) := by decide +kernel
theorem dX0_init_44 : decode cX0_init 44 = .ok (.dup, 1) := by decide +kernel
theorem dX0_init_45 : decode cX0_init 45 = .ok (.bipush 8, 2) := by decide +kernel
theorem dX0_init_47 : decode cX0_init 47 = .ok (.iconst 5, 1) := by decide +kernel
theorem dX0_init_48 : decode cX0_init 48 = .ok (.invokespecial 27, 3) := by decide +kernel
theorem dX0_init_51 : decode cX0_init 51 = .ok (.putfield 34, 3) := by decide +kernel
theorem dX0_init_54 : decode cX0_init 54 = .ok (.aload_n 0, 1) := by decide +kernel
theorem dX0_init_55 : decode cX0_init 55 = .ok (.new 25, 3) := by decide +kernel
theorem dX0_init_58 : decode cX0_init 58 = .ok (.dup, 1) := by decide +kernel
theorem dX0_init_59 : decode cX0_init 59 = .ok (.iconst 4, 1) := by decide +kernel
theorem dX0_init_60 : decode cX0_init 60 = .ok (.iconst 3, 1) := by decide +kernel
theorem dX0_init_61 : decode cX0_init 61 = .ok (.invokespecial 27, 3) := by decide +kernel
theorem dX0_init_64 : decode cX0_init 64 = .ok (.putfield 37, 3) := by decide +kernel
theorem dX0_init_67 : decode cX0_init 67 = .ok (.aload_n 0, 1) := by decide +kernel
theorem dX0_init_68 : decode cX0_init 68 = .ok (.new 25, 3) := by decide +kernel
theorem dX0_init_71 : decode cX0_init 71 = .ok (.dup, 1) := by decide +kernel
theorem dX0_init_72 : decode cX0_init 72 = .ok (.bipush 30, 2) := by decide +kernel
theorem dX0_init_74 : decode cX0_init 74 = .ok (.bipush 6, 2) := by decide +kernel
theorem dX0_init_76 : decode cX0_init 76 = .ok (.invokespecial 27, 3) := by decide +kernel
theorem dX0_init_79 : decode cX0_init 79 = .ok (.putfield 42, 3) := by decide +kernel
theorem dX0_init_82 : decode cX0_init 82 = .ok (.aload_n 0, 1) := by decide +kernel
theorem dX0_init_83 : decode cX0_init 83 = .ok (.invokevirtual 45, 3) := by decide +kernel
theorem dX0_init_86 : decode cX0_init 86 = .ok (.return_, 1) := by decide +kernel
theorem dX0_clear_0 : decode cX0_clear 0 = .ok (.aload_n 0, 1) := by decide +kernel
theorem dX0_clear_1 : decode cX0_clear 1 = .ok (.iconst 1, 1) := by decide +kernel
theorem dX0_clear_2 : decode cX0_clear 2 = .ok (.putfield 48, 3) := by decide +kernel
theorem dX0_clear_5 : decode cX0_clear 5 = .ok (.aload_n 0, 1) := by decide +kernel
theorem dX0_clear_6 : decode cX0_clear 6 = .ok (.iconst 2, 1) := by decide +kernel
theorem dX0_clear_7 : decode cX0_clear 7 = .ok (.putfield 52, 3) := by decide +kernel
theorem dX0_clear_10 : decode cX0_clear 10 = .ok (.aload_n 0, 1) := by decide +kernel
theorem dX0_clear_11 : decode cX0_clear 11 = .ok (.iconst 1, 1) := by decide +kernel
theorem dX0_clear_12 : decode cX0_clear 12 = .ok (.putfield 55, 3) := by decide +kernel
theorem dX0_clear_15 : decode cX0_clear 15 = .ok (.aload_n 0, 1) := by decide +kernel
theorem dX0_clear_16 : decode cX0_clear 16 = .ok (.iconst 0, 1) := by decide +kernel
theorem dX0_clear_17 : decode cX0_clear 17 = .ok (.putfield 58, 3) := by decide +kernel
theorem dX0_clear_20 : decode cX0_clear 20 = .ok (.aload_n 0, 1) := by decide +kernel
theorem dX0_clear_21 : decode cX0_clear 21 = .ok (.iconst 0, 1) := by decide +kernel
theorem dX0_clear_22 : decode cX0_clear 22 = .ok (.putfield 61, 3) := by decide +kernel
theorem dX0_clear_25 : decode cX0_clear 25 = .ok (.aload_n 0, 1) := by decide +kernel
theorem dX0_clear_26 : decode cX0_clear 26 = .ok (.getfield 12, 3) := by decide +kernel
theorem dX0_clear_29 : decode cX0_clear 29 = .ok (.invokevirtual 65, 3) := by decide +kernel
theorem dX0_clear_32 : decode cX0_clear 32 = .ok (.aload_n 0, 1) := by decide +kernel
theorem dX0_clear_33 : decode cX0_clear 33 = .ok (.getfield 21, 3) := by decide +kernel
theorem dX0_clear_36 : decode cX0_clear 36 = .ok (.invokevirtual 66, 3) := by decide +kernel
theorem dX0_clear_39 : decode cX0_clear 39 = .ok (.aload_n 0, 1) := by decide +kernel
theorem dX0_clear_40 : decode cX0_clear 40 = .ok (.getfield 30, 3) := by decide +kernel
theorem dX0_clear_43 : decode cX0_clear 43 = .ok (.iconst 0, 1) := by decide +kernel
theorem dX0_clear_44 : decode cX0_clear 44 = .ok (.putfield 67, 3) := by decide +kernel
theorem dX0_clear_47 : decode cX0_clear 47 = .ok (.aload_n 0, 1) := by decide +kernel
theorem dX0_clear_48 : decode cX0_clear 48 = .ok (.getfield 34, 3) := by decide +kernel
theorem dX0_clear_51 : decode cX0_clear 51 = .ok (.iconst 0, 1) := by decide +kernel
theorem dX0_clear_52 : decode cX0_clear 52 = .ok (.putfield 67, 3) := by decide +kernel
theorem dX0_clear_55 : decode cX0_clear 55 = .ok (.aload_n 0, 1) := by decide +kernel
theorem dX0_clear_56 : decode cX0_clear 56 = .ok (.getfield 37, 3) := by decide +kernel
theorem dX0_clear_59 : decode cX0_clear 59 = .ok (.iconst 0, 1) := by decide +kernel
theorem dX0_clear_60 : decode cX0_clear 60 = .ok (.putfield 67, 3) := by decide +kernel
theorem dX0_clear_63 : decode cX0_clear 63 = .ok (.aload_n 0, 1) := by decide +kernel
theorem dX0_clear_64 : decode cX0_clear 64 = .ok (.getfield 42, 3) := by decide +kernel
theorem dX0_clear_67 : decode cX0_clear 67 = .ok (.iconst 0, 1) := by decide +kernel
theorem dX0_clear_68 : decode cX0_clear 68 = .ok (.putfield 67, 3) := by decide +kernel
theorem dX0_clear_71 : decode cX0_clear 71 = .ok (.return_, 1) := by decide +kernel
theorem dX0_copyFrom_0 : decode cX0_copyFrom 0 = .ok (.aload_n 0, 1) := by decide +kernel
theorem dX0_copyFrom_1 : decode cX0_copyFrom 1 = .ok (.aload_n 1, 1) := by decide +kernel
theorem dX0_copyFrom_2 : decode cX0_copyFrom 2 = .ok (.getfield 48, 3) := by decide +kernel
theorem dX0_copyFrom_5 : decode cX0_copyFrom 5 = .ok (.putfield 48, 3) := by decide +kernel
theorem dX0_copyFrom_8 : decode cX0_copyFrom 8 = .ok (.aload_n 0, 1) := by decide +kernel
theorem dX0_copyFrom_9 : decode cX0_copyFrom 9 = .ok (.aload_n 1, 1) := by decide +kernel
theorem dX0_copyFrom_10 : decode cX0_copyFrom 10 = .ok (.getfield 52, 3) := by decide +kernel
theorem dX0_copyFrom_13 : decode cX0_copyFrom 13 = .ok (.putfield 52, 3) := by decide +kernel
theorem dX0_copyFrom_16 : decode cX0_copyFrom 16 = .ok (.aload_n 0, 1) := by decide +kernel
theorem dX0_copyFrom_17 : decode cX0_copyFrom 17 = .ok (.aload_n 1, 1) := by decide +kernel
theorem dX0_copyFrom_18 : decode cX0_copyFrom 18 = .ok (.getfield 55, 3) := by decide +kernel
theorem dX0_copyFrom_21 : decode cX0_copyFrom 21 = .ok (.putfield 55, 3) := by decide +kernel
theorem dX0_copyFrom_24 : decode cX0_copyFrom 24 = .ok (.aload_n 0, 1) := by decide +kernel
theorem dX0_copyFrom_25 : decode cX0_copyFrom 25 = .ok (.aload_n 1, 1) := by decide +kernel
theorem dX0_copyFrom_26 : decode cX0_copyFrom 26 = .ok (.getfield 58, 3) := by decide +kernel
theorem dX0_copyFrom_29 : decode cX0_copyFrom 29 = .ok (.putfield 58, 3) := by decide +kernel
theorem dX0_copyFrom_32 : decode cX0_copyFrom 32 = .ok (.aload_n 0, 1) := by decide +kernel
theorem dX0_copyFrom_33 : decode cX0_copyFrom 33 = .ok (.aload_n 1, 1) := by decide +kernel
theorem dX0_copyFrom_34 : decode cX0_copyFrom 34 = .ok (.getfield 61, 3) := by decide +kernel
theorem dX0_copyFrom_37 : decode cX0_copyFrom 37 = .ok (.putfield 61, 3) := by decide +kernel
theorem dX0_copyFrom_40 : decode cX0_copyFrom 40 = .ok (.aload_n 0, 1) := by decide +kernel
theorem dX0_copyFrom_41 : decode cX0_copyFrom 41 = .ok (.getfield 12, 3) := by decide +kernel
theorem dX0_copyFrom_44 : decode cX0_copyFrom 44 = .ok (.aload_n 1, 1) := by decide +kernel
theorem dX0_copyFrom_45 : decode cX0_copyFrom 45 = .ok (.getfield 12, 3) := by decide +kernel
theorem dX0_copyFrom_48 : decode cX0_copyFrom 48 = .ok (.invokevirtual 70, 3) := by decide +kernel
theorem dX0_copyFrom_51 : decode cX0_copyFrom 51 = .ok (.aload_n 0, 1) := by decide +kernel
theorem dX0_copyFrom_52 : decode cX0_copyFrom 52 = .ok (.getfield 21, 3) := by decide +kernel
theorem dX0_copyFrom_55 : decode cX0_copyFrom 55 = .ok (.aload_n 1, 1) := by decide +kernel
theorem dX0_copyFrom_56 : decode cX0_copyFrom 56 = .ok (.getfield 21, 3) := by decide +kernel
theorem dX0_copyFrom_59 : decode cX0_copyFrom 59 = .ok (.invokevirtual 74, 3) := by decide +kernel
theorem dX0_copyFrom_62 : decode cX0_copyFrom 62 = .ok (.aload_n 0, 1) := by decide +kernel
theorem dX0_copyFrom_63 : decode cX0_copyFrom 63 = .ok (.getfield 30, 3) := by decide +kernel
theorem dX0_copyFrom_66 : decode cX0_copyFrom 66 = .ok (.aload_n 1, 1) := by decide +kernel
theorem dX0_copyFrom_67 : decode cX0_copyFrom 67 = .ok (.getfield 30, 3) := by decide +kernel
theorem dX0_copyFrom_70 : decode cX0_copyFrom 70 = .ok (.invokevirtual 77, 3) := by decide +kernel
theorem dX0_copyFrom_73 : decode cX0_copyFrom 73 = .ok (.aload_n 0, 1) := by decide +kernel
theorem dX0_copyFrom_74 : decode cX0_copyFrom 74 = .ok (.getfield 34, 3) := by decide +kernel
theorem dX0_copyFrom_77 : decode cX0_copyFrom 77 = .ok (.aload_n 1, 1) := by decide +kernel
theorem dX0_copyFrom_78 : decode cX0_copyFrom 78 = .ok (.getfield 34, 3) := by decide +kernel
theorem dX0_copyFrom_81 : decode cX0_copyFrom 81 = .ok (.invokevirtual 77, 3) := by decide +kernel
theorem dX0_copyFrom_84 : decode cX0_copyFrom 84 = .ok (.aload_n 0, 1) := by decide +kernel
theorem dX0_copyFrom_85 : decode cX0_copyFrom 85 = .ok (.getfield 37, 3) := by decide +kernel
theorem dX0_copyFrom_88 : decode cX0_copyFrom 88 = .ok (.aload_n 1, 1) := by decide +kernel
theorem dX0_copyFrom_89 : decode cX0_copyFrom 89 = .ok (.getfield 37, 3) := by decide +kernel
theorem dX0_copyFrom_92 : decode cX0_copyFrom 92 = .ok (.invokevirtual 77, 3) := by decide +kernel
theorem dX0_copyFrom_95 : decode cX0_copyFrom 95 = .ok (.aload_n 0, 1) := by decide +kernel
theorem dX0_copyFrom_96 : decode cX0_copyFrom 96 = .ok (.getfield 42, 3) := by decide +kernel
theorem dX0_copyFrom_99 : decode cX0_copyFrom 99 = .ok (.aload_n 1, 1) := by decide +kernel
theorem dX0_copyFrom_100 : decode cX0_copyFrom 100 = .ok (.getfield 42, 3) := by decide +kernel
theorem dX0_copyFrom_103 : decode cX0_copyFrom 103 = .ok (.invokevirtual 77, 3) := by decide +kernel
theorem dX0_copyFrom_106 : decode cX0_copyFrom 106 = .ok (.return_, 1) := by decide +kernel
theorem dX0_addExtra_0 : decode cX0_addExtra 0 = .ok (.aload_n 0, 1) := by decide +kernel
theorem dX0_addExtra_1 : decode cX0_addExtra 1 = .ok (.getfield 30, 3) := by decide +kernel
theorem dX0_addExtra_4 : decode cX0_addExtra 4 = .ok (.invokevirtual 80, 3) := by decide +kernel
theorem dX0_addExtra_7 : decode cX0_addExtra 7 = .ok (.istore_n 2, 1) := by decide +kernel
theorem dX0_addExtra_8 : decode cX0_addExtra 8 = .ok (.aload_n 0, 1) := by decide +kernel
theorem dX0_addExtra_9 : decode cX0_addExtra 9 = .ok (.getfield 30, 3) := by decide +kernel
theorem dX0_addExtra_12 : decode cX0_addExtra 12 = .ok (.iload_n 2, 1) := by decide +kernel
theorem dX0_addExtra_13 : decode cX0_addExtra 13 = .ok (.iconst 0, 1) := by decide +kernel
theorem dX0_addExtra_14 : decode cX0_addExtra 14 = .ok (.iload_n 1, 1) := by decide +kernel
theorem dX0_addExtra_15 : decode cX0_addExtra 15 = .ok (.invokevirtual 84, 3) := by decide +kernel
theorem dX0_addExtra_18 : decode cX0_addExtra 18 = .ok (.iload_n 2, 1) := by decide +kernel
theorem dX0_addExtra_19 : decode cX0_addExtra 19 = .ok (.ireturn, 1) := by decide +kernel
theorem dX0_addHappening_0 : decode cX0_addHappening 0 = .ok (.aload_n 0, 1) := by decide +kernel
theorem dX0_addHappening_1 : decode cX0_addHappening 1 = .ok (.getfield 34, 3) := by decide +kernel
theorem dX0_addHappening_4 : decode cX0_addHappening 4 = .ok (.invokevirtual 80, 3) := by decide +kernel
theorem dX0_addHappening_7 : decode cX0_addHappening 7 = .ok (.istore 4, 2) := by decide +kernel
theorem dX0_addHappening_9 : decode cX0_addHappening 9 = .ok (.aload_n 0, 1) := by decide +kernel
theorem dX0_addHappening_10 : decode cX0_addHappening 10 = .ok (.getfield 34, 3) := by decide +kernel
theorem dX0_addHappening_13 : decode cX0_addHappening 13 = .ok (.iload 4, 2) := by decide +kernel
theorem dX0_addHappening_15 : decode cX0_addHappening 15 = .ok (.iconst 0, 1) := by decide +kernel
theorem dX0_addHappening_16 : decode cX0_addHappening 16 = .ok (.iload_n 1, 1) := by decide +kernel
theorem dX0_addHappening_17 : decode cX0_addHappening 17 = .ok (.invokevirtual 84, 3) := by decide +kernel
theorem dX0_addHappening_20 : decode cX0_addHappening 20 = .ok (.aload_n 0, 1) := by decide +kernel
theorem dX0_addHappening_21 : decode cX0_addHappening 21 = .ok (.getfield 34, 3) := by decide +kernel
theorem dX0_addHappening_24 : decode cX0_addHappening 24 = .ok (.iload 4, 2) := by decide +kernel
theorem dX0_addHappening_26 : decode cX0_addHappening 26 = .ok (.iconst 1, 1) := by decide +kernel
theorem dX0_addHappening_27 : decode cX0_addHappening 27 = .ok (.iload_n 2, 1) := by decide +kernel
theorem dX0_addHappening_28 : decode cX0_addHappening 28 = .ok (.invokevirtual 84, 3) := by decide +kernel
theorem dX0_addHappening_31 : decode cX0_addHappening 31 = .ok (.aload_n 0, 1) := by decide +kernel
theorem dX0_addHappening_32 : decode cX0_addHappening 32 = .ok (.getfield 34, 3) := by decide +kernel
theorem dX0_addHappening_35 : decode cX0_addHappening 35 = .ok (.iload 4, 2) := by decide +kernel
theorem dX0_addHappening_37 : decode cX0_addHappening 37 = .ok (.iconst 2, 1) := by decide +kernel
theorem dX0_addHappening_38 : decode cX0_addHappening 38 = .ok (.iload_n 3, 1) := by decide +kernel
theorem dX0_addHappening_39 : decode cX0_addHappening 39 = .ok (.invokevirtual 84, 3) := by decide +kernel
theorem dX0_addHappening_42 : decode cX0_addHappening 42 = .ok (.iload 4, 2) := by decide +kernel
theorem dX0_addHappening_44 : decode cX0_addHappening 44 = .ok (.ireturn, 1) := by decide +kernel
theorem dX0_addWatcher_0 : decode cX0_addWatcher 0 = .ok (.aload_n 0, 1) := by decide +kernel
theorem dX0_addWatcher_1 : decode cX0_addWatcher 1 = .ok (.getfield 37, 3) := by decide +kernel
theorem dX0_addWatcher_4 : decode cX0_addWatcher 4 = .ok (.invokevirtual 80, 3) := by decide +kernel
theorem dX0_addWatcher_7 : decode cX0_addWatcher 7 = .ok (.istore_n 3, 1) := by decide +kernel
theorem dX0_addWatcher_8 : decode cX0_addWatcher 8 = .ok (.aload_n 0, 1) := by decide +kernel
theorem dX0_addWatcher_9 : decode cX0_addWatcher 9 = .ok (.getfield 37, 3) := by decide +kernel
theorem dX0_addWatcher_12 : decode cX0_addWatcher 12 = .ok (.iload_n 3, 1) := by decide +kernel
theorem dX0_addWatcher_13 : decode cX0_addWatcher 13 = .ok (.iconst 0, 1) := by decide +kernel
theorem dX0_addWatcher_14 : decode cX0_addWatcher 14 = .ok (.iload_n 1, 1) := by decide +kernel
theorem dX0_addWatcher_15 : decode cX0_addWatcher 15 = .ok (.invokevirtual 84, 3) := by decide +kernel
theorem dX0_addWatcher_18 : decode cX0_addWatcher 18 = .ok (.aload_n 0, 1) := by decide +kernel
theorem dX0_addWatcher_19 : decode cX0_addWatcher 19 = .ok (.getfield 37, 3) := by decide +kernel
theorem dX0_addWatcher_22 : decode cX0_addWatcher 22 = .ok (.iload_n 3, 1) := by decide +kernel
theorem dX0_addWatcher_23 : decode cX0_addWatcher 23 = .ok (.iconst 1, 1) := by decide +kernel
theorem dX0_addWatcher_24 : decode cX0_addWatcher 24 = .ok (.iload_n 2, 1) := by decide +kernel
theorem dX0_addWatcher_25 : decode cX0_addWatcher 25 = .ok (.invokevirtual 84, 3) := by decide +kernel
theorem dX0_addWatcher_28 : decode cX0_addWatcher 28 = .ok (.iload_n 3, 1) := by decide +kernel
theorem dX0_addWatcher_29 : decode cX0_addWatcher 29 = .ok (.ireturn, 1) := by decide +kernel
theorem dX0_withFate_0 : decode cX0_withFate 0 = .ok (.aload_n 0, 1) := by decide +kernel
theorem dX0_withFate_1 : decode cX0_withFate 1 = .ok (.getfield 34, 3) := by decide +kernel
theorem dX0_withFate_4 : decode cX0_withFate 4 = .ok (.iconst 3, 1) := by decide +kernel
theorem dX0_withFate_5 : decode cX0_withFate 5 = .ok (.iload_n 1, 1) := by decide +kernel
theorem dX0_withFate_6 : decode cX0_withFate 6 = .ok (.invokevirtual 88, 3) := by decide +kernel
theorem dX0_withFate_9 : decode cX0_withFate 9 = .ok (.ireturn, 1) := by decide +kernel
theorem dX0_isToCome_0 : decode cX0_isToCome 0 = .ok (.aload_n 0, 1) := by decide +kernel
theorem dX0_isToCome_1 : decode cX0_isToCome 1 = .ok (.getfield 34, 3) := by decide +kernel
theorem dX0_isToCome_4 : decode cX0_isToCome 4 = .ok (.iload_n 1, 1) := by decide +kernel
theorem dX0_isToCome_5 : decode cX0_isToCome 5 = .ok (.iconst 3, 1) := by decide +kernel
theorem dX0_isToCome_6 : decode cX0_isToCome 6 = .ok (.invokevirtual 92, 3) := by decide +kernel
theorem dX0_isToCome_9 : decode cX0_isToCome 9 = .ok (.ifCond .ne 7, 3) := by decide +kernel
theorem dX0_isToCome_12 : decode cX0_isToCome 12 = .ok (.iconst 1, 1) := by decide +kernel
theorem dX0_isToCome_13 : decode cX0_isToCome 13 = .ok (.goto 4, 3) := by decide +kernel
theorem dX0_isToCome_16 : decode cX0_isToCome 16 = .ok (.iconst 0, 1) := by decide +kernel
theorem dX0_isToCome_17 : decode cX0_isToCome 17 = .ok (.ireturn, 1) := by decide +kernel
theorem dX0_onRoads_0 : decode cX0_onRoads 0 = .ok (.iconst 0, 1) := by decide +kernel
theorem dX0_onRoads_1 : decode cX0_onRoads 1 = .ok (.istore_n 1, 1) := by decide +kernel
theorem dX0_onRoads_2 : decode cX0_onRoads 2 = .ok (.iconst 0, 1) := by decide +kernel
theorem dX0_onRoads_3 : decode cX0_onRoads 3 = .ok (.istore_n 2, 1) := by decide +kernel
theorem dX0_onRoads_4 : decode cX0_onRoads 4 = .ok (.iload_n 2, 1) := by decide +kernel
theorem dX0_onRoads_5 : decode cX0_onRoads 5 = .ok (.aload_n 0, 1) := by decide +kernel
theorem dX0_onRoads_6 : decode cX0_onRoads 6 = .ok (.getfield 30, 3) := by decide +kernel
theorem dX0_onRoads_9 : decode cX0_onRoads 9 = .ok (.getfield 67, 3) := by decide +kernel
theorem dX0_onRoads_12 : decode cX0_onRoads 12 = .ok (.if_icmp .ge 27, 3) := by decide +kernel
theorem dX0_onRoads_15 : decode cX0_onRoads 15 = .ok (.aload_n 0, 1) := by decide +kernel
theorem dX0_onRoads_16 : decode cX0_onRoads 16 = .ok (.getfield 30, 3) := by decide +kernel
theorem dX0_onRoads_19 : decode cX0_onRoads 19 = .ok (.iload_n 2, 1) := by decide +kernel
theorem dX0_onRoads_20 : decode cX0_onRoads 20 = .ok (.iconst 1, 1) := by decide +kernel
theorem dX0_onRoads_21 : decode cX0_onRoads 21 = .ok (.invokevirtual 92, 3) := by decide +kernel
theorem dX0_onRoads_24 : decode cX0_onRoads 24 = .ok (.ifCond .le 9, 3) := by decide +kernel
theorem dX0_onRoads_27 : decode cX0_onRoads 27 = .ok (.iload_n 1, 1) := by decide +kernel
theorem dX0_onRoads_28 : decode cX0_onRoads 28 = .ok (.iconst 1, 1) := by decide +kernel
theorem dX0_onRoads_29 : decode cX0_onRoads 29 = .ok (.iload_n 2, 1) := by decide +kernel
theorem dX0_onRoads_30 : decode cX0_onRoads 30 = .ok (.ishl, 1) := by decide +kernel
theorem dX0_onRoads_31 : decode cX0_onRoads 31 = .ok (.ior, 1) := by decide +kernel
theorem dX0_onRoads_32 : decode cX0_onRoads 32 = .ok (.istore_n 1, 1) := by decide +kernel
theorem dX0_onRoads_33 : decode cX0_onRoads 33 = .ok (.iinc 2 1, 3) := by decide +kernel
theorem dX0_onRoads_36 : decode cX0_onRoads 36 = .ok (.goto (-32), 3) := by decide +kernel
theorem dX0_onRoads_39 : decode cX0_onRoads 39 = .ok (.iload_n 1, 1) := by decide +kernel
theorem dX0_onRoads_40 : decode cX0_onRoads 40 = .ok (.ireturn, 1) := by decide +kernel
theorem dX0_behind_0 : decode cX0_behind 0 = .ok (.iconst 0, 1) := by decide +kernel
theorem dX0_behind_1 : decode cX0_behind 1 = .ok (.istore_n 2, 1) := by decide +kernel
theorem dX0_behind_2 : decode cX0_behind 2 = .ok (.iconst 0, 1) := by decide +kernel
theorem dX0_behind_3 : decode cX0_behind 3 = .ok (.istore_n 3, 1) := by decide +kernel
theorem dX0_behind_4 : decode cX0_behind 4 = .ok (.iload_n 3, 1) := by decide +kernel
theorem dX0_behind_5 : decode cX0_behind 5 = .ok (.aload_n 0, 1) := by decide +kernel
theorem dX0_behind_6 : decode cX0_behind 6 = .ok (.getfield 30, 3) := by decide +kernel
theorem dX0_behind_9 : decode cX0_behind 9 = .ok (.getfield 67, 3) := by decide +kernel
theorem dX0_behind_12 : decode cX0_behind 12 = .ok (.if_icmp .ge 24, 3) := by decide +kernel
theorem dX0_behind_15 : decode cX0_behind 15 = .ok (.aload_n 0, 1) := by decide +kernel
theorem dX0_behind_16 : decode cX0_behind 16 = .ok (.iload_n 3, 1) := by decide +kernel
theorem dX0_behind_17 : decode cX0_behind 17 = .ok (.iload_n 1, 1) := by decide +kernel
theorem dX0_behind_18 : decode cX0_behind 18 = .ok (.invokevirtual 95, 3) := by decide +kernel
theorem dX0_behind_21 : decode cX0_behind 21 = .ok (.ifCond .eq 9, 3) := by decide +kernel
theorem dX0_behind_24 : decode cX0_behind 24 = .ok (.iload_n 2, 1) := by decide +kernel
theorem dX0_behind_25 : decode cX0_behind 25 = .ok (.iconst 1, 1) := by decide +kernel
theorem dX0_behind_26 : decode cX0_behind 26 = .ok (.iload_n 3, 1) := by decide +kernel
theorem dX0_behind_27 : decode cX0_behind 27 = .ok (.ishl, 1) := by decide +kernel
theorem dX0_behind_28 : decode cX0_behind 28 = .ok (.ior, 1) := by decide +kernel
theorem dX0_behind_29 : decode cX0_behind 29 = .ok (.istore_n 2, 1) := by decide +kernel
theorem dX0_behind_30 : decode cX0_behind 30 = .ok (.iinc 3 1, 3) := by decide +kernel
theorem dX0_behind_33 : decode cX0_behind 33 = .ok (.goto (-29), 3) := by decide +kernel
theorem dX0_behind_36 : decode cX0_behind 36 = .ok (.iload_n 2, 1) := by decide +kernel
theorem dX0_behind_37 : decode cX0_behind 37 = .ok (.ireturn, 1) := by decide +kernel
theorem dX0_isAt_0 : decode cX0_isAt 0 = .ok (.aload_n 0, 1) := by decide +kernel
theorem dX0_isAt_1 : decode cX0_isAt 1 = .ok (.getfield 30, 3) := by decide +kernel
theorem dX0_isAt_4 : decode cX0_isAt 4 = .ok (.iload_n 1, 1) := by decide +kernel
theorem dX0_isAt_5 : decode cX0_isAt 5 = .ok (.iconst 1, 1) := by decide +kernel
theorem dX0_isAt_6 : decode cX0_isAt 6 = .ok (.invokevirtual 92, 3) := by decide +kernel
theorem dX0_isAt_9 : decode cX0_isAt 9 = .ok (.ifCond .ne 20, 3) := by decide +kernel
theorem dX0_isAt_12 : decode cX0_isAt 12 = .ok (.aload_n 0, 1) := by decide +kernel
theorem dX0_isAt_13 : decode cX0_isAt 13 = .ok (.getfield 30, 3) := by decide +kernel
theorem dX0_isAt_16 : decode cX0_isAt 16 = .ok (.iload_n 1, 1) := by decide +kernel
theorem dX0_isAt_17 : decode cX0_isAt 17 = .ok (.iconst 0, 1) := by decide +kernel
theorem dX0_isAt_18 : decode cX0_isAt 18 = .ok (.invokevirtual 92, 3) := by decide +kernel
theorem dX0_isAt_21 : decode cX0_isAt 21 = .ok (.iload_n 2, 1) := by decide +kernel
theorem dX0_isAt_22 : decode cX0_isAt 22 = .ok (.if_icmp .ne 7, 3) := by decide +kernel
theorem dX0_isAt_25 : decode cX0_isAt 25 = .ok (.iconst 1, 1) := by decide +kernel
theorem dX0_isAt_26 : decode cX0_isAt 26 = .ok (.goto 4, 3) := by decide +kernel
theorem dX0_isAt_29 : decode cX0_isAt 29 = .ok (.iconst 0, 1) := by decide +kernel
theorem dX0_isAt_30 : decode cX0_isAt 30 = .ok (.ireturn, 1) := by decide +kernel
theorem dX0_whereabouts_0 : decode cX0_whereabouts 0 = .ok (.aload_n 0, 1) := by decide +kernel
theorem dX0_whereabouts_1 : decode cX0_whereabouts 1 = .ok (.getfield 30, 3) := by decide +kernel
theorem dX0_whereabouts_4 : decode cX0_whereabouts 4 = .ok (.iload_n 1, 1) := by decide +kernel
theorem dX0_whereabouts_5 : decode cX0_whereabouts 5 = .ok (.iconst 0, 1) := by decide +kernel
theorem dX0_whereabouts_6 : decode cX0_whereabouts 6 = .ok (.invokevirtual 92, 3) := by decide +kernel
theorem dX0_whereabouts_9 : decode cX0_whereabouts 9 = .ok (.istore_n 2, 1) := by decide +kernel
theorem dX0_whereabouts_10 : decode cX0_whereabouts 10 = .ok (.aload_n 0, 1) := by decide +kernel
theorem dX0_whereabouts_11 : decode cX0_whereabouts 11 = .ok (.getfield 30, 3) := by decide +kernel
theorem dX0_whereabouts_14 : decode cX0_whereabouts 14 = .ok (.iload_n 1, 1) := by decide +kernel
theorem dX0_whereabouts_15 : decode cX0_whereabouts 15 = .ok (.iconst 1, 1) := by decide +kernel
theorem dX0_whereabouts_16 : decode cX0_whereabouts 16 = .ok (.invokevirtual 92, 3) := by decide +kernel
theorem dX0_whereabouts_19 : decode cX0_whereabouts 19 = .ok (.ifCond .le 10, 3) := by decide +kernel
theorem dX0_whereabouts_22 : decode cX0_whereabouts 22 = .ok (.bipush 10, 2) := by decide +kernel
theorem dX0_whereabouts_24 : decode cX0_whereabouts 24 = .ok (.iload_n 2, 1) := by decide +kernel
theorem dX0_whereabouts_25 : decode cX0_whereabouts 25 = .ok (.iadd, 1) := by decide +kernel
theorem dX0_whereabouts_26 : decode cX0_whereabouts 26 = .ok (.goto 4, 3) := by decide +kernel
theorem dX0_whereabouts_29 : decode cX0_whereabouts 29 = .ok (.iload_n 2, 1) := by decide +kernel
theorem dX0_whereabouts_30 : decode cX0_whereabouts 30 = .ok (.ireturn, 1) := by decide +kernel
theorem dX0_isOrdered_0 : decode cX0_isOrdered 0 = .ok (.aload_n 0, 1) := by decide +kernel
theorem dX0_isOrdered_1 : decode cX0_isOrdered 1 = .ok (.getfield 30, 3) := by decide +kernel
theorem dX0_isOrdered_4 : decode cX0_isOrdered 4 = .ok (.iload_n 1, 1) := by decide +kernel
theorem dX0_isOrdered_5 : decode cX0_isOrdered 5 = .ok (.iconst 2, 1) := by decide +kernel
theorem dX0_isOrdered_6 : decode cX0_isOrdered 6 = .ok (.invokevirtual 92, 3) := by decide +kernel
theorem dX0_isOrdered_9 : decode cX0_isOrdered 9 = .ok (.iload_n 2, 1) := by decide +kernel
theorem dX0_isOrdered_10 : decode cX0_isOrdered 10 = .ok (.ishr, 1) := by decide +kernel
theorem dX0_isOrdered_11 : decode cX0_isOrdered 11 = .ok (.iconst 1, 1) := by decide +kernel
theorem dX0_isOrdered_12 : decode cX0_isOrdered 12 = .ok (.iand, 1) := by decide +kernel
theorem dX0_isOrdered_13 : decode cX0_isOrdered 13 = .ok (.iconst 1, 1) := by decide +kernel
theorem dX0_isOrdered_14 : decode cX0_isOrdered 14 = .ok (.if_icmp .ne 7, 3) := by decide +kernel
theorem dX0_isOrdered_17 : decode cX0_isOrdered 17 = .ok (.iconst 1, 1) := by decide +kernel
theorem dX0_isOrdered_18 : decode cX0_isOrdered 18 = .ok (.goto 4, 3) := by decide +kernel
theorem dX0_isOrdered_21 : decode cX0_isOrdered 21 = .ok (.iconst 0, 1) := by decide +kernel
theorem dX0_isOrdered_22 : decode cX0_isOrdered 22 = .ok (.ireturn, 1) := by decide +kernel
theorem dX0_turnOrder_0 : decode cX0_turnOrder 0 = .ok (.aload_n 0, 1) := by decide +kernel
theorem dX0_turnOrder_1 : decode cX0_turnOrder 1 = .ok (.getfield 30, 3) := by decide +kernel
theorem dX0_turnOrder_4 : decode cX0_turnOrder 4 = .ok (.iload_n 1, 1) := by decide +kernel
theorem dX0_turnOrder_5 : decode cX0_turnOrder 5 = .ok (.iconst 2, 1) := by decide +kernel
theorem dX0_turnOrder_6 : decode cX0_turnOrder 6 = .ok (.aload_n 0, 1) := by decide +kernel
theorem dX0_turnOrder_7 : decode cX0_turnOrder 7 = .ok (.getfield 30, 3) := by decide +kernel
theorem dX0_turnOrder_10 : decode cX0_turnOrder 10 = .ok (.iload_n 1, 1) := by decide +kernel
theorem dX0_turnOrder_11 : decode cX0_turnOrder 11 = .ok (.iconst 2, 1) := by decide +kernel
theorem dX0_turnOrder_12 : decode cX0_turnOrder 12 = .ok (.invokevirtual 92, 3) := by decide +kernel
theorem dX0_turnOrder_15 : decode cX0_turnOrder 15 = .ok (.iconst 1, 1) := by decide +kernel
theorem dX0_turnOrder_16 : decode cX0_turnOrder 16 = .ok (.iload_n 2, 1) := by decide +kernel
theorem dX0_turnOrder_17 : decode cX0_turnOrder 17 = .ok (.ishl, 1) := by decide +kernel
theorem dX0_turnOrder_18 : decode cX0_turnOrder 18 = .ok (.ixor, 1) := by decide +kernel
theorem dX0_turnOrder_19 : decode cX0_turnOrder 19 = .ok (.invokevirtual 84, 3) := by decide +kernel
theorem dX0_turnOrder_22 : decode cX0_turnOrder 22 = .ok (.return_, 1) := by decide +kernel
theorem dX0_putOff_0 : decode cX0_putOff 0 = .ok (.aload_n 0, 1) := by decide +kernel
theorem dX0_putOff_1 : decode cX0_putOff 1 = .ok (.iload_n 1, 1) := by decide +kernel
theorem dX0_putOff_2 : decode cX0_putOff 2 = .ok (.invokevirtual 99, 3) := by decide +kernel
theorem dX0_putOff_5 : decode cX0_putOff 5 = .ok (.ifCond .eq 20, 3) := by decide +kernel
theorem dX0_putOff_8 : decode cX0_putOff 8 = .ok (.aload_n 0, 1) := by decide +kernel
theorem dX0_putOff_9 : decode cX0_putOff 9 = .ok (.getfield 34, 3) := by decide +kernel
theorem dX0_putOff_12 : decode cX0_putOff 12 = .ok (.iload_n 1, 1) := by decide +kernel
theorem dX0_putOff_13 : decode cX0_putOff 13 = .ok (.iconst 1, 1) := by decide +kernel
theorem dX0_putOff_14 : decode cX0_putOff 14 = .ok (.invokevirtual 92, 3) := by decide +kernel
theorem dX0_putOff_17 : decode cX0_putOff 17 = .ok (.iload_n 2, 1) := by decide +kernel
theorem dX0_putOff_18 : decode cX0_putOff 18 = .ok (.iadd, 1) := by decide +kernel
theorem dX0_putOff_19 : decode cX0_putOff 19 = .ok (.sipush 9999, 3) := by decide +kernel
theorem dX0_putOff_22 : decode cX0_putOff 22 = .ok (.if_icmp .le 5, 3) := by decide +kernel
theorem dX0_putOff_25 : decode cX0_putOff 25 = .ok (.iconst 0, 1) := by decide +kernel
theorem dX0_putOff_26 : decode cX0_putOff 26 = .ok (.ireturn, 1) := by decide +kernel
theorem dX0_putOff_27 : decode cX0_putOff 27 = .ok (.aload_n 0, 1) := by decide +kernel
theorem dX0_putOff_28 : decode cX0_putOff 28 = .ok (.getfield 34, 3) := by decide +kernel
theorem dX0_putOff_31 : decode cX0_putOff 31 = .ok (.iload_n 1, 1) := by decide +kernel
theorem dX0_putOff_32 : decode cX0_putOff 32 = .ok (.iconst 1, 1) := by decide +kernel
theorem dX0_putOff_33 : decode cX0_putOff 33 = .ok (.iload_n 2, 1) := by decide +kernel
theorem dX0_putOff_34 : decode cX0_putOff 34 = .ok (.invokevirtual 103, 3) := by decide +kernel
theorem dX0_putOff_37 : decode cX0_putOff 37 = .ok (.iconst 1, 1) := by decide +kernel
theorem dX0_putOff_38 : decode cX0_putOff 38 = .ok (.ireturn, 1) := by decide +kernel
theorem dX0_greatnessOf_0 : decode cX0_greatnessOf 0 = .ok (.iconst 0, 1) := by decide +kernel
theorem dX0_greatnessOf_1 : decode cX0_greatnessOf 1 = .ok (.istore_n 2, 1) := by decide +kernel
theorem dX0_greatnessOf_2 : decode cX0_greatnessOf 2 = .ok (.iconst 0, 1) := by decide +kernel
theorem dX0_greatnessOf_3 : decode cX0_greatnessOf 3 = .ok (.istore_n 3, 1) := by decide +kernel
theorem dX0_greatnessOf_4 : decode cX0_greatnessOf 4 = .ok (.iload_n 3, 1) := by decide +kernel
theorem dX0_greatnessOf_5 : decode cX0_greatnessOf 5 = .ok (.aload_n 0, 1) := by decide +kernel
theorem dX0_greatnessOf_6 : decode cX0_greatnessOf 6 = .ok (.getfield 34, 3) := by decide +kernel
theorem dX0_greatnessOf_9 : decode cX0_greatnessOf 9 = .ok (.getfield 67, 3) := by decide +kernel
theorem dX0_greatnessOf_12 : decode cX0_greatnessOf 12 = .ok (.if_icmp .ge 30, 3) := by decide +kernel
theorem dX0_greatnessOf_15 : decode cX0_greatnessOf 15 = .ok (.iload_n 1, 1) := by decide +kernel
theorem dX0_greatnessOf_16 : decode cX0_greatnessOf 16 = .ok (.iload_n 3, 1) := by decide +kernel
theorem dX0_greatnessOf_17 : decode cX0_greatnessOf 17 = .ok (.ishr, 1) := by decide +kernel
theorem dX0_greatnessOf_18 : decode cX0_greatnessOf 18 = .ok (.iconst 1, 1) := by decide +kernel
theorem dX0_greatnessOf_19 : decode cX0_greatnessOf 19 = .ok (.iand, 1) := by decide +kernel
theorem dX0_greatnessOf_20 : decode cX0_greatnessOf 20 = .ok (.iconst 1, 1) := by decide +kernel
theorem dX0_greatnessOf_21 : decode cX0_greatnessOf 21 = .ok (.if_icmp .ne 15, 3) := by decide +kernel
theorem dX0_greatnessOf_24 : decode cX0_greatnessOf 24 = .ok (.iload_n 2, 1) := by decide +kernel
theorem dX0_greatnessOf_25 : decode cX0_greatnessOf 25 = .ok (.aload_n 0, 1) := by decide +kernel
theorem dX0_greatnessOf_26 : decode cX0_greatnessOf 26 = .ok (.getfield 34, 3) := by decide +kernel
theorem dX0_greatnessOf_29 : decode cX0_greatnessOf 29 = .ok (.iload_n 3, 1) := by decide +kernel
theorem dX0_greatnessOf_30 : decode cX0_greatnessOf 30 = .ok (.iconst 2, 1) := by decide +kernel
theorem dX0_greatnessOf_31 : decode cX0_greatnessOf 31 = .ok (.invokevirtual 92, 3) := by decide +kernel
theorem dX0_greatnessOf_34 : decode cX0_greatnessOf 34 = .ok (.iadd, 1) := by decide +kernel
theorem dX0_greatnessOf_35 : decode cX0_greatnessOf 35 = .ok (.istore_n 2, 1) := by decide +kernel
theorem dX0_greatnessOf_36 : decode cX0_greatnessOf 36 = .ok (.iinc 3 1, 3) := by decide +kernel
theorem dX0_greatnessOf_39 : decode cX0_greatnessOf 39 = .ok (.goto (-35), 3) := by decide +kernel
theorem dX0_greatnessOf_42 : decode cX0_greatnessOf 42 = .ok (.iload_n 2, 1) := by decide +kernel
theorem dX0_greatnessOf_43 : decode cX0_greatnessOf 43 = .ok (.ireturn, 1) := by decide +kernel
theorem dX0_wagesOf_0 : decode cX0_wagesOf 0 = .ok (.aload_n 0, 1) := by decide +kernel
theorem dX0_wagesOf_1 : decode cX0_wagesOf 1 = .ok (.getfield 48, 3) := by decide +kernel
theorem dX0_wagesOf_4 : decode cX0_wagesOf 4 = .ok (.aload_n 0, 1) := by decide +kernel
theorem dX0_wagesOf_5 : decode cX0_wagesOf 5 = .ok (.iload_n 1, 1) := by decide +kernel
theorem dX0_wagesOf_6 : decode cX0_wagesOf 6 = .ok (.invokevirtual 106, 3) := by decide +kernel
theorem dX0_wagesOf_9 : decode cX0_wagesOf 9 = .ok (.imul, 1) := by decide +kernel
theorem dX0_wagesOf_10 : decode cX0_wagesOf 10 = .ok (.ireturn, 1) := by decide +kernel
theorem dX0_soonest_0 : decode cX0_soonest 0 = .ok (.iconst (-1), 1) := by decide +kernel
theorem dX0_soonest_1 : decode cX0_soonest 1 = .ok (.istore_n 2, 1) := by decide +kernel
theorem dX0_soonest_2 : decode cX0_soonest 2 = .ok (.iconst 0, 1) := by decide +kernel
theorem dX0_soonest_3 : decode cX0_soonest 3 = .ok (.istore_n 3, 1) := by decide +kernel
theorem dX0_soonest_4 : decode cX0_soonest 4 = .ok (.iload_n 3, 1) := by decide +kernel
theorem dX0_soonest_5 : decode cX0_soonest 5 = .ok (.aload_n 0, 1) := by decide +kernel
theorem dX0_soonest_6 : decode cX0_soonest 6 = .ok (.getfield 34, 3) := by decide +kernel
theorem dX0_soonest_9 : decode cX0_soonest 9 = .ok (.getfield 67, 3) := by decide +kernel
theorem dX0_soonest_12 : decode cX0_soonest 12 = .ok (.if_icmp .ge 46, 3) := by decide +kernel
theorem dX0_soonest_15 : decode cX0_soonest 15 = .ok (.iload_n 1, 1) := by decide +kernel
theorem dX0_soonest_16 : decode cX0_soonest 16 = .ok (.iload_n 3, 1) := by decide +kernel
theorem dX0_soonest_17 : decode cX0_soonest 17 = .ok (.ishr, 1) := by decide +kernel
theorem dX0_soonest_18 : decode cX0_soonest 18 = .ok (.iconst 1, 1) := by decide +kernel
theorem dX0_soonest_19 : decode cX0_soonest 19 = .ok (.iand, 1) := by decide +kernel
theorem dX0_soonest_20 : decode cX0_soonest 20 = .ok (.iconst 1, 1) := by decide +kernel
theorem dX0_soonest_21 : decode cX0_soonest 21 = .ok (.if_icmp .ne 31, 3) := by decide +kernel
theorem dX0_soonest_24 : decode cX0_soonest 24 = .ok (.iload_n 2, 1) := by decide +kernel
theorem dX0_soonest_25 : decode cX0_soonest 25 = .ok (.iconst (-1), 1) := by decide +kernel
theorem dX0_soonest_26 : decode cX0_soonest 26 = .ok (.if_icmp .eq 24, 3) := by decide +kernel
theorem dX0_soonest_29 : decode cX0_soonest 29 = .ok (.aload_n 0, 1) := by decide +kernel
theorem dX0_soonest_30 : decode cX0_soonest 30 = .ok (.getfield 34, 3) := by decide +kernel
theorem dX0_soonest_33 : decode cX0_soonest 33 = .ok (.iload_n 3, 1) := by decide +kernel
theorem dX0_soonest_34 : decode cX0_soonest 34 = .ok (.iconst 1, 1) := by decide +kernel
theorem dX0_soonest_35 : decode cX0_soonest 35 = .ok (.invokevirtual 92, 3) := by decide +kernel
theorem dX0_soonest_38 : decode cX0_soonest 38 = .ok (.aload_n 0, 1) := by decide +kernel
theorem dX0_soonest_39 : decode cX0_soonest 39 = .ok (.getfield 34, 3) := by decide +kernel
theorem dX0_soonest_42 : decode cX0_soonest 42 = .ok (.iload_n 2, 1) := by decide +kernel
theorem dX0_soonest_43 : decode cX0_soonest 43 = .ok (.iconst 1, 1) := by decide +kernel
theorem dX0_soonest_44 : decode cX0_soonest 44 = .ok (.invokevirtual 92, 3) := by decide +kernel
theorem dX0_soonest_47 : decode cX0_soonest 47 = .ok (.if_icmp .ge 5, 3) := by decide +kernel
theorem dX0_soonest_50 : decode cX0_soonest 50 = .ok (.iload_n 3, 1) := by decide +kernel
theorem dX0_soonest_51 : decode cX0_soonest 51 = .ok (.istore_n 2, 1) := by decide +kernel
theorem dX0_soonest_52 : decode cX0_soonest 52 = .ok (.iinc 3 1, 3) := by decide +kernel
theorem dX0_soonest_55 : decode cX0_soonest 55 = .ok (.goto (-51), 3) := by decide +kernel
theorem dX0_soonest_58 : decode cX0_soonest 58 = .ok (.iload_n 2, 1) := by decide +kernel
theorem dX0_soonest_59 : decode cX0_soonest 59 = .ok (.ireturn, 1) := by decide +kernel
theorem dX0_goalOf_0 : decode cX0_goalOf 0 = .ok (.aload_n 0, 1) := by decide +kernel
theorem dX0_goalOf_1 : decode cX0_goalOf 1 = .ok (.aload_n 0, 1) := by decide +kernel
theorem dX0_goalOf_2 : decode cX0_goalOf 2 = .ok (.getfield 30, 3) := by decide +kernel
theorem dX0_goalOf_5 : decode cX0_goalOf 5 = .ok (.iload_n 1, 1) := by decide +kernel
theorem dX0_goalOf_6 : decode cX0_goalOf 6 = .ok (.iconst 2, 1) := by decide +kernel
theorem dX0_goalOf_7 : decode cX0_goalOf 7 = .ok (.invokevirtual 92, 3) := by decide +kernel
theorem dX0_goalOf_10 : decode cX0_goalOf 10 = .ok (.aload_n 0, 1) := by decide +kernel
theorem dX0_goalOf_11 : decode cX0_goalOf 11 = .ok (.iconst 0, 1) := by decide +kernel
theorem dX0_goalOf_12 : decode cX0_goalOf 12 = .ok (.invokevirtual 110, 3) := by decide +kernel
theorem dX0_goalOf_15 : decode cX0_goalOf 15 = .ok (.iand, 1) := by decide +kernel
theorem dX0_goalOf_16 : decode cX0_goalOf 16 = .ok (.invokevirtual 113, 3) := by decide +kernel
theorem dX0_goalOf_19 : decode cX0_goalOf 19 = .ok (.ireturn, 1) := by decide +kernel
theorem dX0_canPass_0 : decode cX0_canPass 0 = .ok (.aload_n 0, 1) := by decide +kernel
theorem dX0_canPass_1 : decode cX0_canPass 1 = .ok (.getfield 58, 3) := by decide +kernel
theorem dX0_canPass_4 : decode cX0_canPass 4 = .ok (.iload_n 1, 1) := by decide +kernel
theorem dX0_canPass_5 : decode cX0_canPass 5 = .ok (.iadd, 1) := by decide +kernel
theorem dX0_canPass_6 : decode cX0_canPass 6 = .ok (.sipush 9999, 3) := by decide +kernel
theorem dX0_canPass_9 : decode cX0_canPass 9 = .ok (.if_icmp .gt 7, 3) := by decide +kernel
theorem dX0_canPass_12 : decode cX0_canPass 12 = .ok (.iconst 1, 1) := by decide +kernel
theorem dX0_canPass_13 : decode cX0_canPass 13 = .ok (.goto 4, 3) := by decide +kernel
theorem dX0_canPass_16 : decode cX0_canPass 16 = .ok (.iconst 0, 1) := by decide +kernel
theorem dX0_canPass_17 : decode cX0_canPass 17 = .ok (.ireturn, 1) := by decide +kernel
theorem dX0_passHours_0 : decode cX0_passHours 0 = .ok (.aload_n 0, 1) := by decide +kernel
theorem dX0_passHours_1 : decode cX0_passHours 1 = .ok (.getfield 58, 3) := by decide +kernel
theorem dX0_passHours_4 : decode cX0_passHours 4 = .ok (.iload_n 1, 1) := by decide +kernel
theorem dX0_passHours_5 : decode cX0_passHours 5 = .ok (.iadd, 1) := by decide +kernel
theorem dX0_passHours_6 : decode cX0_passHours 6 = .ok (.istore_n 2, 1) := by decide +kernel
theorem dX0_passHours_7 : decode cX0_passHours 7 = .ok (.iconst 0, 1) := by decide +kernel
theorem dX0_passHours_8 : decode cX0_passHours 8 = .ok (.istore_n 3, 1) := by decide +kernel
theorem dX0_passHours_9 : decode cX0_passHours 9 = .ok (.iload_n 3, 1) := by decide +kernel
theorem dX0_passHours_10 : decode cX0_passHours 10 = .ok (.iload_n 1, 1) := by decide +kernel
theorem dX0_passHours_11 : decode cX0_passHours 11 = .ok (.if_icmp .ge 65, 3) := by decide +kernel
theorem dX0_passHours_14 : decode cX0_passHours 14 = .ok (.aload_n 0, 1) := by decide +kernel
theorem dX0_passHours_15 : decode cX0_passHours 15 = .ok (.getfield 58, 3) := by decide +kernel
theorem dX0_passHours_18 : decode cX0_passHours 18 = .ok (.iload_n 2, 1) := by decide +kernel
theorem dX0_passHours_19 : decode cX0_passHours 19 = .ok (.if_icmp .ge 57, 3) := by decide +kernel
theorem dX0_passHours_22 : decode cX0_passHours 22 = .ok (.aload_n 0, 1) := by decide +kernel
theorem dX0_passHours_23 : decode cX0_passHours 23 = .ok (.invokevirtual 116, 3) := by decide +kernel
theorem dX0_passHours_26 : decode cX0_passHours 26 = .ok (.istore 4, 2) := by decide +kernel
theorem dX0_passHours_28 : decode cX0_passHours 28 = .ok (.iload 4, 2) := by decide +kernel
theorem dX0_passHours_30 : decode cX0_passHours 30 = .ok (.aload_n 0, 1) := by decide +kernel
theorem dX0_passHours_31 : decode cX0_passHours 31 = .ok (.invokevirtual 120, 3) := by decide +kernel
theorem dX0_passHours_34 : decode cX0_passHours 34 = .ok (.ior, 1) := by decide +kernel
theorem dX0_passHours_35 : decode cX0_passHours 35 = .ok (.istore 4, 2) := by decide +kernel
theorem dX0_passHours_37 : decode cX0_passHours 37 = .ok (.iload 4, 2) := by decide +kernel
theorem dX0_passHours_39 : decode cX0_passHours 39 = .ok (.aload_n 0, 1) := by decide +kernel
theorem dX0_passHours_40 : decode cX0_passHours 40 = .ok (.invokevirtual 123, 3) := by decide +kernel
theorem dX0_passHours_43 : decode cX0_passHours 43 = .ok (.ior, 1) := by decide +kernel
theorem dX0_passHours_44 : decode cX0_passHours 44 = .ok (.istore 4, 2) := by decide +kernel
theorem dX0_passHours_46 : decode cX0_passHours 46 = .ok (.aload_n 0, 1) := by decide +kernel
theorem dX0_passHours_47 : decode cX0_passHours 47 = .ok (.dup, 1) := by decide +kernel
theorem dX0_passHours_48 : decode cX0_passHours 48 = .ok (.getfield 58, 3) := by decide +kernel
theorem dX0_passHours_51 : decode cX0_passHours 51 = .ok (.iconst 1, 1) := by decide +kernel
theorem dX0_passHours_52 : decode cX0_passHours 52 = .ok (.iadd, 1) := by decide +kernel
theorem dX0_passHours_53 : decode cX0_passHours 53 = .ok (.putfield 58, 3) := by decide +kernel
theorem dX0_passHours_56 : decode cX0_passHours 56 = .ok (.iload 4, 2) := by decide +kernel
theorem dX0_passHours_58 : decode cX0_passHours 58 = .ok (.ifCond .ne 12, 3) := by decide +kernel
theorem dX0_passHours_61 : decode cX0_passHours 61 = .ok (.aload_n 0, 1) := by decide +kernel
theorem dX0_passHours_62 : decode cX0_passHours 62 = .ok (.aload_n 0, 1) := by decide +kernel
theorem dX0_passHours_63 : decode cX0_passHours 63 = .ok (.iload_n 2, 1) := by decide +kernel
theorem dX0_passHours_64 : decode cX0_passHours 64 = .ok (.invokevirtual 126, 3) := by decide +kernel
theorem dX0_passHours_67 : decode cX0_passHours 67 = .ok (.putfield 58, 3) := by decide +kernel
theorem dX0_passHours_70 : decode cX0_passHours 70 = .ok (.iinc 3 1, 3) := by decide +kernel
theorem dX0_passHours_73 : decode cX0_passHours 73 = .ok (.goto (-64), 3) := by decide +kernel
theorem dX0_passHours_76 : decode cX0_passHours 76 = .ok (.return_, 1) := by decide +kernel
theorem dX0_nextDue_0 : decode cX0_nextDue 0 = .ok (.iload_n 1, 1) := by decide +kernel
theorem dX0_nextDue_1 : decode cX0_nextDue 1 = .ok (.istore_n 2, 1) := by decide +kernel
theorem dX0_nextDue_2 : decode cX0_nextDue 2 = .ok (.iconst 0, 1) := by decide +kernel
theorem dX0_nextDue_3 : decode cX0_nextDue 3 = .ok (.istore_n 3, 1) := by decide +kernel
theorem dX0_nextDue_4 : decode cX0_nextDue 4 = .ok (.iload_n 3, 1) := by decide +kernel
theorem dX0_nextDue_5 : decode cX0_nextDue 5 = .ok (.aload_n 0, 1) := by decide +kernel
theorem dX0_nextDue_6 : decode cX0_nextDue 6 = .ok (.getfield 34, 3) := by decide +kernel
theorem dX0_nextDue_9 : decode cX0_nextDue 9 = .ok (.getfield 67, 3) := by decide +kernel
theorem dX0_nextDue_12 : decode cX0_nextDue 12 = .ok (.if_icmp .ge 46, 3) := by decide +kernel
theorem dX0_nextDue_15 : decode cX0_nextDue 15 = .ok (.aload_n 0, 1) := by decide +kernel
theorem dX0_nextDue_16 : decode cX0_nextDue 16 = .ok (.getfield 34, 3) := by decide +kernel
theorem dX0_nextDue_19 : decode cX0_nextDue 19 = .ok (.iload_n 3, 1) := by decide +kernel
theorem dX0_nextDue_20 : decode cX0_nextDue 20 = .ok (.iconst 1, 1) := by decide +kernel
theorem dX0_nextDue_21 : decode cX0_nextDue 21 = .ok (.invokevirtual 92, 3) := by decide +kernel
theorem dX0_nextDue_24 : decode cX0_nextDue 24 = .ok (.istore 4, 2) := by decide +kernel
theorem dX0_nextDue_26 : decode cX0_nextDue 26 = .ok (.aload_n 0, 1) := by decide +kernel
theorem dX0_nextDue_27 : decode cX0_nextDue 27 = .ok (.iload_n 3, 1) := by decide +kernel
theorem dX0_nextDue_28 : decode cX0_nextDue 28 = .ok (.invokevirtual 99, 3) := by decide +kernel
theorem dX0_nextDue_31 : decode cX0_nextDue 31 = .ok (.ifCond .eq 21, 3) := by decide +kernel
theorem dX0_nextDue_34 : decode cX0_nextDue 34 = .ok (.iload 4, 2) := by decide +kernel
theorem dX0_nextDue_36 : decode cX0_nextDue 36 = .ok (.aload_n 0, 1) := by decide +kernel
theorem dX0_nextDue_37 : decode cX0_nextDue 37 = .ok (.getfield 58, 3) := by decide +kernel
theorem dX0_nextDue_40 : decode cX0_nextDue 40 = .ok (.if_icmp .lt 12, 3) := by decide +kernel
theorem dX0_nextDue_43 : decode cX0_nextDue 43 = .ok (.iload 4, 2) := by decide +kernel
theorem dX0_nextDue_45 : decode cX0_nextDue 45 = .ok (.iload_n 2, 1) := by decide +kernel
theorem dX0_nextDue_46 : decode cX0_nextDue 46 = .ok (.if_icmp .ge 6, 3) := by decide +kernel
theorem dX0_nextDue_49 : decode cX0_nextDue 49 = .ok (.iload 4, 2) := by decide +kernel
theorem dX0_nextDue_51 : decode cX0_nextDue 51 = .ok (.istore_n 2, 1) := by decide +kernel
theorem dX0_nextDue_52 : decode cX0_nextDue 52 = .ok (.iinc 3 1, 3) := by decide +kernel
theorem dX0_nextDue_55 : decode cX0_nextDue 55 = .ok (.goto (-51), 3) := by decide +kernel
theorem dX0_nextDue_58 : decode cX0_nextDue 58 = .ok (.iload_n 2, 1) := by decide +kernel
theorem dX0_nextDue_59 : decode cX0_nextDue 59 = .ok (.ireturn, 1) := by decide +kernel
theorem dX0_walk_0 : decode cX0_walk 0 = .ok (.iconst 0, 1) := by decide +kernel
theorem dX0_walk_1 : decode cX0_walk 1 = .ok (.istore_n 1, 1) := by decide +kernel
theorem dX0_walk_2 : decode cX0_walk 2 = .ok (.aload_n 0, 1) := by decide +kernel
theorem dX0_walk_3 : decode cX0_walk 3 = .ok (.iconst 0, 1) := by decide +kernel
theorem dX0_walk_4 : decode cX0_walk 4 = .ok (.invokevirtual 110, 3) := by decide +kernel
theorem dX0_walk_7 : decode cX0_walk 7 = .ok (.istore_n 2, 1) := by decide +kernel
theorem dX0_walk_8 : decode cX0_walk 8 = .ok (.iconst 0, 1) := by decide +kernel
theorem dX0_walk_9 : decode cX0_walk 9 = .ok (.istore_n 3, 1) := by decide +kernel
theorem dX0_walk_10 : decode cX0_walk 10 = .ok (.iload_n 3, 1) := by decide +kernel
theorem dX0_walk_11 : decode cX0_walk 11 = .ok (.aload_n 0, 1) := by decide +kernel
theorem dX0_walk_12 : decode cX0_walk 12 = .ok (.getfield 30, 3) := by decide +kernel
theorem dX0_walk_15 : decode cX0_walk 15 = .ok (.getfield 67, 3) := by decide +kernel
theorem dX0_walk_18 : decode cX0_walk 18 = .ok (.if_icmp .ge 150, 3) := by decide +kernel
theorem dX0_walk_21 : decode cX0_walk 21 = .ok (.aload_n 0, 1) := by decide +kernel
theorem dX0_walk_22 : decode cX0_walk 22 = .ok (.getfield 30, 3) := by decide +kernel
theorem dX0_walk_25 : decode cX0_walk 25 = .ok (.iload_n 3, 1) := by decide +kernel
theorem dX0_walk_26 : decode cX0_walk 26 = .ok (.iconst 1, 1) := by decide +kernel
theorem dX0_walk_27 : decode cX0_walk 27 = .ok (.invokevirtual 92, 3) := by decide +kernel
theorem dX0_walk_30 : decode cX0_walk 30 = .ok (.ifCond .le 18, 3) := by decide +kernel
theorem dX0_walk_33 : decode cX0_walk 33 = .ok (.aload_n 0, 1) := by decide +kernel
theorem dX0_walk_34 : decode cX0_walk 34 = .ok (.getfield 30, 3) := by decide +kernel
theorem dX0_walk_37 : decode cX0_walk 37 = .ok (.iload_n 3, 1) := by decide +kernel
theorem dX0_walk_38 : decode cX0_walk 38 = .ok (.iconst 1, 1) := by decide +kernel
theorem dX0_walk_39 : decode cX0_walk 39 = .ok (.iconst (-1), 1) := by decide +kernel
theorem dX0_walk_40 : decode cX0_walk 40 = .ok (.invokevirtual 103, 3) := by decide +kernel
theorem dX0_walk_43 : decode cX0_walk 43 = .ok (.iconst 1, 1) := by decide +kernel
theorem dX0_walk_44 : decode cX0_walk 44 = .ok (.istore_n 1, 1) := by decide +kernel
theorem dX0_walk_45 : decode cX0_walk 45 = .ok (.goto 117, 3) := by decide +kernel
theorem dX0_walk_48 : decode cX0_walk 48 = .ok (.aload_n 0, 1) := by decide +kernel
theorem dX0_walk_49 : decode cX0_walk 49 = .ok (.aload_n 0, 1) := by decide +kernel
theorem dX0_walk_50 : decode cX0_walk 50 = .ok (.getfield 30, 3) := by decide +kernel
theorem dX0_walk_53 : decode cX0_walk 53 = .ok (.iload_n 3, 1) := by decide +kernel
theorem dX0_walk_54 : decode cX0_walk 54 = .ok (.iconst 2, 1) := by decide +kernel
theorem dX0_walk_55 : decode cX0_walk 55 = .ok (.invokevirtual 92, 3) := by decide +kernel
theorem dX0_walk_58 : decode cX0_walk 58 = .ok (.iload_n 2, 1) := by decide +kernel
theorem dX0_walk_59 : decode cX0_walk 59 = .ok (.iand, 1) := by decide +kernel
theorem dX0_walk_60 : decode cX0_walk 60 = .ok (.invokevirtual 113, 3) := by decide +kernel
theorem dX0_walk_63 : decode cX0_walk 63 = .ok (.istore 4, 2) := by decide +kernel
theorem dX0_walk_65 : decode cX0_walk 65 = .ok (.iload 4, 2) := by decide +kernel
theorem dX0_walk_67 : decode cX0_walk 67 = .ok (.iconst (-1), 1) := by decide +kernel
theorem dX0_walk_68 : decode cX0_walk 68 = .ok (.if_icmp .ne 6, 3) := by decide +kernel
theorem dX0_walk_71 : decode cX0_walk 71 = .ok (.goto 91, 3) := by decide +kernel
theorem dX0_walk_74 : decode cX0_walk 74 = .ok (.aload_n 0, 1) := by decide +kernel
theorem dX0_walk_75 : decode cX0_walk 75 = .ok (.getfield 30, 3) := by decide +kernel
theorem dX0_walk_78 : decode cX0_walk 78 = .ok (.iload_n 3, 1) := by decide +kernel
theorem dX0_walk_79 : decode cX0_walk 79 = .ok (.iconst 0, 1) := by decide +kernel
theorem dX0_walk_80 : decode cX0_walk 80 = .ok (.invokevirtual 92, 3) := by decide +kernel
theorem dX0_walk_83 : decode cX0_walk 83 = .ok (.istore 5, 2) := by decide +kernel
theorem dX0_walk_85 : decode cX0_walk 85 = .ok (.aload_n 0, 1) := by decide +kernel
theorem dX0_walk_86 : decode cX0_walk 86 = .ok (.getfield 34, 3) := by decide +kernel
theorem dX0_walk_89 : decode cX0_walk 89 = .ok (.iload 4, 2) := by decide +kernel
theorem dX0_walk_91 : decode cX0_walk 91 = .ok (.iconst 0, 1) := by decide +kernel
theorem dX0_walk_92 : decode cX0_walk 92 = .ok (.invokevirtual 92, 3) := by decide +kernel
theorem dX0_walk_95 : decode cX0_walk 95 = .ok (.istore 6, 2) := by decide +kernel
theorem dX0_walk_97 : decode cX0_walk 97 = .ok (.iload 5, 2) := by decide +kernel
theorem dX0_walk_99 : decode cX0_walk 99 = .ok (.iload 6, 2) := by decide +kernel
theorem dX0_walk_101 : decode cX0_walk 101 = .ok (.if_icmp .ne 7, 3) := by decide +kernel
theorem dX0_walk_104 : decode cX0_walk 104 = .ok (.iconst (-1), 1) := by decide +kernel
theorem dX0_walk_105 : decode cX0_walk 105 = .ok (.goto 14, 3) := by decide +kernel
theorem dX0_walk_108 : decode cX0_walk 108 = .ok (.aload_n 0, 1) := by decide +kernel
theorem dX0_walk_109 : decode cX0_walk 109 = .ok (.getfield 12, 3) := by decide +kernel
theorem dX0_walk_112 : decode cX0_walk 112 = .ok (.iload 5, 2) := by decide +kernel
theorem dX0_walk_114 : decode cX0_walk 114 = .ok (.iload 6, 2) := by decide +kernel
theorem dX0_walk_116 : decode cX0_walk 116 = .ok (.invokevirtual 129, 3) := by decide +kernel
theorem dX0_walk_119 : decode cX0_walk 119 = .ok (.istore 7, 2) := by decide +kernel
theorem dX0_walk_121 : decode cX0_walk 121 = .ok (.iload 7, 2) := by decide +kernel
theorem dX0_walk_123 : decode cX0_walk 123 = .ok (.iconst (-1), 1) := by decide +kernel
theorem dX0_walk_124 : decode cX0_walk 124 = .ok (.if_icmp .eq 38, 3) := by decide +kernel
theorem dX0_walk_127 : decode cX0_walk 127 = .ok (.aload_n 0, 1) := by decide +kernel
theorem dX0_walk_128 : decode cX0_walk 128 = .ok (.getfield 30, 3) := by decide +kernel
theorem dX0_walk_131 : decode cX0_walk 131 = .ok (.iload_n 3, 1) := by decide +kernel
theorem dX0_walk_132 : decode cX0_walk 132 = .ok (.iconst 1, 1) := by decide +kernel
theorem dX0_walk_133 : decode cX0_walk 133 = .ok (.aload_n 0, 1) := by decide +kernel
theorem dX0_walk_134 : decode cX0_walk 134 = .ok (.getfield 12, 3) := by decide +kernel
theorem dX0_walk_137 : decode cX0_walk 137 = .ok (.iload 5, 2) := by decide +kernel
theorem dX0_walk_139 : decode cX0_walk 139 = .ok (.iload 7, 2) := by decide +kernel
theorem dX0_walk_141 : decode cX0_walk 141 = .ok (.invokevirtual 132, 3) := by decide +kernel
theorem dX0_walk_144 : decode cX0_walk 144 = .ok (.iconst 1, 1) := by decide +kernel
theorem dX0_walk_145 : decode cX0_walk 145 = .ok (.isub, 1) := by decide +kernel
theorem dX0_walk_146 : decode cX0_walk 146 = .ok (.invokevirtual 84, 3) := by decide +kernel
theorem dX0_walk_149 : decode cX0_walk 149 = .ok (.aload_n 0, 1) := by decide +kernel
theorem dX0_walk_150 : decode cX0_walk 150 = .ok (.getfield 30, 3) := by decide +kernel
theorem dX0_walk_153 : decode cX0_walk 153 = .ok (.iload_n 3, 1) := by decide +kernel
theorem dX0_walk_154 : decode cX0_walk 154 = .ok (.iconst 0, 1) := by decide +kernel
theorem dX0_walk_155 : decode cX0_walk 155 = .ok (.iload 7, 2) := by decide +kernel
theorem dX0_walk_157 : decode cX0_walk 157 = .ok (.invokevirtual 84, 3) := by decide +kernel
theorem dX0_walk_160 : decode cX0_walk 160 = .ok (.iconst 1, 1) := by decide +kernel
theorem dX0_walk_161 : decode cX0_walk 161 = .ok (.istore_n 1, 1) := by decide +kernel
theorem dX0_walk_162 : decode cX0_walk 162 = .ok (.iinc 3 1, 3) := by decide +kernel
theorem dX0_walk_165 : decode cX0_walk 165 = .ok (.goto (-155), 3) := by decide +kernel
theorem dX0_walk_168 : decode cX0_walk 168 = .ok (.iload_n 1, 1) := by decide +kernel
theorem dX0_walk_169 : decode cX0_walk 169 = .ok (.ireturn, 1) := by decide +kernel
theorem dX0_befall_0 : decode cX0_befall 0 = .ok (.iconst 0, 1) := by decide +kernel
theorem dX0_befall_1 : decode cX0_befall 1 = .ok (.istore_n 1, 1) := by decide +kernel
theorem dX0_befall_2 : decode cX0_befall 2 = .ok (.iconst 0, 1) := by decide +kernel
theorem dX0_befall_3 : decode cX0_befall 3 = .ok (.istore_n 2, 1) := by decide +kernel
theorem dX0_befall_4 : decode cX0_befall 4 = .ok (.iload_n 2, 1) := by decide +kernel
theorem dX0_befall_5 : decode cX0_befall 5 = .ok (.aload_n 0, 1) := by decide +kernel
theorem dX0_befall_6 : decode cX0_befall 6 = .ok (.getfield 34, 3) := by decide +kernel
theorem dX0_befall_9 : decode cX0_befall 9 = .ok (.getfield 67, 3) := by decide +kernel
theorem dX0_befall_12 : decode cX0_befall 12 = .ok (.if_icmp .ge 123, 3) := by decide +kernel
theorem dX0_befall_15 : decode cX0_befall 15 = .ok (.aload_n 0, 1) := by decide +kernel
theorem dX0_befall_16 : decode cX0_befall 16 = .ok (.iload_n 2, 1) := by decide +kernel
theorem dX0_befall_17 : decode cX0_befall 17 = .ok (.invokevirtual 99, 3) := by decide +kernel
theorem dX0_befall_20 : decode cX0_befall 20 = .ok (.ifCond .eq 109, 3) := by decide +kernel
theorem dX0_befall_23 : decode cX0_befall 23 = .ok (.aload_n 0, 1) := by decide +kernel
theorem dX0_befall_24 : decode cX0_befall 24 = .ok (.getfield 34, 3) := by decide +kernel
theorem dX0_befall_27 : decode cX0_befall 27 = .ok (.iload_n 2, 1) := by decide +kernel
theorem dX0_befall_28 : decode cX0_befall 28 = .ok (.iconst 1, 1) := by decide +kernel
theorem dX0_befall_29 : decode cX0_befall 29 = .ok (.invokevirtual 92, 3) := by decide +kernel
theorem dX0_befall_32 : decode cX0_befall 32 = .ok (.aload_n 0, 1) := by decide +kernel
theorem dX0_befall_33 : decode cX0_befall 33 = .ok (.getfield 58, 3) := by decide +kernel
theorem dX0_befall_36 : decode cX0_befall 36 = .ok (.if_icmp .eq 6, 3) := by decide +kernel
theorem dX0_befall_39 : decode cX0_befall 39 = .ok (.goto 90, 3) := by decide +kernel
theorem dX0_befall_42 : decode cX0_befall 42 = .ok (.aload_n 0, 1) := by decide +kernel
theorem dX0_befall_43 : decode cX0_befall 43 = .ok (.aload_n 0, 1) := by decide +kernel
theorem dX0_befall_44 : decode cX0_befall 44 = .ok (.getfield 34, 3) := by decide +kernel
theorem dX0_befall_47 : decode cX0_befall 47 = .ok (.iload_n 2, 1) := by decide +kernel
theorem dX0_befall_48 : decode cX0_befall 48 = .ok (.iconst 0, 1) := by decide +kernel
theorem dX0_befall_49 : decode cX0_befall 49 = .ok (.invokevirtual 92, 3) := by decide +kernel
theorem dX0_befall_52 : decode cX0_befall 52 = .ok (.invokevirtual 135, 3) := by decide +kernel
theorem dX0_befall_55 : decode cX0_befall 55 = .ok (.istore_n 3, 1) := by decide +kernel
theorem dX0_befall_56 : decode cX0_befall 56 = .ok (.aload_n 0, 1) := by decide +kernel
theorem dX0_befall_57 : decode cX0_befall 57 = .ok (.getfield 34, 3) := by decide +kernel
theorem dX0_befall_60 : decode cX0_befall 60 = .ok (.iload_n 2, 1) := by decide +kernel
theorem dX0_befall_61 : decode cX0_befall 61 = .ok (.iconst 2, 1) := by decide +kernel
theorem dX0_befall_62 : decode cX0_befall 62 = .ok (.invokevirtual 92, 3) := by decide +kernel
theorem dX0_befall_65 : decode cX0_befall 65 = .ok (.istore 4, 2) := by decide +kernel
theorem dX0_befall_67 : decode cX0_befall 67 = .ok (.iload_n 3, 1) := by decide +kernel
theorem dX0_befall_68 : decode cX0_befall 68 = .ok (.invokestatic 138, 3) := by decide +kernel
theorem dX0_befall_71 : decode cX0_befall 71 = .ok (.iload 4, 2) := by decide +kernel
theorem dX0_befall_73 : decode cX0_befall 73 = .ok (.if_icmp .lt 7, 3) := by decide +kernel
theorem dX0_befall_76 : decode cX0_befall 76 = .ok (.iconst 1, 1) := by decide +kernel
theorem dX0_befall_77 : decode cX0_befall 77 = .ok (.goto 4, 3) := by decide +kernel
theorem dX0_befall_80 : decode cX0_befall 80 = .ok (.iconst 0, 1) := by decide +kernel
theorem dX0_befall_81 : decode cX0_befall 81 = .ok (.istore 5, 2) := by decide +kernel
theorem dX0_befall_83 : decode cX0_befall 83 = .ok (.aload_n 0, 1) := by decide +kernel
theorem dX0_befall_84 : decode cX0_befall 84 = .ok (.getfield 34, 3) := by decide +kernel
theorem dX0_befall_87 : decode cX0_befall 87 = .ok (.iload_n 2, 1) := by decide +kernel
theorem dX0_befall_88 : decode cX0_befall 88 = .ok (.iconst 3, 1) := by decide +kernel
theorem dX0_befall_89 : decode cX0_befall 89 = .ok (.iload 5, 2) := by decide +kernel
theorem dX0_befall_91 : decode cX0_befall 91 = .ok (.ifCond .eq 7, 3) := by decide +kernel
theorem dX0_befall_94 : decode cX0_befall 94 = .ok (.iconst 1, 1) := by decide +kernel
theorem dX0_befall_95 : decode cX0_befall 95 = .ok (.goto 4, 3) := by decide +kernel
theorem dX0_befall_98 : decode cX0_befall 98 = .ok (.iconst 2, 1) := by decide +kernel
theorem dX0_befall_99 : decode cX0_befall 99 = .ok (.invokevirtual 84, 3) := by decide +kernel
theorem dX0_befall_102 : decode cX0_befall 102 = .ok (.aload_n 0, 1) := by decide +kernel
theorem dX0_befall_103 : decode cX0_befall 103 = .ok (.getfield 34, 3) := by decide +kernel
theorem dX0_befall_106 : decode cX0_befall 106 = .ok (.iload_n 2, 1) := by decide +kernel
theorem dX0_befall_107 : decode cX0_befall 107 = .ok (.iconst 4, 1) := by decide +kernel
theorem dX0_befall_108 : decode cX0_befall 108 = .ok (.aload_n 0, 1) := by decide +kernel
theorem dX0_befall_109 : decode cX0_befall 109 = .ok (.getfield 58, 3) := by decide +kernel
theorem dX0_befall_112 : decode cX0_befall 112 = .ok (.invokevirtual 84, 3) := by decide +kernel
theorem dX0_befall_115 : decode cX0_befall 115 = .ok (.iload 5, 2) := by decide +kernel
theorem dX0_befall_117 : decode cX0_befall 117 = .ok (.ifCond .eq 10, 3) := by decide +kernel
theorem dX0_befall_120 : decode cX0_befall 120 = .ok (.aload_n 0, 1) := by decide +kernel
theorem dX0_befall_121 : decode cX0_befall 121 = .ok (.iload_n 3, 1) := by decide +kernel
theorem dX0_befall_122 : decode cX0_befall 122 = .ok (.iload 4, 2) := by decide +kernel
theorem dX0_befall_124 : decode cX0_befall 124 = .ok (.invokevirtual 143, 3) := by decide +kernel
theorem dX0_befall_127 : decode cX0_befall 127 = .ok (.iconst 1, 1) := by decide +kernel
theorem dX0_befall_128 : decode cX0_befall 128 = .ok (.istore_n 1, 1) := by decide +kernel
theorem dX0_befall_129 : decode cX0_befall 129 = .ok (.iinc 2 1, 3) := by decide +kernel
theorem dX0_befall_132 : decode cX0_befall 132 = .ok (.goto (-128), 3) := by decide +kernel
theorem dX0_befall_135 : decode cX0_befall 135 = .ok (.iload_n 1, 1) := by decide +kernel
theorem dX0_befall_136 : decode cX0_befall 136 = .ok (.ireturn, 1) := by decide +kernel
theorem dX0_pay_0 : decode cX0_pay 0 = .ok (.iconst 0, 1) := by decide +kernel
theorem dX0_pay_1 : decode cX0_pay 1 = .ok (.istore_n 3, 1) := by decide +kernel
theorem dX0_pay_2 : decode cX0_pay 2 = .ok (.iload_n 3, 1) := by decide +kernel
theorem dX0_pay_3 : decode cX0_pay 3 = .ok (.aload_n 0, 1) := by decide +kernel
theorem dX0_pay_4 : decode cX0_pay 4 = .ok (.getfield 30, 3) := by decide +kernel
theorem dX0_pay_7 : decode cX0_pay 7 = .ok (.getfield 67, 3) := by decide +kernel
theorem dX0_pay_10 : decode cX0_pay 10 = .ok (.if_icmp .ge 43, 3) := by decide +kernel
theorem dX0_pay_13 : decode cX0_pay 13 = .ok (.iload_n 1, 1) := by decide +kernel
theorem dX0_pay_14 : decode cX0_pay 14 = .ok (.iload_n 3, 1) := by decide +kernel
theorem dX0_pay_15 : decode cX0_pay 15 = .ok (.ishr, 1) := by decide +kernel
theorem dX0_pay_16 : decode cX0_pay 16 = .ok (.iconst 1, 1) := by decide +kernel
theorem dX0_pay_17 : decode cX0_pay 17 = .ok (.iand, 1) := by decide +kernel
theorem dX0_pay_18 : decode cX0_pay 18 = .ok (.iconst 1, 1) := by decide +kernel
theorem dX0_pay_19 : decode cX0_pay 19 = .ok (.if_icmp .ne 28, 3) := by decide +kernel
theorem dX0_pay_22 : decode cX0_pay 22 = .ok (.aload_n 0, 1) := by decide +kernel
theorem dX0_pay_23 : decode cX0_pay 23 = .ok (.getfield 30, 3) := by decide +kernel
theorem dX0_pay_26 : decode cX0_pay 26 = .ok (.iload_n 3, 1) := by decide +kernel
theorem dX0_pay_27 : decode cX0_pay 27 = .ok (.iconst 3, 1) := by decide +kernel
theorem dX0_pay_28 : decode cX0_pay 28 = .ok (.aload_n 0, 1) := by decide +kernel
theorem dX0_pay_29 : decode cX0_pay 29 = .ok (.getfield 48, 3) := by decide +kernel
theorem dX0_pay_32 : decode cX0_pay 32 = .ok (.iload_n 2, 1) := by decide +kernel
theorem dX0_pay_33 : decode cX0_pay 33 = .ok (.imul, 1) := by decide +kernel
theorem dX0_pay_34 : decode cX0_pay 34 = .ok (.invokevirtual 103, 3) := by decide +kernel
theorem dX0_pay_37 : decode cX0_pay 37 = .ok (.aload_n 0, 1) := by decide +kernel
theorem dX0_pay_38 : decode cX0_pay 38 = .ok (.getfield 30, 3) := by decide +kernel
theorem dX0_pay_41 : decode cX0_pay 41 = .ok (.iload_n 3, 1) := by decide +kernel
theorem dX0_pay_42 : decode cX0_pay 42 = .ok (.iconst 4, 1) := by decide +kernel
theorem dX0_pay_43 : decode cX0_pay 43 = .ok (.iconst 1, 1) := by decide +kernel
theorem dX0_pay_44 : decode cX0_pay 44 = .ok (.invokevirtual 103, 3) := by decide +kernel
theorem dX0_pay_47 : decode cX0_pay 47 = .ok (.iinc 3 1, 3) := by decide +kernel
theorem dX0_pay_50 : decode cX0_pay 50 = .ok (.goto (-48), 3) := by decide +kernel
theorem dX0_pay_53 : decode cX0_pay 53 = .ok (.return_, 1) := by decide +kernel
theorem dX0_watch_0 : decode cX0_watch 0 = .ok (.iconst 0, 1) := by decide +kernel
theorem dX0_watch_1 : decode cX0_watch 1 = .ok (.istore_n 1, 1) := by decide +kernel
theorem dX0_watch_2 : decode cX0_watch 2 = .ok (.iconst 0, 1) := by decide +kernel
theorem dX0_watch_3 : decode cX0_watch 3 = .ok (.istore_n 2, 1) := by decide +kernel
theorem dX0_watch_4 : decode cX0_watch 4 = .ok (.iload_n 2, 1) := by decide +kernel
theorem dX0_watch_5 : decode cX0_watch 5 = .ok (.aload_n 0, 1) := by decide +kernel
theorem dX0_watch_6 : decode cX0_watch 6 = .ok (.getfield 37, 3) := by decide +kernel
theorem dX0_watch_9 : decode cX0_watch 9 = .ok (.getfield 67, 3) := by decide +kernel
theorem dX0_watch_12 : decode cX0_watch 12 = .ok (.if_icmp .ge 46, 3) := by decide +kernel
theorem dX0_watch_15 : decode cX0_watch 15 = .ok (.aload_n 0, 1) := by decide +kernel
theorem dX0_watch_16 : decode cX0_watch 16 = .ok (.aload_n 0, 1) := by decide +kernel
theorem dX0_watch_17 : decode cX0_watch 17 = .ok (.getfield 37, 3) := by decide +kernel
theorem dX0_watch_20 : decode cX0_watch 20 = .ok (.iload_n 2, 1) := by decide +kernel
theorem dX0_watch_21 : decode cX0_watch 21 = .ok (.iconst 0, 1) := by decide +kernel
theorem dX0_watch_22 : decode cX0_watch 22 = .ok (.invokevirtual 92, 3) := by decide +kernel
theorem dX0_watch_25 : decode cX0_watch 25 = .ok (.invokevirtual 135, 3) := by decide +kernel
theorem dX0_watch_28 : decode cX0_watch 28 = .ok (.invokestatic 138, 3) := by decide +kernel
theorem dX0_watch_31 : decode cX0_watch 31 = .ok (.istore_n 3, 1) := by decide +kernel
theorem dX0_watch_32 : decode cX0_watch 32 = .ok (.iload_n 3, 1) := by decide +kernel
theorem dX0_watch_33 : decode cX0_watch 33 = .ok (.aload_n 0, 1) := by decide +kernel
theorem dX0_watch_34 : decode cX0_watch 34 = .ok (.getfield 37, 3) := by decide +kernel
theorem dX0_watch_37 : decode cX0_watch 37 = .ok (.iload_n 2, 1) := by decide +kernel
theorem dX0_watch_38 : decode cX0_watch 38 = .ok (.iconst 1, 1) := by decide +kernel
theorem dX0_watch_39 : decode cX0_watch 39 = .ok (.invokevirtual 92, 3) := by decide +kernel
theorem dX0_watch_42 : decode cX0_watch 42 = .ok (.if_icmp .lt 10, 3) := by decide +kernel
theorem dX0_watch_45 : decode cX0_watch 45 = .ok (.aload_n 0, 1) := by decide +kernel
theorem dX0_watch_46 : decode cX0_watch 46 = .ok (.iload_n 2, 1) := by decide +kernel
theorem dX0_watch_47 : decode cX0_watch 47 = .ok (.invokevirtual 146, 3) := by decide +kernel
theorem dX0_watch_50 : decode cX0_watch 50 = .ok (.iconst 1, 1) := by decide +kernel
theorem dX0_watch_51 : decode cX0_watch 51 = .ok (.istore_n 1, 1) := by decide +kernel
theorem dX0_watch_52 : decode cX0_watch 52 = .ok (.iinc 2 1, 3) := by decide +kernel
theorem dX0_watch_55 : decode cX0_watch 55 = .ok (.goto (-51), 3) := by decide +kernel
theorem dX0_watch_58 : decode cX0_watch 58 = .ok (.iload_n 1, 1) := by decide +kernel
theorem dX0_watch_59 : decode cX0_watch 59 = .ok (.ireturn, 1) := by decide +kernel
theorem dX0_warn_0 : decode cX0_warn 0 = .ok (.aload_n 0, 1) := by decide +kernel
theorem dX0_warn_1 : decode cX0_warn 1 = .ok (.getfield 37, 3) := by decide +kernel
theorem dX0_warn_4 : decode cX0_warn 4 = .ok (.iload_n 1, 1) := by decide +kernel
theorem dX0_warn_5 : decode cX0_warn 5 = .ok (.iconst 2, 1) := by decide +kernel
theorem dX0_warn_6 : decode cX0_warn 6 = .ok (.iconst 1, 1) := by decide +kernel
theorem dX0_warn_7 : decode cX0_warn 7 = .ok (.invokevirtual 103, 3) := by decide +kernel
theorem dX0_warn_10 : decode cX0_warn 10 = .ok (.aload_n 0, 1) := by decide +kernel
theorem dX0_warn_11 : decode cX0_warn 11 = .ok (.getfield 34, 3) := by decide +kernel
theorem dX0_warn_14 : decode cX0_warn 14 = .ok (.iconst 0, 1) := by decide +kernel
theorem dX0_warn_15 : decode cX0_warn 15 = .ok (.aload_n 0, 1) := by decide +kernel
theorem dX0_warn_16 : decode cX0_warn 16 = .ok (.getfield 37, 3) := by decide +kernel
theorem dX0_warn_19 : decode cX0_warn 19 = .ok (.iload_n 1, 1) := by decide +kernel
theorem dX0_warn_20 : decode cX0_warn 20 = .ok (.iconst 0, 1) := by decide +kernel
theorem dX0_warn_21 : decode cX0_warn 21 = .ok (.invokevirtual 92, 3) := by decide +kernel
theorem dX0_warn_24 : decode cX0_warn 24 = .ok (.invokevirtual 88, 3) := by decide +kernel
theorem dX0_warn_27 : decode cX0_warn 27 = .ok (.istore_n 2, 1) := by decide +kernel
theorem dX0_warn_28 : decode cX0_warn 28 = .ok (.aload_n 0, 1) := by decide +kernel
theorem dX0_warn_29 : decode cX0_warn 29 = .ok (.iload_n 2, 1) := by decide +kernel
theorem dX0_warn_30 : decode cX0_warn 30 = .ok (.aload_n 0, 1) := by decide +kernel
theorem dX0_warn_31 : decode cX0_warn 31 = .ok (.getfield 34, 3) := by decide +kernel
theorem dX0_warn_34 : decode cX0_warn 34 = .ok (.iconst 3, 1) := by decide +kernel
theorem dX0_warn_35 : decode cX0_warn 35 = .ok (.iconst 0, 1) := by decide +kernel
theorem dX0_warn_36 : decode cX0_warn 36 = .ok (.invokevirtual 88, 3) := by decide +kernel
theorem dX0_warn_39 : decode cX0_warn 39 = .ok (.iand, 1) := by decide +kernel
theorem dX0_warn_40 : decode cX0_warn 40 = .ok (.invokevirtual 113, 3) := by decide +kernel
theorem dX0_warn_43 : decode cX0_warn 43 = .ok (.istore_n 3, 1) := by decide +kernel
theorem dX0_warn_44 : decode cX0_warn 44 = .ok (.iload_n 3, 1) := by decide +kernel
theorem dX0_warn_45 : decode cX0_warn 45 = .ok (.iconst (-1), 1) := by decide +kernel
theorem dX0_warn_46 : decode cX0_warn 46 = .ok (.if_icmp .eq 32, 3) := by decide +kernel
theorem dX0_warn_49 : decode cX0_warn 49 = .ok (.aload_n 0, 1) := by decide +kernel
theorem dX0_warn_50 : decode cX0_warn 50 = .ok (.getfield 34, 3) := by decide +kernel
theorem dX0_warn_53 : decode cX0_warn 53 = .ok (.iload_n 3, 1) := by decide +kernel
theorem dX0_warn_54 : decode cX0_warn 54 = .ok (.iconst 1, 1) := by decide +kernel
theorem dX0_warn_55 : decode cX0_warn 55 = .ok (.aload_n 0, 1) := by decide +kernel
theorem dX0_warn_56 : decode cX0_warn 56 = .ok (.getfield 34, 3) := by decide +kernel
theorem dX0_warn_59 : decode cX0_warn 59 = .ok (.iload_n 3, 1) := by decide +kernel
theorem dX0_warn_60 : decode cX0_warn 60 = .ok (.iconst 1, 1) := by decide +kernel
theorem dX0_warn_61 : decode cX0_warn 61 = .ok (.invokevirtual 92, 3) := by decide +kernel
theorem dX0_warn_64 : decode cX0_warn 64 = .ok (.aload_n 0, 1) := by decide +kernel
theorem dX0_warn_65 : decode cX0_warn 65 = .ok (.getfield 52, 3) := by decide +kernel
theorem dX0_warn_68 : decode cX0_warn 68 = .ok (.iadd, 1) := by decide +kernel
theorem dX0_warn_69 : decode cX0_warn 69 = .ok (.sipush 9999, 3) := by decide +kernel
theorem dX0_warn_72 : decode cX0_warn 72 = .ok (.invokestatic 150, 3) := by decide +kernel
theorem dX0_warn_75 : decode cX0_warn 75 = .ok (.invokevirtual 84, 3) := by decide +kernel
theorem dX0_warn_78 : decode cX0_warn 78 = .ok (.return_, 1) := by decide +kernel
theorem dX1_init_0 : decode cX1_init 0 = .ok (.aload_n 0, 1) := by decide +kernel
theorem dX1_init_1 : decode cX1_init 1 = .ok (.invokespecial 1, 3) := by decide +kernel
theorem dX1_init_4 : decode cX1_init 4 = .ok (.aload_n 0, 1) := by decide +kernel
theorem dX1_init_5 : decode cX1_init 5 = .ok (.new 7, 3) := by decide +kernel
theorem dX1_init_8 : decode cX1_init 8 = .ok (.dup, 1) := by decide +kernel
theorem dX1_init_9 : decode cX1_init 9 = .ok (.invokespecial 9, 3) := by decide +kernel
theorem dX1_init_12 : decode cX1_init 12 = .ok (.putfield 10, 3) := by decide +kernel
theorem dX1_init_15 : decode cX1_init 15 = .ok (.aload_n 0, 1) := by decide +kernel
theorem dX1_init_16 : decode cX1_init 16 = .ok (.aload_n 1, 1) := by decide +kernel
theorem dX1_init_17 : decode cX1_init 17 = .ok (.putfield 16, 3) := by decide +kernel
theorem dX1_init_20 : decode cX1_init 20 = .ok (.return_, 1) := by decide +kernel
theorem dX1_parse_0 : decode cX1_parse 0 = .ok (.aload_n 0, 1) := by decide +kernel
theorem dX1_parse_1 : decode cX1_parse 1 = .ok (.getfield 10, 3) := by decide +kernel
theorem dX1_parse_4 : decode cX1_parse 4 = .ok (.invokevirtual 20, 3) := by decide +kernel
theorem dX1_parse_7 : decode cX1_parse 7 = .ok (.aload_n 0, 1) := by decide +kernel
theorem dX1_parse_8 : decode cX1_parse 8 = .ok (.iconst 0, 1) := by decide +kernel
theorem dX1_parse_9 : decode cX1_parse 9 = .ok (.putfield 23, 3) := by decide +kernel
theorem dX1_parse_12 : decode cX1_parse 12 = .ok (.aload_n 0, 1) := by decide +kernel
theorem dX1_parse_13 : decode cX1_parse 13 = .ok (.getfield 16, 3) := by decide +kernel
theorem dX1_parse_16 : decode cX1_parse 16 = .ok (.iload_n 1, 1) := by decide +kernel
theorem dX1_parse_17 : decode cX1_parse 17 = .ok (.invokevirtual 27, 3) := by decide +kernel
theorem dX1_parse_20 : decode cX1_parse 20 = .ok (.iconst 0, 1) := by decide +kernel
theorem dX1_parse_21 : decode cX1_parse 21 = .ok (.istore_n 2, 1) := by decide +kernel
theorem dX1_parse_22 : decode cX1_parse 22 = .ok (.iload_n 2, 1) := by decide +kernel
theorem dX1_parse_23 : decode cX1_parse 23 = .ok (.iload_n 1, 1) := by decide +kernel
theorem dX1_parse_24 : decode cX1_parse 24 = .ok (.if_icmp .ge 23, 3) := by decide +kernel
theorem dX1_parse_27 : decode cX1_parse 27 = .ok (.aload_n 0, 1) := by decide +kernel
theorem dX1_parse_28 : decode cX1_parse 28 = .ok (.getfield 16, 3) := by decide +kernel
theorem dX1_parse_31 : decode cX1_parse 31 = .ok (.invokevirtual 33, 3) := by decide +kernel
theorem dX1_parse_34 : decode cX1_parse 34 = .ok (.ifCond .eq 13, 3) := by decide +kernel
theorem dX1_parse_37 : decode cX1_parse 37 = .ok (.aload_n 0, 1) := by decide +kernel
theorem dX1_parse_38 : decode cX1_parse 38 = .ok (.invokevirtual 37, 3) := by decide +kernel
theorem dX1_parse_41 : decode cX1_parse 41 = .ok (.iinc 2 1, 3) := by decide +kernel
theorem dX1_parse_44 : decode cX1_parse 44 = .ok (.goto (-22), 3) := by decide +kernel
theorem dX1_parse_47 : decode cX1_parse 47 = .ok (.aload_n 0, 1) := by decide +kernel
theorem dX1_parse_48 : decode cX1_parse 48 = .ok (.getfield 10, 3) := by decide +kernel
theorem dX1_parse_51 : decode cX1_parse 51 = .ok (.getfield 40, 3) := by decide +kernel
theorem dX1_parse_54 : decode cX1_parse 54 = .ok (.invokevirtual 44, 3) := by decide +kernel
theorem dX1_parse_57 : decode cX1_parse 57 = .ok (.aload_n 0, 1) := by decide +kernel
theorem dX1_parse_58 : decode cX1_parse 58 = .ok (.getfield 16, 3) := by decide +kernel
theorem dX1_parse_61 : decode cX1_parse 61 = .ok (.getfield 49, 3) := by decide +kernel
theorem dX1_parse_64 : decode cX1_parse 64 = .ok (.ifCond .ne 7, 3) := by decide +kernel
theorem dX1_parse_67 : decode cX1_parse 67 = .ok (.iconst 1, 1) := by decide +kernel
theorem dX1_parse_68 : decode cX1_parse 68 = .ok (.goto 4, 3) := by decide +kernel
theorem dX1_parse_71 : decode cX1_parse 71 = .ok (.iconst 0, 1) := by decide +kernel
theorem dX1_parse_72 : decode cX1_parse 72 = .ok (.ireturn, 1) := by decide +kernel
theorem dX1_takePart_0 : decode cX1_takePart 0 = .ok (.aload_n 0, 1) := by decide +kernel
theorem dX1_takePart_1 : decode cX1_takePart 1 = .ok (.getfield 16, 3) := by decide +kernel
theorem dX1_takePart_4 : decode cX1_takePart 4 = .ok (.getfield 52, 3) := by decide +kernel
theorem dX1_takePart_7 : decode cX1_takePart 7 = .ok (.iconst 1, 1) := by decide +kernel
theorem dX1_takePart_8 : decode cX1_takePart 8 = .ok (.if_icmp .ne 13, 3) := by decide +kernel
theorem dX1_takePart_11 : decode cX1_takePart 11 = .ok (.aload_n 0, 1) := by decide +kernel
theorem dX1_takePart_12 : decode cX1_takePart 12 = .ok (.getfield 16, 3) := by decide +kernel
theorem dX1_takePart_15 : decode cX1_takePart 15 = .ok (.getfield 55, 3) := by decide +kernel
theorem dX1_takePart_18 : decode cX1_takePart 18 = .ok (.goto 4, 3) := by decide +kernel
theorem dX1_takePart_21 : decode cX1_takePart 21 = .ok (.iconst 0, 1) := by decide +kernel
theorem dX1_takePart_22 : decode cX1_takePart 22 = .ok (.tableswitch 166 1 14 #[70, 88, 106, 124, 131, 166, 138, 166, 145, 166, 166, 152, 166, 159], 70) := by decide +kernel
theorem dX1_takePart_92 : decode cX1_takePart 92 = .ok (.aload_n 0, 1) := by decide +kernel
theorem dX1_takePart_93 : decode cX1_takePart 93 = .ok (.getfield 10, 3) := by decide +kernel
theorem dX1_takePart_96 : decode cX1_takePart 96 = .ok (.aload_n 0, 1) := by decide +kernel
theorem dX1_takePart_97 : decode cX1_takePart 97 = .ok (.iconst 1, 1) := by decide +kernel
theorem dX1_takePart_98 : decode cX1_takePart 98 = .ok (.iconst 0, 1) := by decide +kernel
theorem dX1_takePart_99 : decode cX1_takePart 99 = .ok (.bipush 99, 2) := by decide +kernel
theorem dX1_takePart_101 : decode cX1_takePart 101 = .ok (.invokevirtual 58, 3) := by decide +kernel
theorem dX1_takePart_104 : decode cX1_takePart 104 = .ok (.putfield 62, 3) := by decide +kernel
theorem dX1_takePart_107 : decode cX1_takePart 107 = .ok (.goto 88, 3) := by decide +kernel
theorem dX1_takePart_110 : decode cX1_takePart 110 = .ok (.aload_n 0, 1) := by decide +kernel
theorem dX1_takePart_111 : decode cX1_takePart 111 = .ok (.getfield 10, 3) := by decide +kernel
theorem dX1_takePart_114 : decode cX1_takePart 114 = .ok (.aload_n 0, 1) := by decide +kernel
theorem dX1_takePart_115 : decode cX1_takePart 115 = .ok (.iconst 2, 1) := by decide +kernel
theorem dX1_takePart_116 : decode cX1_takePart 116 = .ok (.iconst 1, 1) := by decide +kernel
theorem dX1_takePart_117 : decode cX1_takePart 117 = .ok (.bipush 24, 2) := by decide +kernel
theorem dX1_takePart_119 : decode cX1_takePart 119 = .ok (.invokevirtual 58, 3) := by decide +kernel
theorem dX1_takePart_122 : decode cX1_takePart 122 = .ok (.putfield 65, 3) := by decide +kernel
theorem dX1_takePart_125 : decode cX1_takePart 125 = .ok (.goto 70, 3) := by decide +kernel
theorem dX1_takePart_128 : decode cX1_takePart 128 = .ok (.aload_n 0, 1) := by decide +kernel
theorem dX1_takePart_129 : decode cX1_takePart 129 = .ok (.getfield 10, 3) := by decide +kernel
theorem dX1_takePart_132 : decode cX1_takePart 132 = .ok (.aload_n 0, 1) := by decide +kernel
theorem dX1_takePart_133 : decode cX1_takePart 133 = .ok (.iconst 3, 1) := by decide +kernel
theorem dX1_takePart_134 : decode cX1_takePart 134 = .ok (.iconst 0, 1) := by decide +kernel
theorem dX1_takePart_135 : decode cX1_takePart 135 = .ok (.bipush 16, 2) := by decide +kernel
theorem dX1_takePart_137 : decode cX1_takePart 137 = .ok (.invokevirtual 58, 3) := by decide +kernel
theorem dX1_takePart_140 : decode cX1_takePart 140 = .ok (.putfield 68, 3) := by decide +kernel
theorem dX1_takePart_143 : decode cX1_takePart 143 = .ok (.goto 52, 3) := by decide +kernel
theorem dX1_takePart_146 : decode cX1_takePart 146 = .ok (.aload_n 0, 1) := by decide +kernel
theorem dX1_takePart_147 : decode cX1_takePart 147 = .ok (.invokevirtual 71, 3) := by decide +kernel
theorem dX1_takePart_150 : decode cX1_takePart 150 = .ok (.goto 45, 3) := by decide +kernel
theorem dX1_takePart_153 : decode cX1_takePart 153 = .ok (.aload_n 0, 1) := by decide +kernel
theorem dX1_takePart_154 : decode cX1_takePart 154 = .ok (.invokevirtual 74, 3) := by decide +kernel
theorem dX1_takePart_157 : decode cX1_takePart 157 = .ok (.goto 38, 3) := by decide +kernel
theorem dX1_takePart_160 : decode cX1_takePart 160 = .ok (.aload_n 0, 1) := by decide +kernel
theorem dX1_takePart_161 : decode cX1_takePart 161 = .ok (.invokevirtual 77, 3) := by decide +kernel
theorem dX1_takePart_164 : decode cX1_takePart 164 = .ok (.goto 31, 3) := by decide +kernel
theorem dX1_takePart_167 : decode cX1_takePart 167 = .ok (.aload_n 0, 1) := by decide +kernel
theorem dX1_takePart_168 : decode cX1_takePart 168 = .ok (.invokevirtual 80, 3) := by decide +kernel
theorem dX1_takePart_171 : decode cX1_takePart 171 = .ok (.goto 24, 3) := by decide +kernel
theorem dX1_takePart_174 : decode cX1_takePart 174 = .ok (.aload_n 0, 1) := by decide +kernel
theorem dX1_takePart_175 : decode cX1_takePart 175 = .ok (.invokevirtual 83, 3) := by decide +kernel
theorem dX1_takePart_178 : decode cX1_takePart 178 = .ok (.goto 17, 3) := by decide +kernel
theorem dX1_takePart_181 : decode cX1_takePart 181 = .ok (.aload_n 0, 1) := by decide +kernel
theorem dX1_takePart_182 : decode cX1_takePart 182 = .ok (.invokevirtual 86, 3) := by decide +kernel
theorem dX1_takePart_185 : decode cX1_takePart 185 = .ok (.goto 10, 3) := by decide +kernel
theorem dX1_takePart_188 : decode cX1_takePart 188 = .ok (.aload_n 0, 1) := by decide +kernel
theorem dX1_takePart_189 : decode cX1_takePart 189 = .ok (.getfield 16, 3) := by decide +kernel
theorem dX1_takePart_192 : decode cX1_takePart 192 = .ok (.invokevirtual 89, 3) := by decide +kernel
theorem dX1_takePart_195 : decode cX1_takePart 195 = .ok (.return_, 1) := by decide +kernel
theorem dX1_takeRule_0 : decode cX1_takeRule 0 = .ok (.aload_n 0, 1) := by decide +kernel
theorem dX1_takeRule_1 : decode cX1_takeRule 1 = .ok (.getfield 23, 3) := by decide +kernel
theorem dX1_takeRule_4 : decode cX1_takeRule 4 = .ok (.iload_n 1, 1) := by decide +kernel
theorem dX1_takeRule_5 : decode cX1_takeRule 5 = .ok (.ishr, 1) := by decide +kernel
theorem dX1_takeRule_6 : decode cX1_takeRule 6 = .ok (.iconst 1, 1) := by decide +kernel
theorem dX1_takeRule_7 : decode cX1_takeRule 7 = .ok (.iand, 1) := by decide +kernel
theorem dX1_takeRule_8 : decode cX1_takeRule 8 = .ok (.iconst 1, 1) := by decide +kernel
theorem dX1_takeRule_9 : decode cX1_takeRule 9 = .ok (.if_icmp .ne 13, 3) := by decide +kernel
theorem dX1_takeRule_12 : decode cX1_takeRule 12 = .ok (.aload_n 0, 1) := by decide +kernel
theorem dX1_takeRule_13 : decode cX1_takeRule 13 = .ok (.getfield 16, 3) := by decide +kernel
theorem dX1_takeRule_16 : decode cX1_takeRule 16 = .ok (.iconst 5, 1) := by decide +kernel
theorem dX1_takeRule_17 : decode cX1_takeRule 17 = .ok (.invokevirtual 92, 3) := by decide +kernel
theorem dX1_takeRule_20 : decode cX1_takeRule 20 = .ok (.iload_n 2, 1) := by decide +kernel
theorem dX1_takeRule_21 : decode cX1_takeRule 21 = .ok (.ireturn, 1) := by decide +kernel
theorem dX1_takeRule_22 : decode cX1_takeRule 22 = .ok (.aload_n 0, 1) := by decide +kernel
theorem dX1_takeRule_23 : decode cX1_takeRule 23 = .ok (.dup, 1) := by decide +kernel
theorem dX1_takeRule_24 : decode cX1_takeRule 24 = .ok (.getfield 23, 3) := by decide +kernel
theorem dX1_takeRule_27 : decode cX1_takeRule 27 = .ok (.iconst 1, 1) := by decide +kernel
