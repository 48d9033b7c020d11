/-! ===== the law's code, 4 ===== -/
theorem dW_1526 : decode code 1526 = .ok (.i2l, 1) := by decide +kernel
theorem dW_1527 : decode code 1527 = .ok (.lcmp, 1) := by decide +kernel
theorem dW_1528 : decode code 1528 = .ok (.ifCond .eq 5, 3) := by decide +kernel
theorem dW_1531 : decode code 1531 = .ok (.iconst 0, 1) := by decide +kernel
theorem dW_1532 : decode code 1532 = .ok (.ireturn, 1) := by decide +kernel
theorem dW_1533 : decode code 1533 = .ok (.goto 454, 3) := by decide +kernel
theorem dW_1536 : decode code 1536 = .ok (.aload_n 1, 1) := by decide +kernel
theorem dW_1537 : decode code 1537 = .ok (.aload_n 0, 1) := by decide +kernel
theorem dW_1538 : decode code 1538 = .ok (.iload 4, 2) := by decide +kernel
theorem dW_1540 : decode code 1540 = .ok (.iconst 1, 1) := by decide +kernel
theorem dW_1541 : decode code 1541 = .ok (.iadd, 1) := by decide +kernel
theorem dW_1542 : decode code 1542 = .ok (.iaload, 1) := by decide +kernel
theorem dW_1543 : decode code 1543 = .ok (.aload_n 0, 1) := by decide +kernel
theorem dW_1544 : decode code 1544 = .ok (.iload 4, 2) := by decide +kernel
theorem dW_1546 : decode code 1546 = .ok (.iconst 2, 1) := by decide +kernel
theorem dW_1547 : decode code 1547 = .ok (.iadd, 1) := by decide +kernel
theorem dW_1548 : decode code 1548 = .ok (.iaload, 1) := by decide +kernel
theorem dW_1549 : decode code 1549 = .ok (.aload_n 3, 1) := by decide +kernel
theorem dW_1550 : decode code 1550 = .ok (.invokestatic 198, 3) := by decide +kernel
theorem dW_1553 : decode code 1553 = .ok (.istore 5, 2) := by decide +kernel
theorem dW_1555 : decode code 1555 = .ok (.aload_n 2, 1) := by decide +kernel
theorem dW_1556 : decode code 1556 = .ok (.aload_n 0, 1) := by decide +kernel
theorem dW_1557 : decode code 1557 = .ok (.iload 4, 2) := by decide +kernel
theorem dW_1559 : decode code 1559 = .ok (.iconst 1, 1) := by decide +kernel
theorem dW_1560 : decode code 1560 = .ok (.iadd, 1) := by decide +kernel
theorem dW_1561 : decode code 1561 = .ok (.iaload, 1) := by decide +kernel
theorem dW_1562 : decode code 1562 = .ok (.aload_n 0, 1) := by decide +kernel
theorem dW_1563 : decode code 1563 = .ok (.iload 4, 2) := by decide +kernel
theorem dW_1565 : decode code 1565 = .ok (.iconst 2, 1) := by decide +kernel
theorem dW_1566 : decode code 1566 = .ok (.iadd, 1) := by decide +kernel
theorem dW_1567 : decode code 1567 = .ok (.iaload, 1) := by decide +kernel
theorem dW_1568 : decode code 1568 = .ok (.invokevirtual 200, 3) := by decide +kernel
theorem dW_1571 : decode code 1571 = .ok (.istore 6, 2) := by decide +kernel
theorem dW_1573 : decode code 1573 = .ok (.aload_n 2, 1) := by decide +kernel
theorem dW_1574 : decode code 1574 = .ok (.invokevirtual 112, 3) := by decide +kernel
theorem dW_1577 : decode code 1577 = .ok (.iload 5, 2) := by decide +kernel
theorem dW_1579 : decode code 1579 = .ok (.if_icmp .eq 5, 3) := by decide +kernel
theorem dW_1582 : decode code 1582 = .ok (.iconst 0, 1) := by decide +kernel
theorem dW_1583 : decode code 1583 = .ok (.ireturn, 1) := by decide +kernel
theorem dW_1584 : decode code 1584 = .ok (.iload 5, 2) := by decide +kernel
theorem dW_1586 : decode code 1586 = .ok (.ifCond .ne 15, 3) := by decide +kernel
theorem dW_1589 : decode code 1589 = .ok (.aload_n 3, 1) := by decide +kernel
theorem dW_1590 : decode code 1590 = .ok (.iconst 0, 1) := by decide +kernel
theorem dW_1591 : decode code 1591 = .ok (.laload, 1) := by decide +kernel
theorem dW_1592 : decode code 1592 = .ok (.iload 6, 2) := by decide +kernel
theorem dW_1594 : decode code 1594 = .ok (.i2l, 1) := by decide +kernel
theorem dW_1595 : decode code 1595 = .ok (.lcmp, 1) := by decide +kernel
theorem dW_1596 : decode code 1596 = .ok (.ifCond .eq 5, 3) := by decide +kernel
theorem dW_1599 : decode code 1599 = .ok (.iconst 0, 1) := by decide +kernel
theorem dW_1600 : decode code 1600 = .ok (.ireturn, 1) := by decide +kernel
theorem dW_1601 : decode code 1601 = .ok (.goto 386, 3) := by decide +kernel
theorem dW_1604 : decode code 1604 = .ok (.aload_n 1, 1) := by decide +kernel
theorem dW_1605 : decode code 1605 = .ok (.aload_n 0, 1) := by decide +kernel
theorem dW_1606 : decode code 1606 = .ok (.iload 4, 2) := by decide +kernel
theorem dW_1608 : decode code 1608 = .ok (.iconst 1, 1) := by decide +kernel
theorem dW_1609 : decode code 1609 = .ok (.iadd, 1) := by decide +kernel
theorem dW_1610 : decode code 1610 = .ok (.iaload, 1) := by decide +kernel
theorem dW_1611 : decode code 1611 = .ok (.aload_n 0, 1) := by decide +kernel
theorem dW_1612 : decode code 1612 = .ok (.iload 4, 2) := by decide +kernel
theorem dW_1614 : decode code 1614 = .ok (.iconst 2, 1) := by decide +kernel
theorem dW_1615 : decode code 1615 = .ok (.iadd, 1) := by decide +kernel
theorem dW_1616 : decode code 1616 = .ok (.iaload, 1) := by decide +kernel
theorem dW_1617 : decode code 1617 = .ok (.aload_n 0, 1) := by decide +kernel
theorem dW_1618 : decode code 1618 = .ok (.iload 4, 2) := by decide +kernel
theorem dW_1620 : decode code 1620 = .ok (.iconst 3, 1) := by decide +kernel
theorem dW_1621 : decode code 1621 = .ok (.iadd, 1) := by decide +kernel
theorem dW_1622 : decode code 1622 = .ok (.iaload, 1) := by decide +kernel
theorem dW_1623 : decode code 1623 = .ok (.aload_n 3, 1) := by decide +kernel
theorem dW_1624 : decode code 1624 = .ok (.invokestatic 201, 3) := by decide +kernel
theorem dW_1627 : decode code 1627 = .ok (.istore 5, 2) := by decide +kernel
theorem dW_1629 : decode code 1629 = .ok (.aload_n 2, 1) := by decide +kernel
theorem dW_1630 : decode code 1630 = .ok (.aload_n 0, 1) := by decide +kernel
theorem dW_1631 : decode code 1631 = .ok (.iload 4, 2) := by decide +kernel
theorem dW_1633 : decode code 1633 = .ok (.iconst 1, 1) := by decide +kernel
theorem dW_1634 : decode code 1634 = .ok (.iadd, 1) := by decide +kernel
theorem dW_1635 : decode code 1635 = .ok (.iaload, 1) := by decide +kernel
theorem dW_1636 : decode code 1636 = .ok (.aload_n 0, 1) := by decide +kernel
theorem dW_1637 : decode code 1637 = .ok (.iload 4, 2) := by decide +kernel
theorem dW_1639 : decode code 1639 = .ok (.iconst 2, 1) := by decide +kernel
theorem dW_1640 : decode code 1640 = .ok (.iadd, 1) := by decide +kernel
theorem dW_1641 : decode code 1641 = .ok (.iaload, 1) := by decide +kernel
theorem dW_1642 : decode code 1642 = .ok (.aload_n 0, 1) := by decide +kernel
theorem dW_1643 : decode code 1643 = .ok (.iload 4, 2) := by decide +kernel
theorem dW_1645 : decode code 1645 = .ok (.iconst 3, 1) := by decide +kernel
theorem dW_1646 : decode code 1646 = .ok (.iadd, 1) := by decide +kernel
theorem dW_1647 : decode code 1647 = .ok (.iaload, 1) := by decide +kernel
theorem dW_1648 : decode code 1648 = .ok (.invokevirtual 203, 3) := by decide +kernel
theorem dW_1651 : decode code 1651 = .ok (.istore 6, 2) := by decide +kernel
theorem dW_1653 : decode code 1653 = .ok (.aload_n 2, 1) := by decide +kernel
theorem dW_1654 : decode code 1654 = .ok (.invokevirtual 112, 3) := by decide +kernel
theorem dW_1657 : decode code 1657 = .ok (.iload 5, 2) := by decide +kernel
theorem dW_1659 : decode code 1659 = .ok (.if_icmp .eq 5, 3) := by decide +kernel
theorem dW_1662 : decode code 1662 = .ok (.iconst 0, 1) := by decide +kernel
theorem dW_1663 : decode code 1663 = .ok (.ireturn, 1) := by decide +kernel
theorem dW_1664 : decode code 1664 = .ok (.iload 5, 2) := by decide +kernel
theorem dW_1666 : decode code 1666 = .ok (.ifCond .ne 15, 3) := by decide +kernel
theorem dW_1669 : decode code 1669 = .ok (.aload_n 3, 1) := by decide +kernel
theorem dW_1670 : decode code 1670 = .ok (.iconst 0, 1) := by decide +kernel
theorem dW_1671 : decode code 1671 = .ok (.laload, 1) := by decide +kernel
theorem dW_1672 : decode code 1672 = .ok (.iload 6, 2) := by decide +kernel
theorem dW_1674 : decode code 1674 = .ok (.i2l, 1) := by decide +kernel
theorem dW_1675 : decode code 1675 = .ok (.lcmp, 1) := by decide +kernel
theorem dW_1676 : decode code 1676 = .ok (.ifCond .eq 5, 3) := by decide +kernel
theorem dW_1679 : decode code 1679 = .ok (.iconst 0, 1) := by decide +kernel
theorem dW_1680 : decode code 1680 = .ok (.ireturn, 1) := by decide +kernel
theorem dW_1681 : decode code 1681 = .ok (.goto 306, 3) := by decide +kernel
theorem dW_1684 : decode code 1684 = .ok (.aload_n 1, 1) := by decide +kernel
theorem dW_1685 : decode code 1685 = .ok (.aload_n 0, 1) := by decide +kernel
theorem dW_1686 : decode code 1686 = .ok (.iload 4, 2) := by decide +kernel
theorem dW_1688 : decode code 1688 = .ok (.iconst 1, 1) := by decide +kernel
theorem dW_1689 : decode code 1689 = .ok (.iadd, 1) := by decide +kernel
theorem dW_1690 : decode code 1690 = .ok (.iaload, 1) := by decide +kernel
theorem dW_1691 : decode code 1691 = .ok (.aload_n 0, 1) := by decide +kernel
theorem dW_1692 : decode code 1692 = .ok (.iload 4, 2) := by decide +kernel
theorem dW_1694 : decode code 1694 = .ok (.iconst 2, 1) := by decide +kernel
theorem dW_1695 : decode code 1695 = .ok (.iadd, 1) := by decide +kernel
theorem dW_1696 : decode code 1696 = .ok (.iaload, 1) := by decide +kernel
theorem dW_1697 : decode code 1697 = .ok (.aload_n 3, 1) := by decide +kernel
theorem dW_1698 : decode code 1698 = .ok (.invokestatic 204, 3) := by decide +kernel
theorem dW_1701 : decode code 1701 = .ok (.istore 5, 2) := by decide +kernel
theorem dW_1703 : decode code 1703 = .ok (.aload_n 2, 1) := by decide +kernel
theorem dW_1704 : decode code 1704 = .ok (.aload_n 0, 1) := by decide +kernel
theorem dW_1705 : decode code 1705 = .ok (.iload 4, 2) := by decide +kernel
theorem dW_1707 : decode code 1707 = .ok (.iconst 1, 1) := by decide +kernel
theorem dW_1708 : decode code 1708 = .ok (.iadd, 1) := by decide +kernel
theorem dW_1709 : decode code 1709 = .ok (.iaload, 1) := by decide +kernel
theorem dW_1710 : decode code 1710 = .ok (.aload_n 0, 1) := by decide +kernel
theorem dW_1711 : decode code 1711 = .ok (.iload 4, 2) := by decide +kernel
theorem dW_1713 : decode code 1713 = .ok (.iconst 2, 1) := by decide +kernel
theorem dW_1714 : decode code 1714 = .ok (.iadd, 1) := by decide +kernel
theorem dW_1715 : decode code 1715 = .ok (.iaload, 1) := by decide +kernel
theorem dW_1716 : decode code 1716 = .ok (.invokevirtual 206, 3) := by decide +kernel
theorem dW_1719 : decode code 1719 = .ok (.istore 6, 2) := by decide +kernel
theorem dW_1721 : decode code 1721 = .ok (.aload_n 2, 1) := by decide +kernel
theorem dW_1722 : decode code 1722 = .ok (.invokevirtual 112, 3) := by decide +kernel
theorem dW_1725 : decode code 1725 = .ok (.iload 5, 2) := by decide +kernel
theorem dW_1727 : decode code 1727 = .ok (.if_icmp .eq 5, 3) := by decide +kernel
theorem dW_1730 : decode code 1730 = .ok (.iconst 0, 1) := by decide +kernel
theorem dW_1731 : decode code 1731 = .ok (.ireturn, 1) := by decide +kernel
theorem dW_1732 : decode code 1732 = .ok (.iload 5, 2) := by decide +kernel
theorem dW_1734 : decode code 1734 = .ok (.ifCond .ne 15, 3) := by decide +kernel
theorem dW_1737 : decode code 1737 = .ok (.aload_n 3, 1) := by decide +kernel
theorem dW_1738 : decode code 1738 = .ok (.iconst 0, 1) := by decide +kernel
theorem dW_1739 : decode code 1739 = .ok (.laload, 1) := by decide +kernel
theorem dW_1740 : decode code 1740 = .ok (.iload 6, 2) := by decide +kernel
theorem dW_1742 : decode code 1742 = .ok (.i2l, 1) := by decide +kernel
theorem dW_1743 : decode code 1743 = .ok (.lcmp, 1) := by decide +kernel
theorem dW_1744 : decode code 1744 = .ok (.ifCond .eq 5, 3) := by decide +kernel
theorem dW_1747 : decode code 1747 = .ok (.iconst 0, 1) := by decide +kernel
theorem dW_1748 : decode code 1748 = .ok (.ireturn, 1) := by decide +kernel
theorem dW_1749 : decode code 1749 = .ok (.goto 238, 3) := by decide +kernel
theorem dW_1752 : decode code 1752 = .ok (.aload_n 1, 1) := by decide +kernel
theorem dW_1753 : decode code 1753 = .ok (.aload_n 0, 1) := by decide +kernel
theorem dW_1754 : decode code 1754 = .ok (.iload 4, 2) := by decide +kernel
theorem dW_1756 : decode code 1756 = .ok (.iconst 1, 1) := by decide +kernel
theorem dW_1757 : decode code 1757 = .ok (.iadd, 1) := by decide +kernel
theorem dW_1758 : decode code 1758 = .ok (.iaload, 1) := by decide +kernel
theorem dW_1759 : decode code 1759 = .ok (.aload_n 3, 1) := by decide +kernel
theorem dW_1760 : decode code 1760 = .ok (.invokestatic 207, 3) := by decide +kernel
theorem dW_1763 : decode code 1763 = .ok (.istore 5, 2) := by decide +kernel
theorem dW_1765 : decode code 1765 = .ok (.aload_n 2, 1) := by decide +kernel
theorem dW_1766 : decode code 1766 = .ok (.aload_n 0, 1) := by decide +kernel
theorem dW_1767 : decode code 1767 = .ok (.iload 4, 2) := by decide +kernel
theorem dW_1769 : decode code 1769 = .ok (.iconst 1, 1) := by decide +kernel
theorem dW_1770 : decode code 1770 = .ok (.iadd, 1) := by decide +kernel
theorem dW_1771 : decode code 1771 = .ok (.iaload, 1) := by decide +kernel
theorem dW_1772 : decode code 1772 = .ok (.invokevirtual 209, 3) := by decide +kernel
theorem dW_1775 : decode code 1775 = .ok (.lstore 6, 2) := by decide +kernel
theorem dW_1777 : decode code 1777 = .ok (.aload_n 2, 1) := by decide +kernel
theorem dW_1778 : decode code 1778 = .ok (.invokevirtual 112, 3) := by decide +kernel
theorem dW_1781 : decode code 1781 = .ok (.iload 5, 2) := by decide +kernel
theorem dW_1783 : decode code 1783 = .ok (.if_icmp .eq 5, 3) := by decide +kernel
theorem dW_1786 : decode code 1786 = .ok (.iconst 0, 1) := by decide +kernel
theorem dW_1787 : decode code 1787 = .ok (.ireturn, 1) := by decide +kernel
theorem dW_1788 : decode code 1788 = .ok (.iload 5, 2) := by decide +kernel
theorem dW_1790 : decode code 1790 = .ok (.ifCond .ne 14, 3) := by decide +kernel
theorem dW_1793 : decode code 1793 = .ok (.aload_n 3, 1) := by decide +kernel
theorem dW_1794 : decode code 1794 = .ok (.iconst 0, 1) := by decide +kernel
theorem dW_1795 : decode code 1795 = .ok (.laload, 1) := by decide +kernel
theorem dW_1796 : decode code 1796 = .ok (.lload 6, 2) := by decide +kernel
theorem dW_1798 : decode code 1798 = .ok (.lcmp, 1) := by decide +kernel
theorem dW_1799 : decode code 1799 = .ok (.ifCond .eq 5, 3) := by decide +kernel
theorem dW_1802 : decode code 1802 = .ok (.iconst 0, 1) := by decide +kernel
theorem dW_1803 : decode code 1803 = .ok (.ireturn, 1) := by decide +kernel
theorem dW_1804 : decode code 1804 = .ok (.goto 183, 3) := by decide +kernel
theorem dW_1807 : decode code 1807 = .ok (.aload_n 1, 1) := by decide +kernel
theorem dW_1808 : decode code 1808 = .ok (.aload_n 0, 1) := by decide +kernel
theorem dW_1809 : decode code 1809 = .ok (.iload 4, 2) := by decide +kernel
theorem dW_1811 : decode code 1811 = .ok (.iconst 1, 1) := by decide +kernel
theorem dW_1812 : decode code 1812 = .ok (.iadd, 1) := by decide +kernel
theorem dW_1813 : decode code 1813 = .ok (.iaload, 1) := by decide +kernel
theorem dW_1814 : decode code 1814 = .ok (.aload_n 3, 1) := by decide +kernel
theorem dW_1815 : decode code 1815 = .ok (.invokestatic 210, 3) := by decide +kernel
theorem dW_1818 : decode code 1818 = .ok (.istore 5, 2) := by decide +kernel
theorem dW_1820 : decode code 1820 = .ok (.aload_n 2, 1) := by decide +kernel
theorem dW_1821 : decode code 1821 = .ok (.aload_n 0, 1) := by decide +kernel
theorem dW_1822 : decode code 1822 = .ok (.iload 4, 2) := by decide +kernel
theorem dW_1824 : decode code 1824 = .ok (.iconst 1, 1) := by decide +kernel
theorem dW_1825 : decode code 1825 = .ok (.iadd, 1) := by decide +kernel
theorem dW_1826 : decode code 1826 = .ok (.iaload, 1) := by decide +kernel
theorem dW_1827 : decode code 1827 = .ok (.invokevirtual 212, 3) := by decide +kernel
theorem dW_1830 : decode code 1830 = .ok (.lstore 6, 2) := by decide +kernel
theorem dW_1832 : decode code 1832 = .ok (.aload_n 2, 1) := by decide +kernel
theorem dW_1833 : decode code 1833 = .ok (.invokevirtual 112, 3) := by decide +kernel
theorem dW_1836 : decode code 1836 = .ok (.iload 5, 2) := by decide +kernel
theorem dW_1838 : decode code 1838 = .ok (.if_icmp .eq 5, 3) := by decide +kernel
theorem dW_1841 : decode code 1841 = .ok (.iconst 0, 1) := by decide +kernel
theorem dW_1842 : decode code 1842 = .ok (.ireturn, 1) := by decide +kernel
theorem dW_1843 : decode code 1843 = .ok (.iload 5, 2) := by decide +kernel
theorem dW_1845 : decode code 1845 = .ok (.ifCond .ne 14, 3) := by decide +kernel
theorem dW_1848 : decode code 1848 = .ok (.aload_n 3, 1) := by decide +kernel
theorem dW_1849 : decode code 1849 = .ok (.iconst 0, 1) := by decide +kernel
theorem dW_1850 : decode code 1850 = .ok (.laload, 1) := by decide +kernel
theorem dW_1851 : decode code 1851 = .ok (.lload 6, 2) := by decide +kernel
theorem dW_1853 : decode code 1853 = .ok (.lcmp, 1) := by decide +kernel
theorem dW_1854 : decode code 1854 = .ok (.ifCond .eq 5, 3) := by decide +kernel
theorem dW_1857 : decode code 1857 = .ok (.iconst 0, 1) := by decide +kernel
theorem dW_1858 : decode code 1858 = .ok (.ireturn, 1) := by decide +kernel
theorem dW_1859 : decode code 1859 = .ok (.goto 128, 3) := by decide +kernel
theorem dW_1862 : decode code 1862 = .ok (.aload_n 1, 1) := by decide +kernel
theorem dW_1863 : decode code 1863 = .ok (.aload_n 0, 1) := by decide +kernel
theorem dW_1864 : decode code 1864 = .ok (.iload 4, 2) := by decide +kernel
theorem dW_1866 : decode code 1866 = .ok (.iconst 1, 1) := by decide +kernel
theorem dW_1867 : decode code 1867 = .ok (.iadd, 1) := by decide +kernel
theorem dW_1868 : decode code 1868 = .ok (.iaload, 1) := by decide +kernel
theorem dW_1869 : decode code 1869 = .ok (.aload_n 3, 1) := by decide +kernel
theorem dW_1870 : decode code 1870 = .ok (.invokestatic 213, 3) := by decide +kernel
theorem dW_1873 : decode code 1873 = .ok (.istore 5, 2) := by decide +kernel
theorem dW_1875 : decode code 1875 = .ok (.aload_n 2, 1) := by decide +kernel
theorem dW_1876 : decode code 1876 = .ok (.aload_n 0, 1) := by decide +kernel
theorem dW_1877 : decode code 1877 = .ok (.iload 4, 2) := by decide +kernel
theorem dW_1879 : decode code 1879 = .ok (.iconst 1, 1) := by decide +kernel
theorem dW_1880 : decode code 1880 = .ok (.iadd, 1) := by decide +kernel
theorem dW_1881 : decode code 1881 = .ok (.iaload, 1) := by decide +kernel
theorem dW_1882 : decode code 1882 = .ok (.invokevirtual 215, 3) := by decide +kernel
theorem dW_1885 : decode code 1885 = .ok (.lstore 6, 2) := by decide +kernel
theorem dW_1887 : decode code 1887 = .ok (.aload_n 2, 1) := by decide +kernel
theorem dW_1888 : decode code 1888 = .ok (.invokevirtual 112, 3) := by decide +kernel
theorem dW_1891 : decode code 1891 = .ok (.iload 5, 2) := by decide +kernel
theorem dW_1893 : decode code 1893 = .ok (.if_icmp .eq 5, 3) := by decide +kernel
theorem dW_1896 : decode code 1896 = .ok (.iconst 0, 1) := by decide +kernel
theorem dW_1897 : decode code 1897 = .ok (.ireturn, 1) := by decide +kernel
theorem dW_1898 : decode code 1898 = .ok (.iload 5, 2) := by decide +kernel
theorem dW_1900 : decode code 1900 = .ok (.ifCond .ne 14, 3) := by decide +kernel
theorem dW_1903 : decode code 1903 = .ok (.aload_n 3, 1) := by decide +kernel
theorem dW_1904 : decode code 1904 = .ok (.iconst 0, 1) := by decide +kernel
theorem dW_1905 : decode code 1905 = .ok (.laload, 1) := by decide +kernel
theorem dW_1906 : decode code 1906 = .ok (.lload 6, 2) := by decide +kernel
theorem dW_1908 : decode code 1908 = .ok (.lcmp, 1) := by decide +kernel
theorem dW_1909 : decode code 1909 = .ok (.ifCond .eq 5, 3) := by decide +kernel
theorem dW_1912 : decode code 1912 = .ok (.iconst 0, 1) := by decide +kernel
theorem dW_1913 : decode code 1913 = .ok (.ireturn, 1) := by decide +kernel
theorem dW_1914 : decode code 1914 = .ok (.goto 73, 3) := by decide +kernel
theorem dW_1917 : decode code 1917 = .ok (.aload_n 1, 1) := by decide +kernel
theorem dW_1918 : decode code 1918 = .ok (.invokevirtual 216, 3) := by decide +kernel
theorem dW_1921 : decode code 1921 = .ok (.aload_n 2, 1) := by decide +kernel
theorem dW_1922 : decode code 1922 = .ok (.invokevirtual 219, 3) := by decide +kernel
theorem dW_1925 : decode code 1925 = .ok (.lcmp, 1) := by decide +kernel
theorem dW_1926 : decode code 1926 = .ok (.ifCond .eq 61, 3) := by decide +kernel
theorem dW_1929 : decode code 1929 = .ok (.iconst 0, 1) := by decide +kernel
theorem dW_1930 : decode code 1930 = .ok (.ireturn, 1) := by decide +kernel
theorem dW_1931 : decode code 1931 = .ok (.aload_n 1, 1) := by decide +kernel
theorem dW_1932 : decode code 1932 = .ok (.aload_n 0, 1) := by decide +kernel
theorem dW_1933 : decode code 1933 = .ok (.iload 4, 2) := by decide +kernel
theorem dW_1935 : decode code 1935 = .ok (.iconst 1, 1) := by decide +kernel
theorem dW_1936 : decode code 1936 = .ok (.iadd, 1) := by decide +kernel
theorem dW_1937 : decode code 1937 = .ok (.iaload, 1) := by decide +kernel
theorem dW_1938 : decode code 1938 = .ok (.aload_n 3, 1) := by decide +kernel
theorem dW_1939 : decode code 1939 = .ok (.invokestatic 220, 3) := by decide +kernel
theorem dW_1942 : decode code 1942 = .ok (.istore 5, 2) := by decide +kernel
theorem dW_1944 : decode code 1944 = .ok (.aload_n 2, 1) := by decide +kernel
theorem dW_1945 : decode code 1945 = .ok (.aload_n 0, 1) := by decide +kernel
theorem dW_1946 : decode code 1946 = .ok (.iload 4, 2) := by decide +kernel
theorem dW_1948 : decode code 1948 = .ok (.iconst 1, 1) := by decide +kernel
theorem dW_1949 : decode code 1949 = .ok (.iadd, 1) := by decide +kernel
theorem dW_1950 : decode code 1950 = .ok (.iaload, 1) := by decide +kernel
theorem dW_1951 : decode code 1951 = .ok (.invokevirtual 222, 3) := by decide +kernel
theorem dW_1954 : decode code 1954 = .ok (.istore 6, 2) := by decide +kernel
theorem dW_1956 : decode code 1956 = .ok (.aload_n 2, 1) := by decide +kernel
theorem dW_1957 : decode code 1957 = .ok (.invokevirtual 112, 3) := by decide +kernel
theorem dW_1960 : decode code 1960 = .ok (.iload 5, 2) := by decide +kernel
theorem dW_1962 : decode code 1962 = .ok (.if_icmp .eq 5, 3) := by decide +kernel
theorem dW_1965 : decode code 1965 = .ok (.iconst 0, 1) := by decide +kernel
theorem dW_1966 : decode code 1966 = .ok (.ireturn, 1) := by decide +kernel
theorem dW_1967 : decode code 1967 = .ok (.iload 5, 2) := by decide +kernel
theorem dW_1969 : decode code 1969 = .ok (.ifCond .ne 15, 3) := by decide +kernel
theorem dW_1972 : decode code 1972 = .ok (.aload_n 3, 1) := by decide +kernel
theorem dW_1973 : decode code 1973 = .ok (.iconst 0, 1) := by decide +kernel
theorem dW_1974 : decode code 1974 = .ok (.laload, 1) := by decide +kernel
theorem dW_1975 : decode code 1975 = .ok (.iload 6, 2) := by decide +kernel
theorem dW_1977 : decode code 1977 = .ok (.i2l, 1) := by decide +kernel
theorem dW_1978 : decode code 1978 = .ok (.lcmp, 1) := by decide +kernel
theorem dW_1979 : decode code 1979 = .ok (.ifCond .eq 5, 3) := by decide +kernel
theorem dW_1982 : decode code 1982 = .ok (.iconst 0, 1) := by decide +kernel
theorem dW_1983 : decode code 1983 = .ok (.ireturn, 1) := by decide +kernel
theorem dW_1984 : decode code 1984 = .ok (.goto 3, 3) := by decide +kernel
theorem dW_1987 : decode code 1987 = .ok (.iinc 4 7, 3) := by decide +kernel
theorem dW_1990 : decode code 1990 = .ok (.goto (-1967), 3) := by decide +kernel
theorem dW_1993 : decode code 1993 = .ok (.iconst 1, 1) := by decide +kernel
theorem dW_1994 : decode code 1994 = .ok (.ireturn, 1) := by decide +kernel
