theorem dL_law_1536 : decode cL_law 1536 = .ok (.iaload, 1) := by decide +kernel
theorem dL_law_1537 : decode cL_law 1537 = .ok (.ldc 93, 2) := by decide +kernel
theorem dL_law_1539 : decode cL_law 1539 = .ok (.iadd, 1) := by decide +kernel
theorem dL_law_1540 : decode cL_law 1540 = .ok (.iastore, 1) := by decide +kernel
theorem dL_law_1541 : decode cL_law 1541 = .ok (.aload 6, 2) := by decide +kernel
theorem dL_law_1543 : decode cL_law 1543 = .ok (.aload 7, 2) := by decide +kernel
theorem dL_law_1545 : decode cL_law 1545 = .ok (.aload 8, 2) := by decide +kernel
theorem dL_law_1547 : decode cL_law 1547 = .ok (.aload 12, 2) := by decide +kernel
theorem dL_law_1549 : decode cL_law 1549 = .ok (.aload 10, 2) := by decide +kernel
theorem dL_law_1551 : decode cL_law 1551 = .ok (.aload 11, 2) := by decide +kernel
theorem dL_law_1553 : decode cL_law 1553 = .ok (.iload 25, 2) := by decide +kernel
theorem dL_law_1555 : decode cL_law 1555 = .ok (.iload 29, 2) := by decide +kernel
theorem dL_law_1557 : decode cL_law 1557 = .ok (.invokestatic 94, 3) := by decide +kernel
theorem dL_law_1560 : decode cL_law 1560 = .ok (.istore 28, 2) := by decide +kernel
theorem dL_law_1562 : decode cL_law 1562 = .ok (.aload 6, 2) := by decide +kernel
theorem dL_law_1564 : decode cL_law 1564 = .ok (.iload 23, 2) := by decide +kernel
theorem dL_law_1566 : decode cL_law 1566 = .ok (.dup2, 1) := by decide +kernel
theorem dL_law_1567 : decode cL_law 1567 = .ok (.iaload, 1) := by decide +kernel
theorem dL_law_1568 : decode cL_law 1568 = .ok (.iload 28, 2) := by decide +kernel
theorem dL_law_1570 : decode cL_law 1570 = .ok (.ifCond .eq 7, 3) := by decide +kernel
theorem dL_law_1573 : decode cL_law 1573 = .ok (.iconst 0, 1) := by decide +kernel
theorem dL_law_1574 : decode cL_law 1574 = .ok (.goto 5, 3) := by decide +kernel
theorem dL_law_1577 : decode cL_law 1577 = .ok (.ldc 93, 2) := by decide +kernel
theorem dL_law_1579 : decode cL_law 1579 = .ok (.isub, 1) := by decide +kernel
theorem dL_law_1580 : decode cL_law 1580 = .ok (.iastore, 1) := by decide +kernel
theorem dL_law_1581 : decode cL_law 1581 = .ok (.iload 28, 2) := by decide +kernel
theorem dL_law_1583 : decode cL_law 1583 = .ok (.ifCond .eq 188, 3) := by decide +kernel
theorem dL_law_1586 : decode cL_law 1586 = .ok (.aload 7, 2) := by decide +kernel
theorem dL_law_1588 : decode cL_law 1588 = .ok (.iload 23, 2) := by decide +kernel
theorem dL_law_1590 : decode cL_law 1590 = .ok (.laload, 1) := by decide +kernel
theorem dL_law_1591 : decode cL_law 1591 = .ok (.lconst 0, 1) := by decide +kernel
theorem dL_law_1592 : decode cL_law 1592 = .ok (.lcmp, 1) := by decide +kernel
theorem dL_law_1593 : decode cL_law 1593 = .ok (.ifCond .le 21, 3) := by decide +kernel
theorem dL_law_1596 : decode cL_law 1596 = .ok (.aload 8, 2) := by decide +kernel
theorem dL_law_1598 : decode cL_law 1598 = .ok (.iload 23, 2) := by decide +kernel
theorem dL_law_1600 : decode cL_law 1600 = .ok (.laload, 1) := by decide +kernel
theorem dL_law_1601 : decode cL_law 1601 = .ok (.lneg, 1) := by decide +kernel
theorem dL_law_1602 : decode cL_law 1602 = .ok (.aload 8, 2) := by decide +kernel
theorem dL_law_1604 : decode cL_law 1604 = .ok (.iload 23, 2) := by decide +kernel
theorem dL_law_1606 : decode cL_law 1606 = .ok (.laload, 1) := by decide +kernel
theorem dL_law_1607 : decode cL_law 1607 = .ok (.invokestatic 83, 3) := by decide +kernel
theorem dL_law_1610 : decode cL_law 1610 = .ok (.lsub, 1) := by decide +kernel
theorem dL_law_1611 : decode cL_law 1611 = .ok (.goto 17, 3) := by decide +kernel
theorem dL_law_1614 : decode cL_law 1614 = .ok (.aload 8, 2) := by decide +kernel
theorem dL_law_1616 : decode cL_law 1616 = .ok (.iload 23, 2) := by decide +kernel
theorem dL_law_1618 : decode cL_law 1618 = .ok (.laload, 1) := by decide +kernel
theorem dL_law_1619 : decode cL_law 1619 = .ok (.aload 8, 2) := by decide +kernel
theorem dL_law_1621 : decode cL_law 1621 = .ok (.iload 23, 2) := by decide +kernel
theorem dL_law_1623 : decode cL_law 1623 = .ok (.laload, 1) := by decide +kernel
theorem dL_law_1624 : decode cL_law 1624 = .ok (.invokestatic 83, 3) := by decide +kernel
theorem dL_law_1627 : decode cL_law 1627 = .ok (.lsub, 1) := by decide +kernel
theorem dL_law_1628 : decode cL_law 1628 = .ok (.lstore 30, 2) := by decide +kernel
theorem dL_law_1630 : decode cL_law 1630 = .ok (.aload_n 3, 1) := by decide +kernel
theorem dL_law_1631 : decode cL_law 1631 = .ok (.bipush 12, 2) := by decide +kernel
theorem dL_law_1633 : decode cL_law 1633 = .ok (.iload 25, 2) := by decide +kernel
theorem dL_law_1635 : decode cL_law 1635 = .ok (.iadd, 1) := by decide +kernel
theorem dL_law_1636 : decode cL_law 1636 = .ok (.dup2, 1) := by decide +kernel
theorem dL_law_1637 : decode cL_law 1637 = .ok (.laload, 1) := by decide +kernel
theorem dL_law_1638 : decode cL_law 1638 = .ok (.lload 30, 2) := by decide +kernel
theorem dL_law_1640 : decode cL_law 1640 = .ok (.lsub, 1) := by decide +kernel
theorem dL_law_1641 : decode cL_law 1641 = .ok (.lastore, 1) := by decide +kernel
theorem dL_law_1642 : decode cL_law 1642 = .ok (.aload_n 3, 1) := by decide +kernel
theorem dL_law_1643 : decode cL_law 1643 = .ok (.bipush 15, 2) := by decide +kernel
theorem dL_law_1645 : decode cL_law 1645 = .ok (.dup2, 1) := by decide +kernel
theorem dL_law_1646 : decode cL_law 1646 = .ok (.laload, 1) := by decide +kernel
theorem dL_law_1647 : decode cL_law 1647 = .ok (.lload 30, 2) := by decide +kernel
theorem dL_law_1649 : decode cL_law 1649 = .ok (.ladd, 1) := by decide +kernel
theorem dL_law_1650 : decode cL_law 1650 = .ok (.lastore, 1) := by decide +kernel
theorem dL_law_1651 : decode cL_law 1651 = .ok (.aload_n 2, 1) := by decide +kernel
theorem dL_law_1652 : decode cL_law 1652 = .ok (.aload_n 3, 1) := by decide +kernel
theorem dL_law_1653 : decode cL_law 1653 = .ok (.aload 4, 2) := by decide +kernel
theorem dL_law_1655 : decode cL_law 1655 = .ok (.iload 25, 2) := by decide +kernel
theorem dL_law_1657 : decode cL_law 1657 = .ok (.iload 29, 2) := by decide +kernel
theorem dL_law_1659 : decode cL_law 1659 = .ok (.aload 7, 2) := by decide +kernel
theorem dL_law_1661 : decode cL_law 1661 = .ok (.iload 23, 2) := by decide +kernel
theorem dL_law_1663 : decode cL_law 1663 = .ok (.laload, 1) := by decide +kernel
theorem dL_law_1664 : decode cL_law 1664 = .ok (.lneg, 1) := by decide +kernel
theorem dL_law_1665 : decode cL_law 1665 = .ok (.invokestatic 89, 3) := by decide +kernel
theorem dL_law_1668 : decode cL_law 1668 = .ok (.aload 6, 2) := by decide +kernel
theorem dL_law_1670 : decode cL_law 1670 = .ok (.aload 7, 2) := by decide +kernel
theorem dL_law_1672 : decode cL_law 1672 = .ok (.aload 8, 2) := by decide +kernel
theorem dL_law_1674 : decode cL_law 1674 = .ok (.aload 12, 2) := by decide +kernel
theorem dL_law_1676 : decode cL_law 1676 = .ok (.aload 10, 2) := by decide +kernel
theorem dL_law_1678 : decode cL_law 1678 = .ok (.aload 11, 2) := by decide +kernel
theorem dL_law_1680 : decode cL_law 1680 = .ok (.iload 25, 2) := by decide +kernel
theorem dL_law_1682 : decode cL_law 1682 = .ok (.invokestatic 114, 3) := by decide +kernel
theorem dL_law_1685 : decode cL_law 1685 = .ok (.iconst 0, 1) := by decide +kernel
theorem dL_law_1686 : decode cL_law 1686 = .ok (.istore 32, 2) := by decide +kernel
theorem dL_law_1688 : decode cL_law 1688 = .ok (.iload 32, 2) := by decide +kernel
theorem dL_law_1690 : decode cL_law 1690 = .ok (.aload 12, 2) := by decide +kernel
theorem dL_law_1692 : decode cL_law 1692 = .ok (.iconst 0, 1) := by decide +kernel
theorem dL_law_1693 : decode cL_law 1693 = .ok (.iaload, 1) := by decide +kernel
theorem dL_law_1694 : decode cL_law 1694 = .ok (.sipush 360, 3) := by decide +kernel
theorem dL_law_1697 : decode cL_law 1697 = .ok (.idiv, 1) := by decide +kernel
theorem dL_law_1698 : decode cL_law 1698 = .ok (.if_icmp .ge 61, 3) := by decide +kernel
theorem dL_law_1701 : decode cL_law 1701 = .ok (.lload 26, 2) := by decide +kernel
theorem dL_law_1703 : decode cL_law 1703 = .ok (.aload 9, 2) := by decide +kernel
theorem dL_law_1705 : decode cL_law 1705 = .ok (.bipush 21, 2) := by decide +kernel
theorem dL_law_1707 : decode cL_law 1707 = .ok (.iload 25, 2) := by decide +kernel
theorem dL_law_1709 : decode cL_law 1709 = .ok (.imul, 1) := by decide +kernel
theorem dL_law_1710 : decode cL_law 1710 = .ok (.iload 32, 2) := by decide +kernel
theorem dL_law_1712 : decode cL_law 1712 = .ok (.iadd, 1) := by decide +kernel
theorem dL_law_1713 : decode cL_law 1713 = .ok (.laload, 1) := by decide +kernel
theorem dL_law_1714 : decode cL_law 1714 = .ok (.aload 11, 2) := by decide +kernel
theorem dL_law_1716 : decode cL_law 1716 = .ok (.bipush 22, 2) := by decide +kernel
theorem dL_law_1718 : decode cL_law 1718 = .ok (.iload 32, 2) := by decide +kernel
theorem dL_law_1720 : decode cL_law 1720 = .ok (.iadd, 1) := by decide +kernel
theorem dL_law_1721 : decode cL_law 1721 = .ok (.laload, 1) := by decide +kernel
theorem dL_law_1722 : decode cL_law 1722 = .ok (.ldc2_w 118, 3) := by decide +kernel
theorem dL_law_1725 : decode cL_law 1725 = .ok (.ldiv, 1) := by decide +kernel
theorem dL_law_1726 : decode cL_law 1726 = .ok (.lsub, 1) := by decide +kernel
theorem dL_law_1727 : decode cL_law 1727 = .ok (.ladd, 1) := by decide +kernel
theorem dL_law_1728 : decode cL_law 1728 = .ok (.lstore 26, 2) := by decide +kernel
theorem dL_law_1730 : decode cL_law 1730 = .ok (.aload 9, 2) := by decide +kernel
theorem dL_law_1732 : decode cL_law 1732 = .ok (.bipush 21, 2) := by decide +kernel
theorem dL_law_1734 : decode cL_law 1734 = .ok (.iload 25, 2) := by decide +kernel
theorem dL_law_1736 : decode cL_law 1736 = .ok (.imul, 1) := by decide +kernel
theorem dL_law_1737 : decode cL_law 1737 = .ok (.iload 32, 2) := by decide +kernel
theorem dL_law_1739 : decode cL_law 1739 = .ok (.iadd, 1) := by decide +kernel
theorem dL_law_1740 : decode cL_law 1740 = .ok (.aload 11, 2) := by decide +kernel
theorem dL_law_1742 : decode cL_law 1742 = .ok (.bipush 22, 2) := by decide +kernel
theorem dL_law_1744 : decode cL_law 1744 = .ok (.iload 32, 2) := by decide +kernel
theorem dL_law_1746 : decode cL_law 1746 = .ok (.iadd, 1) := by decide +kernel
theorem dL_law_1747 : decode cL_law 1747 = .ok (.laload, 1) := by decide +kernel
theorem dL_law_1748 : decode cL_law 1748 = .ok (.ldc2_w 118, 3) := by decide +kernel
theorem dL_law_1751 : decode cL_law 1751 = .ok (.ldiv, 1) := by decide +kernel
theorem dL_law_1752 : decode cL_law 1752 = .ok (.lastore, 1) := by decide +kernel
theorem dL_law_1753 : decode cL_law 1753 = .ok (.iinc 32 1, 3) := by decide +kernel
theorem dL_law_1756 : decode cL_law 1756 = .ok (.goto (-68), 3) := by decide +kernel
theorem dL_law_1759 : decode cL_law 1759 = .ok (.aload_n 3, 1) := by decide +kernel
theorem dL_law_1760 : decode cL_law 1760 = .ok (.bipush 12, 2) := by decide +kernel
theorem dL_law_1762 : decode cL_law 1762 = .ok (.iload 25, 2) := by decide +kernel
theorem dL_law_1764 : decode cL_law 1764 = .ok (.iadd, 1) := by decide +kernel
theorem dL_law_1765 : decode cL_law 1765 = .ok (.dup2, 1) := by decide +kernel
theorem dL_law_1766 : decode cL_law 1766 = .ok (.laload, 1) := by decide +kernel
theorem dL_law_1767 : decode cL_law 1767 = .ok (.lload 26, 2) := by decide +kernel
theorem dL_law_1769 : decode cL_law 1769 = .ok (.ladd, 1) := by decide +kernel
theorem dL_law_1770 : decode cL_law 1770 = .ok (.lastore, 1) := by decide +kernel
theorem dL_law_1771 : decode cL_law 1771 = .ok (.aload_n 1, 1) := by decide +kernel
theorem dL_law_1772 : decode cL_law 1772 = .ok (.bipush 7, 2) := by decide +kernel
theorem dL_law_1774 : decode cL_law 1774 = .ok (.iload 23, 2) := by decide +kernel
theorem dL_law_1776 : decode cL_law 1776 = .ok (.iconst 0, 1) := by decide +kernel
theorem dL_law_1777 : decode cL_law 1777 = .ok (.iconst 0, 1) := by decide +kernel
theorem dL_law_1778 : decode cL_law 1778 = .ok (.invokestatic 122, 3) := by decide +kernel
theorem dL_law_1781 : decode cL_law 1781 = .ok (.iload 23, 2) := by decide +kernel
theorem dL_law_1783 : decode cL_law 1783 = .ok (.aload 12, 2) := by decide +kernel
theorem dL_law_1785 : decode cL_law 1785 = .ok (.iconst 2, 1) := by decide +kernel
theorem dL_law_1786 : decode cL_law 1786 = .ok (.iaload, 1) := by decide +kernel
theorem dL_law_1787 : decode cL_law 1787 = .ok (.if_icmp .ne 9, 3) := by decide +kernel
theorem dL_law_1790 : decode cL_law 1790 = .ok (.ldc2_w 59, 3) := by decide +kernel
theorem dL_law_1793 : decode cL_law 1793 = .ok (.goto 16, 3) := by decide +kernel
theorem dL_law_1796 : decode cL_law 1796 = .ok (.iload 28, 2) := by decide +kernel
theorem dL_law_1798 : decode cL_law 1798 = .ok (.ifCond .eq 8, 3) := by decide +kernel
theorem dL_law_1801 : decode cL_law 1801 = .ok (.lload 26, 2) := by decide +kernel
theorem dL_law_1803 : decode cL_law 1803 = .ok (.goto 6, 3) := by decide +kernel
theorem dL_law_1806 : decode cL_law 1806 = .ok (.ldc2_w 67, 3) := by decide +kernel
theorem dL_law_1809 : decode cL_law 1809 = .ok (.lcmp, 1) := by decide +kernel
theorem dL_law_1810 : decode cL_law 1810 = .ok (.ifCond .ne 7, 3) := by decide +kernel
theorem dL_law_1813 : decode cL_law 1813 = .ok (.iconst 1, 1) := by decide +kernel
theorem dL_law_1814 : decode cL_law 1814 = .ok (.goto 4, 3) := by decide +kernel
theorem dL_law_1817 : decode cL_law 1817 = .ok (.iconst 0, 1) := by decide +kernel
theorem dL_law_1818 : decode cL_law 1818 = .ok (.istore 13, 2) := by decide +kernel
theorem dL_law_1820 : decode cL_law 1820 = .ok (.goto 326, 3) := by decide +kernel
theorem dL_law_1823 : decode cL_law 1823 = .ok (.iload 15, 2) := by decide +kernel
theorem dL_law_1825 : decode cL_law 1825 = .ok (.bipush 30, 2) := by decide +kernel
theorem dL_law_1827 : decode cL_law 1827 = .ok (.if_icmp .ge 319, 3) := by decide +kernel
theorem dL_law_1830 : decode cL_law 1830 = .ok (.iload 16, 2) := by decide +kernel
theorem dL_law_1832 : decode cL_law 1832 = .ok (.iconst 3, 1) := by decide +kernel
theorem dL_law_1833 : decode cL_law 1833 = .ok (.irem, 1) := by decide +kernel
theorem dL_law_1834 : decode cL_law 1834 = .ok (.ifCond .ne 14, 3) := by decide +kernel
theorem dL_law_1837 : decode cL_law 1837 = .ok (.iconst 1, 1) := by decide +kernel
theorem dL_law_1838 : decode cL_law 1838 = .ok (.iload 16, 2) := by decide +kernel
theorem dL_law_1840 : decode cL_law 1840 = .ok (.sipush 400, 3) := by decide +kernel
theorem dL_law_1843 : decode cL_law 1843 = .ok (.irem, 1) := by decide +kernel
theorem dL_law_1844 : decode cL_law 1844 = .ok (.iadd, 1) := by decide +kernel
theorem dL_law_1845 : decode cL_law 1845 = .ok (.goto 33, 3) := by decide +kernel
theorem dL_law_1848 : decode cL_law 1848 = .ok (.iload 16, 2) := by decide +kernel
theorem dL_law_1850 : decode cL_law 1850 = .ok (.iconst 3, 1) := by decide +kernel
theorem dL_law_1851 : decode cL_law 1851 = .ok (.irem, 1) := by decide +kernel
theorem dL_law_1852 : decode cL_law 1852 = .ok (.iconst 1, 1) := by decide +kernel
theorem dL_law_1853 : decode cL_law 1853 = .ok (.if_icmp .ne 18, 3) := by decide +kernel
theorem dL_law_1856 : decode cL_law 1856 = .ok (.sipush 360, 3) := by decide +kernel
theorem dL_law_1859 : decode cL_law 1859 = .ok (.aload 12, 2) := by decide +kernel
theorem dL_law_1861 : decode cL_law 1861 = .ok (.iconst 0, 1) := by decide +kernel
theorem dL_law_1862 : decode cL_law 1862 = .ok (.iaload, 1) := by decide +kernel
theorem dL_law_1863 : decode cL_law 1863 = .ok (.sipush 360, 3) := by decide +kernel
theorem dL_law_1866 : decode cL_law 1866 = .ok (.irem, 1) := by decide +kernel
theorem dL_law_1867 : decode cL_law 1867 = .ok (.isub, 1) := by decide +kernel
theorem dL_law_1868 : decode cL_law 1868 = .ok (.goto 10, 3) := by decide +kernel
theorem dL_law_1871 : decode cL_law 1871 = .ok (.iconst 1, 1) := by decide +kernel
theorem dL_law_1872 : decode cL_law 1872 = .ok (.iload 16, 2) := by decide +kernel
theorem dL_law_1874 : decode cL_law 1874 = .ok (.bipush 9, 2) := by decide +kernel
theorem dL_law_1876 : decode cL_law 1876 = .ok (.irem, 1) := by decide +kernel
theorem dL_law_1877 : decode cL_law 1877 = .ok (.iadd, 1) := by decide +kernel
theorem dL_law_1878 : decode cL_law 1878 = .ok (.istore 23, 2) := by decide +kernel
theorem dL_law_1880 : decode cL_law 1880 = .ok (.aload 12, 2) := by decide +kernel
theorem dL_law_1882 : decode cL_law 1882 = .ok (.iconst 0, 1) := by decide +kernel
theorem dL_law_1883 : decode cL_law 1883 = .ok (.iaload, 1) := by decide +kernel
theorem dL_law_1884 : decode cL_law 1884 = .ok (.iload 23, 2) := by decide +kernel
theorem dL_law_1886 : decode cL_law 1886 = .ok (.iadd, 1) := by decide +kernel
theorem dL_law_1887 : decode cL_law 1887 = .ok (.sipush 7200, 3) := by decide +kernel
theorem dL_law_1890 : decode cL_law 1890 = .ok (.if_icmp .gt 7, 3) := by decide +kernel
theorem dL_law_1893 : decode cL_law 1893 = .ok (.iconst 1, 1) := by decide +kernel
theorem dL_law_1894 : decode cL_law 1894 = .ok (.goto 4, 3) := by decide +kernel
theorem dL_law_1897 : decode cL_law 1897 = .ok (.iconst 0, 1) := by decide +kernel
theorem dL_law_1898 : decode cL_law 1898 = .ok (.istore 24, 2) := by decide +kernel
theorem dL_law_1900 : decode cL_law 1900 = .ok (.iconst 0, 1) := by decide +kernel
theorem dL_law_1901 : decode cL_law 1901 = .ok (.istore 25, 2) := by decide +kernel
theorem dL_law_1903 : decode cL_law 1903 = .ok (.iload 25, 2) := by decide +kernel
theorem dL_law_1905 : decode cL_law 1905 = .ok (.iload 23, 2) := by decide +kernel
theorem dL_law_1907 : decode cL_law 1907 = .ok (.if_icmp .ge 202, 3) := by decide +kernel
theorem dL_law_1910 : decode cL_law 1910 = .ok (.iload 24, 2) := by decide +kernel
theorem dL_law_1912 : decode cL_law 1912 = .ok (.ifCond .eq 197, 3) := by decide +kernel
theorem dL_law_1915 : decode cL_law 1915 = .ok (.iconst 0, 1) := by decide +kernel
theorem dL_law_1916 : decode cL_law 1916 = .ok (.istore 26, 2) := by decide +kernel
theorem dL_law_1918 : decode cL_law 1918 = .ok (.iload 26, 2) := by decide +kernel
theorem dL_law_1920 : decode cL_law 1920 = .ok (.bipush 6, 2) := by decide +kernel
theorem dL_law_1922 : decode cL_law 1922 = .ok (.if_icmp .ge 62, 3) := by decide +kernel
theorem dL_law_1925 : decode cL_law 1925 = .ok (.aload_n 3, 1) := by decide +kernel
theorem dL_law_1926 : decode cL_law 1926 = .ok (.bipush 6, 2) := by decide +kernel
theorem dL_law_1928 : decode cL_law 1928 = .ok (.iload 26, 2) := by decide +kernel
theorem dL_law_1930 : decode cL_law 1930 = .ok (.iadd, 1) := by decide +kernel
theorem dL_law_1931 : decode cL_law 1931 = .ok (.laload, 1) := by decide +kernel
theorem dL_law_1932 : decode cL_law 1932 = .ok (.ldc2_w 81, 3) := by decide +kernel
theorem dL_law_1935 : decode cL_law 1935 = .ok (.ldiv, 1) := by decide +kernel
theorem dL_law_1936 : decode cL_law 1936 = .ok (.lstore 27, 2) := by decide +kernel
theorem dL_law_1938 : decode cL_law 1938 = .ok (.aload_n 3, 1) := by decide +kernel
theorem dL_law_1939 : decode cL_law 1939 = .ok (.iload 26, 2) := by decide +kernel
theorem dL_law_1941 : decode cL_law 1941 = .ok (.dup2, 1) := by decide +kernel
theorem dL_law_1942 : decode cL_law 1942 = .ok (.laload, 1) := by decide +kernel
theorem dL_law_1943 : decode cL_law 1943 = .ok (.lload 27, 2) := by decide +kernel
theorem dL_law_1945 : decode cL_law 1945 = .ok (.lsub, 1) := by decide +kernel
theorem dL_law_1946 : decode cL_law 1946 = .ok (.lastore, 1) := by decide +kernel
theorem dL_law_1947 : decode cL_law 1947 = .ok (.aload_n 3, 1) := by decide +kernel
theorem dL_law_1948 : decode cL_law 1948 = .ok (.bipush 6, 2) := by decide +kernel
theorem dL_law_1950 : decode cL_law 1950 = .ok (.iload 26, 2) := by decide +kernel
theorem dL_law_1952 : decode cL_law 1952 = .ok (.iadd, 1) := by decide +kernel
theorem dL_law_1953 : decode cL_law 1953 = .ok (.dup2, 1) := by decide +kernel
theorem dL_law_1954 : decode cL_law 1954 = .ok (.laload, 1) := by decide +kernel
theorem dL_law_1955 : decode cL_law 1955 = .ok (.ldc2_w 81, 3) := by decide +kernel
theorem dL_law_1958 : decode cL_law 1958 = .ok (.lload 27, 2) := by decide +kernel
theorem dL_law_1960 : decode cL_law 1960 = .ok (.lmul, 1) := by decide +kernel
theorem dL_law_1961 : decode cL_law 1961 = .ok (.lsub, 1) := by decide +kernel
theorem dL_law_1962 : decode cL_law 1962 = .ok (.lastore, 1) := by decide +kernel
theorem dL_law_1963 : decode cL_law 1963 = .ok (.aload_n 3, 1) := by decide +kernel
theorem dL_law_1964 : decode cL_law 1964 = .ok (.bipush 15, 2) := by decide +kernel
theorem dL_law_1966 : decode cL_law 1966 = .ok (.dup2, 1) := by decide +kernel
theorem dL_law_1967 : decode cL_law 1967 = .ok (.laload, 1) := by decide +kernel
theorem dL_law_1968 : decode cL_law 1968 = .ok (.lload 27, 2) := by decide +kernel
theorem dL_law_1970 : decode cL_law 1970 = .ok (.aload_n 2, 1) := by decide +kernel
theorem dL_law_1971 : decode cL_law 1971 = .ok (.iload 26, 2) := by decide +kernel
theorem dL_law_1973 : decode cL_law 1973 = .ok (.iaload, 1) := by decide +kernel
theorem dL_law_1974 : decode cL_law 1974 = .ok (.i2l, 1) := by decide +kernel
theorem dL_law_1975 : decode cL_law 1975 = .ok (.lmul, 1) := by decide +kernel
theorem dL_law_1976 : decode cL_law 1976 = .ok (.ladd, 1) := by decide +kernel
theorem dL_law_1977 : decode cL_law 1977 = .ok (.lastore, 1) := by decide +kernel
theorem dL_law_1978 : decode cL_law 1978 = .ok (.iinc 26 1, 3) := by decide +kernel
theorem dL_law_1981 : decode cL_law 1981 = .ok (.goto (-63), 3) := by decide +kernel
theorem dL_law_1984 : decode cL_law 1984 = .ok (.aload 12, 2) := by decide +kernel
theorem dL_law_1986 : decode cL_law 1986 = .ok (.iconst 0, 1) := by decide +kernel
theorem dL_law_1987 : decode cL_law 1987 = .ok (.dup2, 1) := by decide +kernel
theorem dL_law_1988 : decode cL_law 1988 = .ok (.iaload, 1) := by decide +kernel
theorem dL_law_1989 : decode cL_law 1989 = .ok (.iconst 1, 1) := by decide +kernel
theorem dL_law_1990 : decode cL_law 1990 = .ok (.iadd, 1) := by decide +kernel
theorem dL_law_1991 : decode cL_law 1991 = .ok (.iastore, 1) := by decide +kernel
theorem dL_law_1992 : decode cL_law 1992 = .ok (.iconst 0, 1) := by decide +kernel
theorem dL_law_1993 : decode cL_law 1993 = .ok (.istore 26, 2) := by decide +kernel
theorem dL_law_1995 : decode cL_law 1995 = .ok (.iload 26, 2) := by decide +kernel
theorem dL_law_1997 : decode cL_law 1997 = .ok (.aload 12, 2) := by decide +kernel
theorem dL_law_1999 : decode cL_law 1999 = .ok (.iconst 1, 1) := by decide +kernel
theorem dL_law_2000 : decode cL_law 2000 = .ok (.iaload, 1) := by decide +kernel
theorem dL_law_2001 : decode cL_law 2001 = .ok (.if_icmp .ge 102, 3) := by decide +kernel
theorem dL_law_2004 : decode cL_law 2004 = .ok (.aload 12, 2) := by decide +kernel
theorem dL_law_2006 : decode cL_law 2006 = .ok (.iconst 0, 1) := by decide +kernel
theorem dL_law_2007 : decode cL_law 2007 = .ok (.iaload, 1) := by decide +kernel
theorem dL_law_2008 : decode cL_law 2008 = .ok (.sipush 360, 3) := by decide +kernel
theorem dL_law_2011 : decode cL_law 2011 = .ok (.irem, 1) := by decide +kernel
theorem dL_law_2012 : decode cL_law 2012 = .ok (.ifCond .ne 91, 3) := by decide +kernel
theorem dL_law_2015 : decode cL_law 2015 = .ok (.aload 6, 2) := by decide +kernel
theorem dL_law_2017 : decode cL_law 2017 = .ok (.aload 7, 2) := by decide +kernel
theorem dL_law_2019 : decode cL_law 2019 = .ok (.aload 8, 2) := by decide +kernel
theorem dL_law_2021 : decode cL_law 2021 = .ok (.aload 12, 2) := by decide +kernel
theorem dL_law_2023 : decode cL_law 2023 = .ok (.aload 10, 2) := by decide +kernel
theorem dL_law_2025 : decode cL_law 2025 = .ok (.aload 11, 2) := by decide +kernel
theorem dL_law_2027 : decode cL_law 2027 = .ok (.iload 26, 2) := by decide +kernel
theorem dL_law_2029 : decode cL_law 2029 = .ok (.invokestatic 114, 3) := by decide +kernel
theorem dL_law_2032 : decode cL_law 2032 = .ok (.aload 9, 2) := by decide +kernel
theorem dL_law_2034 : decode cL_law 2034 = .ok (.bipush 21, 2) := by decide +kernel
theorem dL_law_2036 : decode cL_law 2036 = .ok (.iload 26, 2) := by decide +kernel
theorem dL_law_2038 : decode cL_law 2038 = .ok (.imul, 1) := by decide +kernel
theorem dL_law_2039 : decode cL_law 2039 = .ok (.aload 12, 2) := by decide +kernel
theorem dL_law_2041 : decode cL_law 2041 = .ok (.iconst 0, 1) := by decide +kernel
theorem dL_law_2042 : decode cL_law 2042 = .ok (.iaload, 1) := by decide +kernel
theorem dL_law_2043 : decode cL_law 2043 = .ok (.sipush 360, 3) := by decide +kernel
theorem dL_law_2046 : decode cL_law 2046 = .ok (.idiv, 1) := by decide +kernel
theorem dL_law_2047 : decode cL_law 2047 = .ok (.iadd, 1) := by decide +kernel
theorem dL_law_2048 : decode cL_law 2048 = .ok (.iconst 1, 1) := by decide +kernel
theorem dL_law_2049 : decode cL_law 2049 = .ok (.isub, 1) := by decide +kernel
theorem dL_law_2050 : decode cL_law 2050 = .ok (.aload 11, 2) := by decide +kernel
theorem dL_law_2052 : decode cL_law 2052 = .ok (.bipush 21, 2) := by decide +kernel
theorem dL_law_2054 : decode cL_law 2054 = .ok (.aload 12, 2) := by decide +kernel
theorem dL_law_2056 : decode cL_law 2056 = .ok (.iconst 0, 1) := by decide +kernel
theorem dL_law_2057 : decode cL_law 2057 = .ok (.iaload, 1) := by decide +kernel
theorem dL_law_2058 : decode cL_law 2058 = .ok (.sipush 360, 3) := by decide +kernel
theorem dL_law_2061 : decode cL_law 2061 = .ok (.idiv, 1) := by decide +kernel
theorem dL_law_2062 : decode cL_law 2062 = .ok (.iadd, 1) := by decide +kernel
theorem dL_law_2063 : decode cL_law 2063 = .ok (.laload, 1) := by decide +kernel
theorem dL_law_2064 : decode cL_law 2064 = .ok (.ldc2_w 118, 3) := by decide +kernel
theorem dL_law_2067 : decode cL_law 2067 = .ok (.ldiv, 1) := by decide +kernel
theorem dL_law_2068 : decode cL_law 2068 = .ok (.lastore, 1) := by decide +kernel
theorem dL_law_2069 : decode cL_law 2069 = .ok (.aload_n 3, 1) := by decide +kernel
theorem dL_law_2070 : decode cL_law 2070 = .ok (.bipush 12, 2) := by decide +kernel
theorem dL_law_2072 : decode cL_law 2072 = .ok (.iload 26, 2) := by decide +kernel
theorem dL_law_2074 : decode cL_law 2074 = .ok (.iadd, 1) := by decide +kernel
theorem dL_law_2075 : decode cL_law 2075 = .ok (.dup2, 1) := by decide +kernel
theorem dL_law_2076 : decode cL_law 2076 = .ok (.laload, 1) := by decide +kernel
theorem dL_law_2077 : decode cL_law 2077 = .ok (.aload 11, 2) := by decide +kernel
theorem dL_law_2079 : decode cL_law 2079 = .ok (.bipush 21, 2) := by decide +kernel
theorem dL_law_2081 : decode cL_law 2081 = .ok (.aload 12, 2) := by decide +kernel
theorem dL_law_2083 : decode cL_law 2083 = .ok (.iconst 0, 1) := by decide +kernel
theorem dL_law_2084 : decode cL_law 2084 = .ok (.iaload, 1) := by decide +kernel
theorem dL_law_2085 : decode cL_law 2085 = .ok (.sipush 360, 3) := by decide +kernel
theorem dL_law_2088 : decode cL_law 2088 = .ok (.idiv, 1) := by decide +kernel
theorem dL_law_2089 : decode cL_law 2089 = .ok (.iadd, 1) := by decide +kernel
theorem dL_law_2090 : decode cL_law 2090 = .ok (.laload, 1) := by decide +kernel
theorem dL_law_2091 : decode cL_law 2091 = .ok (.ldc2_w 118, 3) := by decide +kernel
theorem dL_law_2094 : decode cL_law 2094 = .ok (.ldiv, 1) := by decide +kernel
theorem dL_law_2095 : decode cL_law 2095 = .ok (.lsub, 1) := by decide +kernel
theorem dL_law_2096 : decode cL_law 2096 = .ok (.lastore, 1) := by decide +kernel
theorem dL_law_2097 : decode cL_law 2097 = .ok (.iinc 26 1, 3) := by decide +kernel
theorem dL_law_2100 : decode cL_law 2100 = .ok (.goto (-105), 3) := by decide +kernel
theorem dL_law_2103 : decode cL_law 2103 = .ok (.iinc 25 1, 3) := by decide +kernel
theorem dL_law_2106 : decode cL_law 2106 = .ok (.goto (-203), 3) := by decide +kernel
theorem dL_law_2109 : decode cL_law 2109 = .ok (.aload_n 1, 1) := by decide +kernel
theorem dL_law_2110 : decode cL_law 2110 = .ok (.bipush 8, 2) := by decide +kernel
theorem dL_law_2112 : decode cL_law 2112 = .ok (.iload 23, 2) := by decide +kernel
theorem dL_law_2114 : decode cL_law 2114 = .ok (.iconst 0, 1) := by decide +kernel
theorem dL_law_2115 : decode cL_law 2115 = .ok (.iconst 0, 1) := by decide +kernel
theorem dL_law_2116 : decode cL_law 2116 = .ok (.invokestatic 122, 3) := by decide +kernel
theorem dL_law_2119 : decode cL_law 2119 = .ok (.iload 24, 2) := by decide +kernel
theorem dL_law_2121 : decode cL_law 2121 = .ok (.ifCond .eq 11, 3) := by decide +kernel
theorem dL_law_2124 : decode cL_law 2124 = .ok (.aload 12, 2) := by decide +kernel
theorem dL_law_2126 : decode cL_law 2126 = .ok (.iconst 0, 1) := by decide +kernel
theorem dL_law_2127 : decode cL_law 2127 = .ok (.iaload, 1) := by decide +kernel
theorem dL_law_2128 : decode cL_law 2128 = .ok (.i2l, 1) := by decide +kernel
theorem dL_law_2129 : decode cL_law 2129 = .ok (.goto 6, 3) := by decide +kernel
theorem dL_law_2132 : decode cL_law 2132 = .ok (.ldc2_w 67, 3) := by decide +kernel
theorem dL_law_2135 : decode cL_law 2135 = .ok (.lcmp, 1) := by decide +kernel
theorem dL_law_2136 : decode cL_law 2136 = .ok (.ifCond .ne 7, 3) := by decide +kernel
theorem dL_law_2139 : decode cL_law 2139 = .ok (.iconst 1, 1) := by decide +kernel
theorem dL_law_2140 : decode cL_law 2140 = .ok (.goto 4, 3) := by decide +kernel
theorem dL_law_2143 : decode cL_law 2143 = .ok (.iconst 0, 1) := by decide +kernel
theorem dL_law_2144 : decode cL_law 2144 = .ok (.istore 13, 2) := by decide +kernel
theorem dL_law_2146 : decode cL_law 2146 = .ok (.iload 13, 2) := by decide +kernel
theorem dL_law_2148 : decode cL_law 2148 = .ok (.ifCond .eq 36, 3) := by decide +kernel
theorem dL_law_2151 : decode cL_law 2151 = .ok (.aload_n 1, 1) := by decide +kernel
theorem dL_law_2152 : decode cL_law 2152 = .ok (.aload_n 2, 1) := by decide +kernel
theorem dL_law_2153 : decode cL_law 2153 = .ok (.aload_n 3, 1) := by decide +kernel
theorem dL_law_2154 : decode cL_law 2154 = .ok (.aload 4, 2) := by decide +kernel
theorem dL_law_2156 : decode cL_law 2156 = .ok (.aload 6, 2) := by decide +kernel
theorem dL_law_2158 : decode cL_law 2158 = .ok (.aload 7, 2) := by decide +kernel
theorem dL_law_2160 : decode cL_law 2160 = .ok (.aload 8, 2) := by decide +kernel
theorem dL_law_2162 : decode cL_law 2162 = .ok (.aload 12, 2) := by decide +kernel
theorem dL_law_2164 : decode cL_law 2164 = .ok (.aload 10, 2) := by decide +kernel
theorem dL_law_2166 : decode cL_law 2166 = .ok (.aload 11, 2) := by decide +kernel
theorem dL_law_2168 : decode cL_law 2168 = .ok (.aload 9, 2) := by decide +kernel
theorem dL_law_2170 : decode cL_law 2170 = .ok (.iload 16, 2) := by decide +kernel
theorem dL_law_2172 : decode cL_law 2172 = .ok (.iload 17, 2) := by decide +kernel
theorem dL_law_2174 : decode cL_law 2174 = .ok (.invokestatic 144, 3) := by decide +kernel
theorem dL_law_2177 : decode cL_law 2177 = .ok (.ifCond .eq 7, 3) := by decide +kernel
theorem dL_law_2180 : decode cL_law 2180 = .ok (.iconst 1, 1) := by decide +kernel
theorem dL_law_2181 : decode cL_law 2181 = .ok (.goto 4, 3) := by decide +kernel
theorem dL_law_2184 : decode cL_law 2184 = .ok (.iconst 0, 1) := by decide +kernel
theorem dL_law_2185 : decode cL_law 2185 = .ok (.istore 13, 2) := by decide +kernel
theorem dL_law_2187 : decode cL_law 2187 = .ok (.iinc 14 1, 3) := by decide +kernel
theorem dL_law_2190 : decode cL_law 2190 = .ok (.goto (-1978), 3) := by decide +kernel
theorem dL_law_2193 : decode cL_law 2193 = .ok (.iload 13, 2) := by decide +kernel
theorem dL_law_2195 : decode cL_law 2195 = .ok (.ireturn, 1) := by decide +kernel
abbrev vwCl : List vw_C := [(RJx4a65c, TJx4a65c, 3), (RX0, TX0, 5), (RX1, TX1, 4), (RX2, TX2, 4), (RX3, TX3, 9), (RX4, TX4, 5)]
