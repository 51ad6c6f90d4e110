theorem dL_law_1594 : decode cL_law 1594 = .ok (.aload_n 0, 1) := by decide +kernel
theorem dL_law_1595 : decode cL_law 1595 = .ok (.iload 5, 2) := by decide +kernel
theorem dL_law_1597 : decode cL_law 1597 = .ok (.iconst 1, 1) := by decide +kernel
theorem dL_law_1598 : decode cL_law 1598 = .ok (.iadd, 1) := by decide +kernel
theorem dL_law_1599 : decode cL_law 1599 = .ok (.iaload, 1) := by decide +kernel
theorem dL_law_1600 : decode cL_law 1600 = .ok (.aload_n 3, 1) := by decide +kernel
theorem dL_law_1601 : decode cL_law 1601 = .ok (.invokestatic 237, 3) := by decide +kernel
theorem dL_law_1604 : decode cL_law 1604 = .ok (.istore 6, 2) := by decide +kernel
theorem dL_law_1606 : decode cL_law 1606 = .ok (.aload_n 2, 1) := by decide +kernel
theorem dL_law_1607 : decode cL_law 1607 = .ok (.aload_n 0, 1) := by decide +kernel
theorem dL_law_1608 : decode cL_law 1608 = .ok (.iload 5, 2) := by decide +kernel
theorem dL_law_1610 : decode cL_law 1610 = .ok (.iconst 1, 1) := by decide +kernel
theorem dL_law_1611 : decode cL_law 1611 = .ok (.iadd, 1) := by decide +kernel
theorem dL_law_1612 : decode cL_law 1612 = .ok (.iaload, 1) := by decide +kernel
theorem dL_law_1613 : decode cL_law 1613 = .ok (.invokevirtual 239, 3) := by decide +kernel
theorem dL_law_1616 : decode cL_law 1616 = .ok (.istore 7, 2) := by decide +kernel
theorem dL_law_1618 : decode cL_law 1618 = .ok (.aload_n 2, 1) := by decide +kernel
theorem dL_law_1619 : decode cL_law 1619 = .ok (.invokevirtual 157, 3) := by decide +kernel
theorem dL_law_1622 : decode cL_law 1622 = .ok (.iload 6, 2) := by decide +kernel
theorem dL_law_1624 : decode cL_law 1624 = .ok (.if_icmp .eq 5, 3) := by decide +kernel
theorem dL_law_1627 : decode cL_law 1627 = .ok (.iconst 0, 1) := by decide +kernel
theorem dL_law_1628 : decode cL_law 1628 = .ok (.ireturn, 1) := by decide +kernel
theorem dL_law_1629 : decode cL_law 1629 = .ok (.iload 6, 2) := by decide +kernel
theorem dL_law_1631 : decode cL_law 1631 = .ok (.ifCond .ne 15, 3) := by decide +kernel
theorem dL_law_1634 : decode cL_law 1634 = .ok (.aload_n 3, 1) := by decide +kernel
theorem dL_law_1635 : decode cL_law 1635 = .ok (.iconst 0, 1) := by decide +kernel
theorem dL_law_1636 : decode cL_law 1636 = .ok (.laload, 1) := by decide +kernel
theorem dL_law_1637 : decode cL_law 1637 = .ok (.iload 7, 2) := by decide +kernel
theorem dL_law_1639 : decode cL_law 1639 = .ok (.i2l, 1) := by decide +kernel
theorem dL_law_1640 : decode cL_law 1640 = .ok (.lcmp, 1) := by decide +kernel
theorem dL_law_1641 : decode cL_law 1641 = .ok (.ifCond .eq 5, 3) := by decide +kernel
theorem dL_law_1644 : decode cL_law 1644 = .ok (.iconst 0, 1) := by decide +kernel
theorem dL_law_1645 : decode cL_law 1645 = .ok (.ireturn, 1) := by decide +kernel
theorem dL_law_1646 : decode cL_law 1646 = .ok (.goto 1015, 3) := by decide +kernel
theorem dL_law_1649 : decode cL_law 1649 = .ok (.aload_n 1, 1) := by decide +kernel
theorem dL_law_1650 : decode cL_law 1650 = .ok (.aload_n 0, 1) := by decide +kernel
theorem dL_law_1651 : decode cL_law 1651 = .ok (.iload 5, 2) := by decide +kernel
theorem dL_law_1653 : decode cL_law 1653 = .ok (.iconst 1, 1) := by decide +kernel
theorem dL_law_1654 : decode cL_law 1654 = .ok (.iadd, 1) := by decide +kernel
theorem dL_law_1655 : decode cL_law 1655 = .ok (.iaload, 1) := by decide +kernel
theorem dL_law_1656 : decode cL_law 1656 = .ok (.aload_n 3, 1) := by decide +kernel
theorem dL_law_1657 : decode cL_law 1657 = .ok (.invokestatic 240, 3) := by decide +kernel
theorem dL_law_1660 : decode cL_law 1660 = .ok (.istore 6, 2) := by decide +kernel
theorem dL_law_1662 : decode cL_law 1662 = .ok (.aload_n 2, 1) := by decide +kernel
theorem dL_law_1663 : decode cL_law 1663 = .ok (.aload_n 0, 1) := by decide +kernel
theorem dL_law_1664 : decode cL_law 1664 = .ok (.iload 5, 2) := by decide +kernel
theorem dL_law_1666 : decode cL_law 1666 = .ok (.iconst 1, 1) := by decide +kernel
theorem dL_law_1667 : decode cL_law 1667 = .ok (.iadd, 1) := by decide +kernel
theorem dL_law_1668 : decode cL_law 1668 = .ok (.iaload, 1) := by decide +kernel
theorem dL_law_1669 : decode cL_law 1669 = .ok (.invokevirtual 242, 3) := by decide +kernel
theorem dL_law_1672 : decode cL_law 1672 = .ok (.istore 7, 2) := by decide +kernel
theorem dL_law_1674 : decode cL_law 1674 = .ok (.aload_n 2, 1) := by decide +kernel
theorem dL_law_1675 : decode cL_law 1675 = .ok (.invokevirtual 157, 3) := by decide +kernel
theorem dL_law_1678 : decode cL_law 1678 = .ok (.iload 6, 2) := by decide +kernel
theorem dL_law_1680 : decode cL_law 1680 = .ok (.if_icmp .eq 5, 3) := by decide +kernel
theorem dL_law_1683 : decode cL_law 1683 = .ok (.iconst 0, 1) := by decide +kernel
theorem dL_law_1684 : decode cL_law 1684 = .ok (.ireturn, 1) := by decide +kernel
theorem dL_law_1685 : decode cL_law 1685 = .ok (.iload 6, 2) := by decide +kernel
theorem dL_law_1687 : decode cL_law 1687 = .ok (.ifCond .ne 15, 3) := by decide +kernel
theorem dL_law_1690 : decode cL_law 1690 = .ok (.aload_n 3, 1) := by decide +kernel
theorem dL_law_1691 : decode cL_law 1691 = .ok (.iconst 0, 1) := by decide +kernel
theorem dL_law_1692 : decode cL_law 1692 = .ok (.laload, 1) := by decide +kernel
theorem dL_law_1693 : decode cL_law 1693 = .ok (.iload 7, 2) := by decide +kernel
theorem dL_law_1695 : decode cL_law 1695 = .ok (.i2l, 1) := by decide +kernel
theorem dL_law_1696 : decode cL_law 1696 = .ok (.lcmp, 1) := by decide +kernel
theorem dL_law_1697 : decode cL_law 1697 = .ok (.ifCond .eq 5, 3) := by decide +kernel
theorem dL_law_1700 : decode cL_law 1700 = .ok (.iconst 0, 1) := by decide +kernel
theorem dL_law_1701 : decode cL_law 1701 = .ok (.ireturn, 1) := by decide +kernel
theorem dL_law_1702 : decode cL_law 1702 = .ok (.goto 959, 3) := by decide +kernel
theorem dL_law_1705 : decode cL_law 1705 = .ok (.aload_n 1, 1) := by decide +kernel
theorem dL_law_1706 : decode cL_law 1706 = .ok (.aload_n 0, 1) := by decide +kernel
theorem dL_law_1707 : decode cL_law 1707 = .ok (.iload 5, 2) := by decide +kernel
theorem dL_law_1709 : decode cL_law 1709 = .ok (.iconst 1, 1) := by decide +kernel
theorem dL_law_1710 : decode cL_law 1710 = .ok (.iadd, 1) := by decide +kernel
theorem dL_law_1711 : decode cL_law 1711 = .ok (.iaload, 1) := by decide +kernel
theorem dL_law_1712 : decode cL_law 1712 = .ok (.aload_n 3, 1) := by decide +kernel
theorem dL_law_1713 : decode cL_law 1713 = .ok (.invokestatic 243, 3) := by decide +kernel
theorem dL_law_1716 : decode cL_law 1716 = .ok (.istore 6, 2) := by decide +kernel
theorem dL_law_1718 : decode cL_law 1718 = .ok (.aload_n 2, 1) := by decide +kernel
theorem dL_law_1719 : decode cL_law 1719 = .ok (.aload_n 0, 1) := by decide +kernel
theorem dL_law_1720 : decode cL_law 1720 = .ok (.iload 5, 2) := by decide +kernel
theorem dL_law_1722 : decode cL_law 1722 = .ok (.iconst 1, 1) := by decide +kernel
theorem dL_law_1723 : decode cL_law 1723 = .ok (.iadd, 1) := by decide +kernel
theorem dL_law_1724 : decode cL_law 1724 = .ok (.iaload, 1) := by decide +kernel
theorem dL_law_1725 : decode cL_law 1725 = .ok (.invokevirtual 245, 3) := by decide +kernel
theorem dL_law_1728 : decode cL_law 1728 = .ok (.istore 7, 2) := by decide +kernel
theorem dL_law_1730 : decode cL_law 1730 = .ok (.aload_n 2, 1) := by decide +kernel
theorem dL_law_1731 : decode cL_law 1731 = .ok (.invokevirtual 157, 3) := by decide +kernel
theorem dL_law_1734 : decode cL_law 1734 = .ok (.iload 6, 2) := by decide +kernel
theorem dL_law_1736 : decode cL_law 1736 = .ok (.if_icmp .eq 5, 3) := by decide +kernel
theorem dL_law_1739 : decode cL_law 1739 = .ok (.iconst 0, 1) := by decide +kernel
theorem dL_law_1740 : decode cL_law 1740 = .ok (.ireturn, 1) := by decide +kernel
theorem dL_law_1741 : decode cL_law 1741 = .ok (.iload 6, 2) := by decide +kernel
theorem dL_law_1743 : decode cL_law 1743 = .ok (.ifCond .ne 15, 3) := by decide +kernel
theorem dL_law_1746 : decode cL_law 1746 = .ok (.aload_n 3, 1) := by decide +kernel
theorem dL_law_1747 : decode cL_law 1747 = .ok (.iconst 0, 1) := by decide +kernel
theorem dL_law_1748 : decode cL_law 1748 = .ok (.laload, 1) := by decide +kernel
theorem dL_law_1749 : decode cL_law 1749 = .ok (.iload 7, 2) := by decide +kernel
theorem dL_law_1751 : decode cL_law 1751 = .ok (.i2l, 1) := by decide +kernel
theorem dL_law_1752 : decode cL_law 1752 = .ok (.lcmp, 1) := by decide +kernel
theorem dL_law_1753 : decode cL_law 1753 = .ok (.ifCond .eq 5, 3) := by decide +kernel
theorem dL_law_1756 : decode cL_law 1756 = .ok (.iconst 0, 1) := by decide +kernel
theorem dL_law_1757 : decode cL_law 1757 = .ok (.ireturn, 1) := by decide +kernel
theorem dL_law_1758 : decode cL_law 1758 = .ok (.goto 903, 3) := by decide +kernel
theorem dL_law_1761 : decode cL_law 1761 = .ok (.aload_n 1, 1) := by decide +kernel
theorem dL_law_1762 : decode cL_law 1762 = .ok (.aload_n 0, 1) := by decide +kernel
theorem dL_law_1763 : decode cL_law 1763 = .ok (.iload 5, 2) := by decide +kernel
theorem dL_law_1765 : decode cL_law 1765 = .ok (.iconst 1, 1) := by decide +kernel
theorem dL_law_1766 : decode cL_law 1766 = .ok (.iadd, 1) := by decide +kernel
theorem dL_law_1767 : decode cL_law 1767 = .ok (.iaload, 1) := by decide +kernel
theorem dL_law_1768 : decode cL_law 1768 = .ok (.aload_n 3, 1) := by decide +kernel
theorem dL_law_1769 : decode cL_law 1769 = .ok (.invokestatic 246, 3) := by decide +kernel
theorem dL_law_1772 : decode cL_law 1772 = .ok (.istore 6, 2) := by decide +kernel
theorem dL_law_1774 : decode cL_law 1774 = .ok (.aload_n 2, 1) := by decide +kernel
theorem dL_law_1775 : decode cL_law 1775 = .ok (.aload_n 0, 1) := by decide +kernel
theorem dL_law_1776 : decode cL_law 1776 = .ok (.iload 5, 2) := by decide +kernel
theorem dL_law_1778 : decode cL_law 1778 = .ok (.iconst 1, 1) := by decide +kernel
theorem dL_law_1779 : decode cL_law 1779 = .ok (.iadd, 1) := by decide +kernel
theorem dL_law_1780 : decode cL_law 1780 = .ok (.iaload, 1) := by decide +kernel
theorem dL_law_1781 : decode cL_law 1781 = .ok (.invokevirtual 248, 3) := by decide +kernel
theorem dL_law_1784 : decode cL_law 1784 = .ok (.istore 7, 2) := by decide +kernel
theorem dL_law_1786 : decode cL_law 1786 = .ok (.aload_n 2, 1) := by decide +kernel
theorem dL_law_1787 : decode cL_law 1787 = .ok (.invokevirtual 157, 3) := by decide +kernel
theorem dL_law_1790 : decode cL_law 1790 = .ok (.iload 6, 2) := by decide +kernel
theorem dL_law_1792 : decode cL_law 1792 = .ok (.if_icmp .eq 5, 3) := by decide +kernel
theorem dL_law_1795 : decode cL_law 1795 = .ok (.iconst 0, 1) := by decide +kernel
theorem dL_law_1796 : decode cL_law 1796 = .ok (.ireturn, 1) := by decide +kernel
theorem dL_law_1797 : decode cL_law 1797 = .ok (.iload 6, 2) := by decide +kernel
theorem dL_law_1799 : decode cL_law 1799 = .ok (.ifCond .ne 15, 3) := by decide +kernel
theorem dL_law_1802 : decode cL_law 1802 = .ok (.aload_n 3, 1) := by decide +kernel
theorem dL_law_1803 : decode cL_law 1803 = .ok (.iconst 0, 1) := by decide +kernel
theorem dL_law_1804 : decode cL_law 1804 = .ok (.laload, 1) := by decide +kernel
theorem dL_law_1805 : decode cL_law 1805 = .ok (.iload 7, 2) := by decide +kernel
theorem dL_law_1807 : decode cL_law 1807 = .ok (.i2l, 1) := by decide +kernel
theorem dL_law_1808 : decode cL_law 1808 = .ok (.lcmp, 1) := by decide +kernel
theorem dL_law_1809 : decode cL_law 1809 = .ok (.ifCond .eq 5, 3) := by decide +kernel
theorem dL_law_1812 : decode cL_law 1812 = .ok (.iconst 0, 1) := by decide +kernel
theorem dL_law_1813 : decode cL_law 1813 = .ok (.ireturn, 1) := by decide +kernel
theorem dL_law_1814 : decode cL_law 1814 = .ok (.goto 847, 3) := by decide +kernel
theorem dL_law_1817 : decode cL_law 1817 = .ok (.aload_n 1, 1) := by decide +kernel
theorem dL_law_1818 : decode cL_law 1818 = .ok (.aload_n 0, 1) := by decide +kernel
theorem dL_law_1819 : decode cL_law 1819 = .ok (.iload 5, 2) := by decide +kernel
theorem dL_law_1821 : decode cL_law 1821 = .ok (.iconst 1, 1) := by decide +kernel
theorem dL_law_1822 : decode cL_law 1822 = .ok (.iadd, 1) := by decide +kernel
theorem dL_law_1823 : decode cL_law 1823 = .ok (.iaload, 1) := by decide +kernel
theorem dL_law_1824 : decode cL_law 1824 = .ok (.aload_n 0, 1) := by decide +kernel
theorem dL_law_1825 : decode cL_law 1825 = .ok (.iload 5, 2) := by decide +kernel
theorem dL_law_1827 : decode cL_law 1827 = .ok (.iconst 2, 1) := by decide +kernel
theorem dL_law_1828 : decode cL_law 1828 = .ok (.iadd, 1) := by decide +kernel
theorem dL_law_1829 : decode cL_law 1829 = .ok (.iaload, 1) := by decide +kernel
theorem dL_law_1830 : decode cL_law 1830 = .ok (.aload_n 3, 1) := by decide +kernel
theorem dL_law_1831 : decode cL_law 1831 = .ok (.invokestatic 249, 3) := by decide +kernel
theorem dL_law_1834 : decode cL_law 1834 = .ok (.istore 6, 2) := by decide +kernel
theorem dL_law_1836 : decode cL_law 1836 = .ok (.aload_n 2, 1) := by decide +kernel
theorem dL_law_1837 : decode cL_law 1837 = .ok (.aload_n 0, 1) := by decide +kernel
theorem dL_law_1838 : decode cL_law 1838 = .ok (.iload 5, 2) := by decide +kernel
theorem dL_law_1840 : decode cL_law 1840 = .ok (.iconst 1, 1) := by decide +kernel
theorem dL_law_1841 : decode cL_law 1841 = .ok (.iadd, 1) := by decide +kernel
theorem dL_law_1842 : decode cL_law 1842 = .ok (.iaload, 1) := by decide +kernel
theorem dL_law_1843 : decode cL_law 1843 = .ok (.aload_n 0, 1) := by decide +kernel
theorem dL_law_1844 : decode cL_law 1844 = .ok (.iload 5, 2) := by decide +kernel
theorem dL_law_1846 : decode cL_law 1846 = .ok (.iconst 2, 1) := by decide +kernel
theorem dL_law_1847 : decode cL_law 1847 = .ok (.iadd, 1) := by decide +kernel
theorem dL_law_1848 : decode cL_law 1848 = .ok (.iaload, 1) := by decide +kernel
theorem dL_law_1849 : decode cL_law 1849 = .ok (.invokevirtual 251, 3) := by decide +kernel
theorem dL_law_1852 : decode cL_law 1852 = .ok (.istore 7, 2) := by decide +kernel
theorem dL_law_1854 : decode cL_law 1854 = .ok (.aload_n 2, 1) := by decide +kernel
theorem dL_law_1855 : decode cL_law 1855 = .ok (.invokevirtual 157, 3) := by decide +kernel
theorem dL_law_1858 : decode cL_law 1858 = .ok (.iload 6, 2) := by decide +kernel
theorem dL_law_1860 : decode cL_law 1860 = .ok (.if_icmp .eq 5, 3) := by decide +kernel
theorem dL_law_1863 : decode cL_law 1863 = .ok (.iconst 0, 1) := by decide +kernel
theorem dL_law_1864 : decode cL_law 1864 = .ok (.ireturn, 1) := by decide +kernel
theorem dL_law_1865 : decode cL_law 1865 = .ok (.iload 6, 2) := by decide +kernel
theorem dL_law_1867 : decode cL_law 1867 = .ok (.ifCond .ne 15, 3) := by decide +kernel
theorem dL_law_1870 : decode cL_law 1870 = .ok (.aload_n 3, 1) := by decide +kernel
theorem dL_law_1871 : decode cL_law 1871 = .ok (.iconst 0, 1) := by decide +kernel
theorem dL_law_1872 : decode cL_law 1872 = .ok (.laload, 1) := by decide +kernel
theorem dL_law_1873 : decode cL_law 1873 = .ok (.iload 7, 2) := by decide +kernel
theorem dL_law_1875 : decode cL_law 1875 = .ok (.i2l, 1) := by decide +kernel
theorem dL_law_1876 : decode cL_law 1876 = .ok (.lcmp, 1) := by decide +kernel
theorem dL_law_1877 : decode cL_law 1877 = .ok (.ifCond .eq 5, 3) := by decide +kernel
theorem dL_law_1880 : decode cL_law 1880 = .ok (.iconst 0, 1) := by decide +kernel
theorem dL_law_1881 : decode cL_law 1881 = .ok (.ireturn, 1) := by decide +kernel
theorem dL_law_1882 : decode cL_law 1882 = .ok (.goto 779, 3) := by decide +kernel
theorem dL_law_1885 : decode cL_law 1885 = .ok (.aload_n 1, 1) := by decide +kernel
theorem dL_law_1886 : decode cL_law 1886 = .ok (.aload_n 0, 1) := by decide +kernel
theorem dL_law_1887 : decode cL_law 1887 = .ok (.iload 5, 2) := by decide +kernel
theorem dL_law_1889 : decode cL_law 1889 = .ok (.iconst 1, 1) := by decide +kernel
theorem dL_law_1890 : decode cL_law 1890 = .ok (.iadd, 1) := by decide +kernel
theorem dL_law_1891 : decode cL_law 1891 = .ok (.iaload, 1) := by decide +kernel
theorem dL_law_1892 : decode cL_law 1892 = .ok (.aload_n 3, 1) := by decide +kernel
theorem dL_law_1893 : decode cL_law 1893 = .ok (.invokestatic 252, 3) := by decide +kernel
theorem dL_law_1896 : decode cL_law 1896 = .ok (.istore 6, 2) := by decide +kernel
theorem dL_law_1898 : decode cL_law 1898 = .ok (.aload_n 2, 1) := by decide +kernel
theorem dL_law_1899 : decode cL_law 1899 = .ok (.aload_n 0, 1) := by decide +kernel
theorem dL_law_1900 : decode cL_law 1900 = .ok (.iload 5, 2) := by decide +kernel
theorem dL_law_1902 : decode cL_law 1902 = .ok (.iconst 1, 1) := by decide +kernel
theorem dL_law_1903 : decode cL_law 1903 = .ok (.iadd, 1) := by decide +kernel
theorem dL_law_1904 : decode cL_law 1904 = .ok (.iaload, 1) := by decide +kernel
theorem dL_law_1905 : decode cL_law 1905 = .ok (.invokevirtual 254, 3) := by decide +kernel
theorem dL_law_1908 : decode cL_law 1908 = .ok (.istore 7, 2) := by decide +kernel
theorem dL_law_1910 : decode cL_law 1910 = .ok (.aload_n 2, 1) := by decide +kernel
theorem dL_law_1911 : decode cL_law 1911 = .ok (.invokevirtual 157, 3) := by decide +kernel
theorem dL_law_1914 : decode cL_law 1914 = .ok (.iload 6, 2) := by decide +kernel
theorem dL_law_1916 : decode cL_law 1916 = .ok (.if_icmp .eq 5, 3) := by decide +kernel
theorem dL_law_1919 : decode cL_law 1919 = .ok (.iconst 0, 1) := by decide +kernel
theorem dL_law_1920 : decode cL_law 1920 = .ok (.ireturn, 1) := by decide +kernel
theorem dL_law_1921 : decode cL_law 1921 = .ok (.iload 6, 2) := by decide +kernel
theorem dL_law_1923 : decode cL_law 1923 = .ok (.ifCond .ne 15, 3) := by decide +kernel
theorem dL_law_1926 : decode cL_law 1926 = .ok (.aload_n 3, 1) := by decide +kernel
theorem dL_law_1927 : decode cL_law 1927 = .ok (.iconst 0, 1) := by decide +kernel
theorem dL_law_1928 : decode cL_law 1928 = .ok (.laload, 1) := by decide +kernel
theorem dL_law_1929 : decode cL_law 1929 = .ok (.iload 7, 2) := by decide +kernel
theorem dL_law_1931 : decode cL_law 1931 = .ok (.i2l, 1) := by decide +kernel
theorem dL_law_1932 : decode cL_law 1932 = .ok (.lcmp, 1) := by decide +kernel
theorem dL_law_1933 : decode cL_law 1933 = .ok (.ifCond .eq 5, 3) := by decide +kernel
theorem dL_law_1936 : decode cL_law 1936 = .ok (.iconst 0, 1) := by decide +kernel
theorem dL_law_1937 : decode cL_law 1937 = .ok (.ireturn, 1) := by decide +kernel
theorem dL_law_1938 : decode cL_law 1938 = .ok (.goto 723, 3) := by decide +kernel
theorem dL_law_1941 : decode cL_law 1941 = .ok (.aload_n 1, 1) := by decide +kernel
theorem dL_law_1942 : decode cL_law 1942 = .ok (.aload_n 0, 1) := by decide +kernel
theorem dL_law_1943 : decode cL_law 1943 = .ok (.iload 5, 2) := by decide +kernel
theorem dL_law_1945 : decode cL_law 1945 = .ok (.iconst 1, 1) := by decide +kernel
theorem dL_law_1946 : decode cL_law 1946 = .ok (.iadd, 1) := by decide +kernel
theorem dL_law_1947 : decode cL_law 1947 = .ok (.iaload, 1) := by decide +kernel
theorem dL_law_1948 : decode cL_law 1948 = .ok (.aload_n 0, 1) := by decide +kernel
theorem dL_law_1949 : decode cL_law 1949 = .ok (.iload 5, 2) := by decide +kernel
theorem dL_law_1951 : decode cL_law 1951 = .ok (.iconst 2, 1) := by decide +kernel
theorem dL_law_1952 : decode cL_law 1952 = .ok (.iadd, 1) := by decide +kernel
theorem dL_law_1953 : decode cL_law 1953 = .ok (.iaload, 1) := by decide +kernel
theorem dL_law_1954 : decode cL_law 1954 = .ok (.aload_n 3, 1) := by decide +kernel
theorem dL_law_1955 : decode cL_law 1955 = .ok (.invokestatic 255, 3) := by decide +kernel
theorem dL_law_1958 : decode cL_law 1958 = .ok (.istore 6, 2) := by decide +kernel
theorem dL_law_1960 : decode cL_law 1960 = .ok (.aload_n 2, 1) := by decide +kernel
theorem dL_law_1961 : decode cL_law 1961 = .ok (.aload_n 0, 1) := by decide +kernel
theorem dL_law_1962 : decode cL_law 1962 = .ok (.iload 5, 2) := by decide +kernel
theorem dL_law_1964 : decode cL_law 1964 = .ok (.iconst 1, 1) := by decide +kernel
theorem dL_law_1965 : decode cL_law 1965 = .ok (.iadd, 1) := by decide +kernel
theorem dL_law_1966 : decode cL_law 1966 = .ok (.iaload, 1) := by decide +kernel
theorem dL_law_1967 : decode cL_law 1967 = .ok (.aload_n 0, 1) := by decide +kernel
theorem dL_law_1968 : decode cL_law 1968 = .ok (.iload 5, 2) := by decide +kernel
theorem dL_law_1970 : decode cL_law 1970 = .ok (.iconst 2, 1) := by decide +kernel
theorem dL_law_1971 : decode cL_law 1971 = .ok (.iadd, 1) := by decide +kernel
theorem dL_law_1972 : decode cL_law 1972 = .ok (.iaload, 1) := by decide +kernel
theorem dL_law_1973 : decode cL_law 1973 = .ok (.invokevirtual 257, 3) := by decide +kernel
theorem dL_law_1976 : decode cL_law 1976 = .ok (.istore 7, 2) := by decide +kernel
theorem dL_law_1978 : decode cL_law 1978 = .ok (.aload_n 2, 1) := by decide +kernel
theorem dL_law_1979 : decode cL_law 1979 = .ok (.invokevirtual 157, 3) := by decide +kernel
theorem dL_law_1982 : decode cL_law 1982 = .ok (.iload 6, 2) := by decide +kernel
theorem dL_law_1984 : decode cL_law 1984 = .ok (.if_icmp .eq 5, 3) := by decide +kernel
theorem dL_law_1987 : decode cL_law 1987 = .ok (.iconst 0, 1) := by decide +kernel
theorem dL_law_1988 : decode cL_law 1988 = .ok (.ireturn, 1) := by decide +kernel
theorem dL_law_1989 : decode cL_law 1989 = .ok (.iload 6, 2) := by decide +kernel
theorem dL_law_1991 : decode cL_law 1991 = .ok (.ifCond .ne 15, 3) := by decide +kernel
theorem dL_law_1994 : decode cL_law 1994 = .ok (.aload_n 3, 1) := by decide +kernel
theorem dL_law_1995 : decode cL_law 1995 = .ok (.iconst 0, 1) := by decide +kernel
theorem dL_law_1996 : decode cL_law 1996 = .ok (.laload, 1) := by decide +kernel
theorem dL_law_1997 : decode cL_law 1997 = .ok (.iload 7, 2) := by decide +kernel
theorem dL_law_1999 : decode cL_law 1999 = .ok (.i2l, 1) := by decide +kernel
theorem dL_law_2000 : decode cL_law 2000 = .ok (.lcmp, 1) := by decide +kernel
theorem dL_law_2001 : decode cL_law 2001 = .ok (.ifCond .eq 5, 3) := by decide +kernel
theorem dL_law_2004 : decode cL_law 2004 = .ok (.iconst 0, 1) := by decide +kernel
theorem dL_law_2005 : decode cL_law 2005 = .ok (.ireturn, 1) := by decide +kernel
theorem dL_law_2006 : decode cL_law 2006 = .ok (.goto 655, 3) := by decide +kernel
theorem dL_law_2009 : decode cL_law 2009 = .ok (.aload_n 1, 1) := by decide +kernel
theorem dL_law_2010 : decode cL_law 2010 = .ok (.aload_n 0, 1) := by decide +kernel
theorem dL_law_2011 : decode cL_law 2011 = .ok (.iload 5, 2) := by decide +kernel
theorem dL_law_2013 : decode cL_law 2013 = .ok (.iconst 1, 1) := by decide +kernel
theorem dL_law_2014 : decode cL_law 2014 = .ok (.iadd, 1) := by decide +kernel
theorem dL_law_2015 : decode cL_law 2015 = .ok (.iaload, 1) := by decide +kernel
theorem dL_law_2016 : decode cL_law 2016 = .ok (.aload_n 0, 1) := by decide +kernel
theorem dL_law_2017 : decode cL_law 2017 = .ok (.iload 5, 2) := by decide +kernel
theorem dL_law_2019 : decode cL_law 2019 = .ok (.iconst 2, 1) := by decide +kernel
theorem dL_law_2020 : decode cL_law 2020 = .ok (.iadd, 1) := by decide +kernel
theorem dL_law_2021 : decode cL_law 2021 = .ok (.iaload, 1) := by decide +kernel
theorem dL_law_2022 : decode cL_law 2022 = .ok (.aload_n 3, 1) := by decide +kernel
theorem dL_law_2023 : decode cL_law 2023 = .ok (.invokestatic 258, 3) := by decide +kernel
theorem dL_law_2026 : decode cL_law 2026 = .ok (.istore 6, 2) := by decide +kernel
theorem dL_law_2028 : decode cL_law 2028 = .ok (.aload_n 2, 1) := by decide +kernel
theorem dL_law_2029 : decode cL_law 2029 = .ok (.aload_n 0, 1) := by decide +kernel
theorem dL_law_2030 : decode cL_law 2030 = .ok (.iload 5, 2) := by decide +kernel
theorem dL_law_2032 : decode cL_law 2032 = .ok (.iconst 1, 1) := by decide +kernel
theorem dL_law_2033 : decode cL_law 2033 = .ok (.iadd, 1) := by decide +kernel
theorem dL_law_2034 : decode cL_law 2034 = .ok (.iaload, 1) := by decide +kernel
theorem dL_law_2035 : decode cL_law 2035 = .ok (.aload_n 0, 1) := by decide +kernel
theorem dL_law_2036 : decode cL_law 2036 = .ok (.iload 5, 2) := by decide +kernel
theorem dL_law_2038 : decode cL_law 2038 = .ok (.iconst 2, 1) := by decide +kernel
theorem dL_law_2039 : decode cL_law 2039 = .ok (.iadd, 1) := by decide +kernel
theorem dL_law_2040 : decode cL_law 2040 = .ok (.iaload, 1) := by decide +kernel
theorem dL_law_2041 : decode cL_law 2041 = .ok (.invokevirtual 260, 3) := by decide +kernel
theorem dL_law_2044 : decode cL_law 2044 = .ok (.istore 7, 2) := by decide +kernel
theorem dL_law_2046 : decode cL_law 2046 = .ok (.aload_n 2, 1) := by decide +kernel
theorem dL_law_2047 : decode cL_law 2047 = .ok (.invokevirtual 157, 3) := by decide +kernel
theorem dL_law_2050 : decode cL_law 2050 = .ok (.iload 6, 2) := by decide +kernel
theorem dL_law_2052 : decode cL_law 2052 = .ok (.if_icmp .eq 5, 3) := by decide +kernel
theorem dL_law_2055 : decode cL_law 2055 = .ok (.iconst 0, 1) := by decide +kernel
theorem dL_law_2056 : decode cL_law 2056 = .ok (.ireturn, 1) := by decide +kernel
theorem dL_law_2057 : decode cL_law 2057 = .ok (.iload 6, 2) := by decide +kernel
theorem dL_law_2059 : decode cL_law 2059 = .ok (.ifCond .ne 15, 3) := by decide +kernel
theorem dL_law_2062 : decode cL_law 2062 = .ok (.aload_n 3, 1) := by decide +kernel
theorem dL_law_2063 : decode cL_law 2063 = .ok (.iconst 0, 1) := by decide +kernel
theorem dL_law_2064 : decode cL_law 2064 = .ok (.laload, 1) := by decide +kernel
theorem dL_law_2065 : decode cL_law 2065 = .ok (.iload 7, 2) := by decide +kernel
theorem dL_law_2067 : decode cL_law 2067 = .ok (.i2l, 1) := by decide +kernel
theorem dL_law_2068 : decode cL_law 2068 = .ok (.lcmp, 1) := by decide +kernel
theorem dL_law_2069 : decode cL_law 2069 = .ok (.ifCond .eq 5, 3) := by decide +kernel
theorem dL_law_2072 : decode cL_law 2072 = .ok (.iconst 0, 1) := by decide +kernel
theorem dL_law_2073 : decode cL_law 2073 = .ok (.ireturn, 1) := by decide +kernel
theorem dL_law_2074 : decode cL_law 2074 = .ok (.goto 587, 3) := by decide +kernel
theorem dL_law_2077 : decode cL_law 2077 = .ok (.aload_n 1, 1) := by decide +kernel
theorem dL_law_2078 : decode cL_law 2078 = .ok (.aload_n 0, 1) := by decide +kernel
theorem dL_law_2079 : decode cL_law 2079 = .ok (.iload 5, 2) := by decide +kernel
theorem dL_law_2081 : decode cL_law 2081 = .ok (.iconst 1, 1) := by decide +kernel
theorem dL_law_2082 : decode cL_law 2082 = .ok (.iadd, 1) := by decide +kernel
theorem dL_law_2083 : decode cL_law 2083 = .ok (.iaload, 1) := by decide +kernel
theorem dL_law_2084 : decode cL_law 2084 = .ok (.aload_n 3, 1) := by decide +kernel
theorem dL_law_2085 : decode cL_law 2085 = .ok (.invokestatic 261, 3) := by decide +kernel
theorem dL_law_2088 : decode cL_law 2088 = .ok (.istore 6, 2) := by decide +kernel
theorem dL_law_2090 : decode cL_law 2090 = .ok (.aload_n 2, 1) := by decide +kernel
theorem dL_law_2091 : decode cL_law 2091 = .ok (.aload_n 0, 1) := by decide +kernel
theorem dL_law_2092 : decode cL_law 2092 = .ok (.iload 5, 2) := by decide +kernel
theorem dL_law_2094 : decode cL_law 2094 = .ok (.iconst 1, 1) := by decide +kernel
theorem dL_law_2095 : decode cL_law 2095 = .ok (.iadd, 1) := by decide +kernel
theorem dL_law_2096 : decode cL_law 2096 = .ok (.iaload, 1) := by decide +kernel
theorem dL_law_2097 : decode cL_law 2097 = .ok (.invokevirtual 263, 3) := by decide +kernel
theorem dL_law_2100 : decode cL_law 2100 = .ok (.istore 7, 2) := by decide +kernel
theorem dL_law_2102 : decode cL_law 2102 = .ok (.aload_n 2, 1) := by decide +kernel
theorem dL_law_2103 : decode cL_law 2103 = .ok (.invokevirtual 157, 3) := by decide +kernel
theorem dL_law_2106 : decode cL_law 2106 = .ok (.iload 6, 2) := by decide +kernel
theorem dL_law_2108 : decode cL_law 2108 = .ok (.if_icmp .eq 5, 3) := by decide +kernel
theorem dL_law_2111 : decode cL_law 2111 = .ok (.iconst 0, 1) := by decide +kernel
theorem dL_law_2112 : decode cL_law 2112 = .ok (.ireturn, 1) := by decide +kernel
theorem dL_law_2113 : decode cL_law 2113 = .ok (.iload 6, 2) := by decide +kernel
theorem dL_law_2115 : decode cL_law 2115 = .ok (.ifCond .ne 15, 3) := by decide +kernel
theorem dL_law_2118 : decode cL_law 2118 = .ok (.aload_n 3, 1) := by decide +kernel
theorem dL_law_2119 : decode cL_law 2119 = .ok (.iconst 0, 1) := by decide +kernel
theorem dL_law_2120 : decode cL_law 2120 = .ok (.laload, 1) := by decide +kernel
theorem dL_law_2121 : decode cL_law 2121 = .ok (.iload 7, 2) := by decide +kernel
theorem dL_law_2123 : decode cL_law 2123 = .ok (.i2l, 1) := by decide +kernel
theorem dL_law_2124 : decode cL_law 2124 = .ok (.lcmp, 1) := by decide +kernel
theorem dL_law_2125 : decode cL_law 2125 = .ok (.ifCond .eq 5, 3) := by decide +kernel
theorem dL_law_2128 : decode cL_law 2128 = .ok (.iconst 0, 1) := by decide +kernel
theorem dL_law_2129 : decode cL_law 2129 = .ok (.ireturn, 1) := by decide +kernel
theorem dL_law_2130 : decode cL_law 2130 = .ok (.goto 531, 3) := by decide +kernel
theorem dL_law_2133 : decode cL_law 2133 = .ok (.aload_n 1, 1) := by decide +kernel
theorem dL_law_2134 : decode cL_law 2134 = .ok (.aload_n 0, 1) := by decide +kernel
theorem dL_law_2135 : decode cL_law 2135 = .ok (.iload 5, 2) := by decide +kernel
theorem dL_law_2137 : decode cL_law 2137 = .ok (.iconst 1, 1) := by decide +kernel
theorem dL_law_2138 : decode cL_law 2138 = .ok (.iadd, 1) := by decide +kernel
theorem dL_law_2139 : decode cL_law 2139 = .ok (.iaload, 1) := by decide +kernel
theorem dL_law_2140 : decode cL_law 2140 = .ok (.aload_n 3, 1) := by decide +kernel
theorem dL_law_2141 : decode cL_law 2141 = .ok (.invokestatic 264, 3) := by decide +kernel
theorem dL_law_2144 : decode cL_law 2144 = .ok (.istore 6, 2) := by decide +kernel
theorem dL_law_2146 : decode cL_law 2146 = .ok (.aload_n 2, 1) := by decide +kernel
theorem dL_law_2147 : decode cL_law 2147 = .ok (.aload_n 0, 1) := by decide +kernel
theorem dL_law_2148 : decode cL_law 2148 = .ok (.iload 5, 2) := by decide +kernel
theorem dL_law_2150 : decode cL_law 2150 = .ok (.iconst 1, 1) := by decide +kernel
theorem dL_law_2151 : decode cL_law 2151 = .ok (.iadd, 1) := by decide +kernel
theorem dL_law_2152 : decode cL_law 2152 = .ok (.iaload, 1) := by decide +kernel
theorem dL_law_2153 : decode cL_law 2153 = .ok (.invokevirtual 266, 3) := by decide +kernel
theorem dL_law_2156 : decode cL_law 2156 = .ok (.istore 7, 2) := by decide +kernel
theorem dL_law_2158 : decode cL_law 2158 = .ok (.aload_n 2, 1) := by decide +kernel
theorem dL_law_2159 : decode cL_law 2159 = .ok (.invokevirtual 157, 3) := by decide +kernel
theorem dL_law_2162 : decode cL_law 2162 = .ok (.iload 6, 2) := by decide +kernel
theorem dL_law_2164 : decode cL_law 2164 = .ok (.if_icmp .eq 5, 3) := by decide +kernel
theorem dL_law_2167 : decode cL_law 2167 = .ok (.iconst 0, 1) := by decide +kernel
theorem dL_law_2168 : decode cL_law 2168 = .ok (.ireturn, 1) := by decide +kernel
theorem dL_law_2169 : decode cL_law 2169 = .ok (.iload 6, 2) := by decide +kernel
theorem dL_law_2171 : decode cL_law 2171 = .ok (.ifCond .ne 15, 3) := by decide +kernel
theorem dL_law_2174 : decode cL_law 2174 = .ok (.aload_n 3, 1) := by decide +kernel
theorem dL_law_2175 : decode cL_law 2175 = .ok (.iconst 0, 1) := by decide +kernel
theorem dL_law_2176 : decode cL_law 2176 = .ok (.laload, 1) := by decide +kernel
theorem dL_law_2177 : decode cL_law 2177 = .ok (.iload 7, 2) := by decide +kernel
theorem dL_law_2179 : decode cL_law 2179 = .ok (.i2l, 1) := by decide +kernel
theorem dL_law_2180 : decode cL_law 2180 = .ok (.lcmp, 1) := by decide +kernel
theorem dL_law_2181 : decode cL_law 2181 = .ok (.ifCond .eq 5, 3) := by decide +kernel
theorem dL_law_2184 : decode cL_law 2184 = .ok (.iconst 0, 1) := by decide +kernel
theorem dL_law_2185 : decode cL_law 2185 = .ok (.ireturn, 1) := by decide +kernel
theorem dL_law_2186 : decode cL_law 2186 = .ok (.goto 475, 3) := by decide +kernel
theorem dL_law_2189 : decode cL_law 2189 = .ok (.aload_n 1, 1) := by decide +kernel
theorem dL_law_2190 : decode cL_law 2190 = .ok (.aload_n 0, 1) := by decide +kernel
theorem dL_law_2191 : decode cL_law 2191 = .ok (.iload 5, 2) := by decide +kernel
theorem dL_law_2193 : decode cL_law 2193 = .ok (.iconst 1, 1) := by decide +kernel
theorem dL_law_2194 : decode cL_law 2194 = .ok (.iadd, 1) := by decide +kernel
theorem dL_law_2195 : decode cL_law 2195 = .ok (.iaload, 1) := by decide +kernel
theorem dL_law_2196 : decode cL_law 2196 = .ok (.aload_n 3, 1) := by decide +kernel
theorem dL_law_2197 : decode cL_law 2197 = .ok (.invokestatic 267, 3) := by decide +kernel
theorem dL_law_2200 : decode cL_law 2200 = .ok (.istore 6, 2) := by decide +kernel
theorem dL_law_2202 : decode cL_law 2202 = .ok (.aload_n 2, 1) := by decide +kernel
theorem dL_law_2203 : decode cL_law 2203 = .ok (.aload_n 0, 1) := by decide +kernel
theorem dL_law_2204 : decode cL_law 2204 = .ok (.iload 5, 2) := by decide +kernel
theorem dL_law_2206 : decode cL_law 2206 = .ok (.iconst 1, 1) := by decide +kernel
theorem dL_law_2207 : decode cL_law 2207 = .ok (.iadd, 1) := by decide +kernel
theorem dL_law_2208 : decode cL_law 2208 = .ok (.iaload, 1) := by decide +kernel
theorem dL_law_2209 : decode cL_law 2209 = .ok (.invokevirtual 269, 3) := by decide +kernel
theorem dL_law_2212 : decode cL_law 2212 = .ok (.istore 7, 2) := by decide +kernel
theorem dL_law_2214 : decode cL_law 2214 = .ok (.aload_n 2, 1) := by decide +kernel
theorem dL_law_2215 : decode cL_law 2215 = .ok (.invokevirtual 157, 3) := by decide +kernel
theorem dL_law_2218 : decode cL_law 2218 = .ok (.iload 6, 2) := by decide +kernel
theorem dL_law_2220 : decode cL_law 2220 = .ok (.if_icmp .eq 5, 3) := by decide +kernel
theorem dL_law_2223 : decode cL_law 2223 = .ok (.iconst 0, 1) := by decide +kernel
theorem dL_law_2224 : decode cL_law 2224 = .ok (.ireturn, 1) := by decide +kernel
theorem dL_law_2225 : decode cL_law 2225 = .ok (.iload 6, 2) := by decide +kernel
theorem dL_law_2227 : decode cL_law 2227 = .ok (.ifCond .ne 15, 3) := by decide +kernel
theorem dL_law_2230 : decode cL_law 2230 = .ok (.aload_n 3, 1) := by decide +kernel
theorem dL_law_2231 : decode cL_law 2231 = .ok (.iconst 0, 1) := by decide +kernel
theorem dL_law_2232 : decode cL_law 2232 = .ok (.laload, 1) := by decide +kernel
theorem dL_law_2233 : decode cL_law 2233 = .ok (.iload 7, 2) := by decide +kernel
theorem dL_law_2235 : decode cL_law 2235 = .ok (.i2l, 1) := by decide +kernel
theorem dL_law_2236 : decode cL_law 2236 = .ok (.lcmp, 1) := by decide +kernel
theorem dL_law_2237 : decode cL_law 2237 = .ok (.ifCond .eq 5, 3) := by decide +kernel
theorem dL_law_2240 : decode cL_law 2240 = .ok (.iconst 0, 1) := by decide +kernel
theorem dL_law_2241 : decode cL_law 2241 = .ok (.ireturn, 1) := by decide +kernel
theorem dL_law_2242 : decode cL_law 2242 = .ok (.goto 419, 3) := by decide +kernel
theorem dL_law_2245 : decode cL_law 2245 = .ok (.aload_n 1, 1) := by decide +kernel
theorem dL_law_2246 : decode cL_law 2246 = .ok (.aload_n 0, 1) := by decide +kernel
theorem dL_law_2247 : decode cL_law 2247 = .ok (.iload 5, 2) := by decide +kernel
theorem dL_law_2249 : decode cL_law 2249 = .ok (.iconst 1, 1) := by decide +kernel
theorem dL_law_2250 : decode cL_law 2250 = .ok (.iadd, 1) := by decide +kernel
theorem dL_law_2251 : decode cL_law 2251 = .ok (.iaload, 1) := by decide +kernel
theorem dL_law_2252 : decode cL_law 2252 = .ok (.aload_n 3, 1) := by decide +kernel
theorem dL_law_2253 : decode cL_law 2253 = .ok (.invokestatic 270, 3) := by decide +kernel
theorem dL_law_2256 : decode cL_law 2256 = .ok (.istore 6, 2) := by decide +kernel
theorem dL_law_2258 : decode cL_law 2258 = .ok (.aload_n 2, 1) := by decide +kernel
theorem dL_law_2259 : decode cL_law 2259 = .ok (.aload_n 0, 1) := by decide +kernel
theorem dL_law_2260 : decode cL_law 2260 = .ok (.iload 5, 2) := by decide +kernel
theorem dL_law_2262 : decode cL_law 2262 = .ok (.iconst 1, 1) := by decide +kernel
theorem dL_law_2263 : decode cL_law 2263 = .ok (.iadd, 1) := by decide +kernel
theorem dL_law_2264 : decode cL_law 2264 = .ok (.iaload, 1) := by decide +kernel
theorem dL_law_2265 : decode cL_law 2265 = .ok (.invokevirtual 272, 3) := by decide +kernel
theorem dL_law_2268 : decode cL_law 2268 = .ok (.istore 7, 2) := by decide +kernel
theorem dL_law_2270 : decode cL_law 2270 = .ok (.aload_n 2, 1) := by decide +kernel
theorem dL_law_2271 : decode cL_law 2271 = .ok (.invokevirtual 157, 3) := by decide +kernel
theorem dL_law_2274 : decode cL_law 2274 = .ok (.iload 6, 2) := by decide +kernel
theorem dL_law_2276 : decode cL_law 2276 = .ok (.if_icmp .eq 5, 3) := by decide +kernel
theorem dL_law_2279 : decode cL_law 2279 = .ok (.iconst 0, 1) := by decide +kernel
theorem dL_law_2280 : decode cL_law 2280 = .ok (.ireturn, 1) := by decide +kernel
theorem dL_law_2281 : decode cL_law 2281 = .ok (.iload 6, 2) := by decide +kernel
theorem dL_law_2283 : decode cL_law 2283 = .ok (.ifCond .ne 15, 3) := by decide +kernel
theorem dL_law_2286 : decode cL_law 2286 = .ok (.aload_n 3, 1) := by decide +kernel
theorem dL_law_2287 : decode cL_law 2287 = .ok (.iconst 0, 1) := by decide +kernel
theorem dL_law_2288 : decode cL_law 2288 = .ok (.laload, 1) := by decide +kernel
theorem dL_law_2289 : decode cL_law 2289 = .ok (.iload 7, 2) := by decide +kernel
theorem dL_law_2291 : decode cL_law 2291 = .ok (.i2l, 1) := by decide +kernel
theorem dL_law_2292 : decode cL_law 2292 = .ok (.lcmp, 1) := by decide +kernel
theorem dL_law_2293 : decode cL_law 2293 = .ok (.ifCond .eq 5, 3) := by decide +kernel
theorem dL_law_2296 : decode cL_law 2296 = .ok (.iconst 0, 1) := by decide +kernel
theorem dL_law_2297 : decode cL_law 2297 = .ok (.ireturn, 1) := by decide +kernel
theorem dL_law_2298 : decode cL_law 2298 = .ok (.goto 363, 3) := by decide +kernel
theorem dL_law_2301 : decode cL_law 2301 = .ok (.aload_n 1, 1) := by decide +kernel
theorem dL_law_2302 : decode cL_law 2302 = .ok (.aload_n 0, 1) := by decide +kernel
theorem dL_law_2303 : decode cL_law 2303 = .ok (.iload 5, 2) := by decide +kernel
theorem dL_law_2305 : decode cL_law 2305 = .ok (.iconst 1, 1) := by decide +kernel
theorem dL_law_2306 : decode cL_law 2306 = .ok (.iadd, 1) := by decide +kernel
theorem dL_law_2307 : decode cL_law 2307 = .ok (.iaload, 1) := by decide +kernel
theorem dL_law_2308 : decode cL_law 2308 = .ok (.aload_n 3, 1) := by decide +kernel
theorem dL_law_2309 : decode cL_law 2309 = .ok (.invokestatic 273, 3) := by decide +kernel
theorem dL_law_2312 : decode cL_law 2312 = .ok (.istore 6, 2) := by decide +kernel
theorem dL_law_2314 : decode cL_law 2314 = .ok (.aload_n 2, 1) := by decide +kernel
theorem dL_law_2315 : decode cL_law 2315 = .ok (.aload_n 0, 1) := by decide +kernel
theorem dL_law_2316 : decode cL_law 2316 = .ok (.iload 5, 2) := by decide +kernel
theorem dL_law_2318 : decode cL_law 2318 = .ok (.iconst 1, 1) := by decide +kernel
theorem dL_law_2319 : decode cL_law 2319 = .ok (.iadd, 1) := by decide +kernel
theorem dL_law_2320 : decode cL_law 2320 = .ok (.iaload, 1) := by decide +kernel
theorem dL_law_2321 : decode cL_law 2321 = .ok (.invokevirtual 275, 3) := by decide +kernel
theorem dL_law_2324 : decode cL_law 2324 = .ok (.istore 7, 2) := by decide +kernel
theorem dL_law_2326 : decode cL_law 2326 = .ok (.aload_n 2, 1) := by decide +kernel
theorem dL_law_2327 : decode cL_law 2327 = .ok (.invokevirtual 157, 3) := by decide +kernel
theorem dL_law_2330 : decode cL_law 2330 = .ok (.iload 6, 2) := by decide +kernel
theorem dL_law_2332 : decode cL_law 2332 = .ok (.if_icmp .eq 5, 3) := by decide +kernel
theorem dL_law_2335 : decode cL_law 2335 = .ok (.iconst 0, 1) := by decide +kernel
theorem dL_law_2336 : decode cL_law 2336 = .ok (.ireturn, 1) := by decide +kernel
theorem dL_law_2337 : decode cL_law 2337 = .ok (.iload 6, 2) := by decide +kernel
theorem dL_law_2339 : decode cL_law 2339 = .ok (.ifCond .ne 15, 3) := by decide +kernel
theorem dL_law_2342 : decode cL_law 2342 = .ok (.aload_n 3, 1) := by decide +kernel
theorem dL_law_2343 : decode cL_law 2343 = .ok (.iconst 0, 1) := by decide +kernel
theorem dL_law_2344 : decode cL_law 2344 = .ok (.laload, 1) := by decide +kernel
theorem dL_law_2345 : decode cL_law 2345 = .ok (.iload 7, 2) := by decide +kernel
theorem dL_law_2347 : decode cL_law 2347 = .ok (.i2l, 1) := by decide +kernel
theorem dL_law_2348 : decode cL_law 2348 = .ok (.lcmp, 1) := by decide +kernel
theorem dL_law_2349 : decode cL_law 2349 = .ok (.ifCond .eq 5, 3) := by decide +kernel
theorem dL_law_2352 : decode cL_law 2352 = .ok (.iconst 0, 1) := by decide +kernel
theorem dL_law_2353 : decode cL_law 2353 = .ok (.ireturn, 1) := by decide +kernel
theorem dL_law_2354 : decode cL_law 2354 = .ok (.goto 307, 3) := by decide +kernel
theorem dL_law_2357 : decode cL_law 2357 = .ok (.aload_n 1, 1) := by decide +kernel
theorem dL_law_2358 : decode cL_law 2358 = .ok (.aload_n 0, 1) := by decide +kernel
theorem dL_law_2359 : decode cL_law 2359 = .ok (.iload 5, 2) := by decide +kernel
theorem dL_law_2361 : decode cL_law 2361 = .ok (.iconst 1, 1) := by decide +kernel
theorem dL_law_2362 : decode cL_law 2362 = .ok (.iadd, 1) := by decide +kernel
theorem dL_law_2363 : decode cL_law 2363 = .ok (.iaload, 1) := by decide +kernel
theorem dL_law_2364 : decode cL_law 2364 = .ok (.aload_n 3, 1) := by decide +kernel
theorem dL_law_2365 : decode cL_law 2365 = .ok (.invokestatic 276, 3) := by decide +kernel
theorem dL_law_2368 : decode cL_law 2368 = .ok (.istore 6, 2) := by decide +kernel
theorem dL_law_2370 : decode cL_law 2370 = .ok (.aload_n 2, 1) := by decide +kernel
theorem dL_law_2371 : decode cL_law 2371 = .ok (.aload_n 0, 1) := by decide +kernel
theorem dL_law_2372 : decode cL_law 2372 = .ok (.iload 5, 2) := by decide +kernel
theorem dL_law_2374 : decode cL_law 2374 = .ok (.iconst 1, 1) := by decide +kernel
theorem dL_law_2375 : decode cL_law 2375 = .ok (.iadd, 1) := by decide +kernel
theorem dL_law_2376 : decode cL_law 2376 = .ok (.iaload, 1) := by decide +kernel
theorem dL_law_2377 : decode cL_law 2377 = .ok (.invokevirtual 278, 3) := by decide +kernel
theorem dL_law_2380 : decode cL_law 2380 = .ok (.istore 7, 2) := by decide +kernel
theorem dL_law_2382 : decode cL_law 2382 = .ok (.aload_n 2, 1) := by decide +kernel
theorem dL_law_2383 : decode cL_law 2383 = .ok (.invokevirtual 157, 3) := by decide +kernel
theorem dL_law_2386 : decode cL_law 2386 = .ok (.iload 6, 2) := by decide +kernel
theorem dL_law_2388 : decode cL_law 2388 = .ok (.if_icmp .eq 5, 3) := by decide +kernel
theorem dL_law_2391 : decode cL_law 2391 = .ok (.iconst 0, 1) := by decide +kernel
theorem dL_law_2392 : decode cL_law 2392 = .ok (.ireturn, 1) := by decide +kernel
theorem dL_law_2393 : decode cL_law 2393 = .ok (.iload 6, 2) := by decide +kernel
theorem dL_law_2395 : decode cL_law 2395 = .ok (.ifCond .ne 15, 3) := by decide +kernel
theorem dL_law_2398 : decode cL_law 2398 = .ok (.aload_n 3, 1) := by decide +kernel
theorem dL_law_2399 : decode cL_law 2399 = .ok (.iconst 0, 1) := by decide +kernel
theorem dL_law_2400 : decode cL_law 2400 = .ok (.laload, 1) := by decide +kernel
theorem dL_law_2401 : decode cL_law 2401 = .ok (.iload 7, 2) := by decide +kernel
theorem dL_law_2403 : decode cL_law 2403 = .ok (.i2l, 1) := by decide +kernel
theorem dL_law_2404 : decode cL_law 2404 = .ok (.lcmp, 1) := by decide +kernel
theorem dL_law_2405 : decode cL_law 2405 = .ok (.ifCond .eq 5, 3) := by decide +kernel
theorem dL_law_2408 : decode cL_law 2408 = .ok (.iconst 0, 1) := by decide +kernel
theorem dL_law_2409 : decode cL_law 2409 = .ok (.ireturn, 1) := by decide +kernel
theorem dL_law_2410 : decode cL_law 2410 = .ok (.goto 251, 3) := by decide +kernel
theorem dL_law_2413 : decode cL_law 2413 = .ok (.aload_n 1, 1) := by decide +kernel
theorem dL_law_2414 : decode cL_law 2414 = .ok (.invokevirtual 279, 3) := by decide +kernel
theorem dL_law_2417 : decode cL_law 2417 = .ok (.aload_n 2, 1) := by decide +kernel
theorem dL_law_2418 : decode cL_law 2418 = .ok (.invokevirtual 283, 3) := by decide +kernel
theorem dL_law_2421 : decode cL_law 2421 = .ok (.lcmp, 1) := by decide +kernel
theorem dL_law_2422 : decode cL_law 2422 = .ok (.ifCond .eq 239, 3) := by decide +kernel
theorem dL_law_2425 : decode cL_law 2425 = .ok (.iconst 0, 1) := by decide +kernel
theorem dL_law_2426 : decode cL_law 2426 = .ok (.ireturn, 1) := by decide +kernel
theorem dL_law_2427 : decode cL_law 2427 = .ok (.aload_n 1, 1) := by decide +kernel
theorem dL_law_2428 : decode cL_law 2428 = .ok (.aload_n 3, 1) := by decide +kernel
theorem dL_law_2429 : decode cL_law 2429 = .ok (.invokestatic 284, 3) := by decide +kernel
theorem dL_law_2432 : decode cL_law 2432 = .ok (.istore 6, 2) := by decide +kernel
theorem dL_law_2434 : decode cL_law 2434 = .ok (.aload_n 2, 1) := by decide +kernel
theorem dL_law_2435 : decode cL_law 2435 = .ok (.invokevirtual 286, 3) := by decide +kernel
theorem dL_law_2438 : decode cL_law 2438 = .ok (.istore 7, 2) := by decide +kernel
theorem dL_law_2440 : decode cL_law 2440 = .ok (.aload_n 2, 1) := by decide +kernel
theorem dL_law_2441 : decode cL_law 2441 = .ok (.invokevirtual 157, 3) := by decide +kernel
theorem dL_law_2444 : decode cL_law 2444 = .ok (.iload 6, 2) := by decide +kernel
theorem dL_law_2446 : decode cL_law 2446 = .ok (.if_icmp .eq 5, 3) := by decide +kernel
theorem dL_law_2449 : decode cL_law 2449 = .ok (.iconst 0, 1) := by decide +kernel
theorem dL_law_2450 : decode cL_law 2450 = .ok (.ireturn, 1) := by decide +kernel
theorem dL_law_2451 : decode cL_law 2451 = .ok (.iload 6, 2) := by decide +kernel
theorem dL_law_2453 : decode cL_law 2453 = .ok (.ifCond .ne 15, 3) := by decide +kernel
theorem dL_law_2456 : decode cL_law 2456 = .ok (.aload_n 3, 1) := by decide +kernel
theorem dL_law_2457 : decode cL_law 2457 = .ok (.iconst 0, 1) := by decide +kernel
theorem dL_law_2458 : decode cL_law 2458 = .ok (.laload, 1) := by decide +kernel
theorem dL_law_2459 : decode cL_law 2459 = .ok (.iload 7, 2) := by decide +kernel
theorem dL_law_2461 : decode cL_law 2461 = .ok (.i2l, 1) := by decide +kernel
theorem dL_law_2462 : decode cL_law 2462 = .ok (.lcmp, 1) := by decide +kernel
theorem dL_law_2463 : decode cL_law 2463 = .ok (.ifCond .eq 5, 3) := by decide +kernel
theorem dL_law_2466 : decode cL_law 2466 = .ok (.iconst 0, 1) := by decide +kernel
theorem dL_law_2467 : decode cL_law 2467 = .ok (.ireturn, 1) := by decide +kernel
theorem dL_law_2468 : decode cL_law 2468 = .ok (.goto 193, 3) := by decide +kernel
theorem dL_law_2471 : decode cL_law 2471 = .ok (.aload_n 1, 1) := by decide +kernel
theorem dL_law_2472 : decode cL_law 2472 = .ok (.aload 4, 2) := by decide +kernel
theorem dL_law_2474 : decode cL_law 2474 = .ok (.invokestatic 287, 3) := by decide +kernel
theorem dL_law_2477 : decode cL_law 2477 = .ok (.istore 6, 2) := by decide +kernel
theorem dL_law_2479 : decode cL_law 2479 = .ok (.aload_n 2, 1) := by decide +kernel
theorem dL_law_2480 : decode cL_law 2480 = .ok (.invokevirtual 289, 3) := by decide +kernel
theorem dL_law_2483 : decode cL_law 2483 = .ok (.dstore 7, 2) := by decide +kernel
theorem dL_law_2485 : decode cL_law 2485 = .ok (.aload_n 2, 1) := by decide +kernel
theorem dL_law_2486 : decode cL_law 2486 = .ok (.invokevirtual 157, 3) := by decide +kernel
theorem dL_law_2489 : decode cL_law 2489 = .ok (.iload 6, 2) := by decide +kernel
theorem dL_law_2491 : decode cL_law 2491 = .ok (.if_icmp .eq 5, 3) := by decide +kernel
theorem dL_law_2494 : decode cL_law 2494 = .ok (.iconst 0, 1) := by decide +kernel
theorem dL_law_2495 : decode cL_law 2495 = .ok (.ireturn, 1) := by decide +kernel
theorem dL_law_2496 : decode cL_law 2496 = .ok (.iload 6, 2) := by decide +kernel
theorem dL_law_2498 : decode cL_law 2498 = .ok (.ifCond .ne 35, 3) := by decide +kernel
theorem dL_law_2501 : decode cL_law 2501 = .ok (.aload 4, 2) := by decide +kernel
theorem dL_law_2503 : decode cL_law 2503 = .ok (.iconst 0, 1) := by decide +kernel
theorem dL_law_2504 : decode cL_law 2504 = .ok (.daload, 1) := by decide +kernel
theorem dL_law_2505 : decode cL_law 2505 = .ok (.dload 7, 2) := by decide +kernel
theorem dL_law_2507 : decode cL_law 2507 = .ok (.dcmp .l, 1) := by decide +kernel
theorem dL_law_2508 : decode cL_law 2508 = .ok (.ifCond .eq 25, 3) := by decide +kernel
theorem dL_law_2511 : decode cL_law 2511 = .ok (.aload 4, 2) := by decide +kernel
theorem dL_law_2513 : decode cL_law 2513 = .ok (.iconst 0, 1) := by decide +kernel
theorem dL_law_2514 : decode cL_law 2514 = .ok (.daload, 1) := by decide +kernel
theorem dL_law_2515 : decode cL_law 2515 = .ok (.aload 4, 2) := by decide +kernel
theorem dL_law_2517 : decode cL_law 2517 = .ok (.iconst 0, 1) := by decide +kernel
theorem dL_law_2518 : decode cL_law 2518 = .ok (.daload, 1) := by decide +kernel
theorem dL_law_2519 : decode cL_law 2519 = .ok (.dcmp .l, 1) := by decide +kernel
theorem dL_law_2520 : decode cL_law 2520 = .ok (.ifCond .eq 11, 3) := by decide +kernel
theorem dL_law_2523 : decode cL_law 2523 = .ok (.dload 7, 2) := by decide +kernel
theorem dL_law_2525 : decode cL_law 2525 = .ok (.dload 7, 2) := by decide +kernel
theorem dL_law_2527 : decode cL_law 2527 = .ok (.dcmp .l, 1) := by decide +kernel
theorem dL_law_2528 : decode cL_law 2528 = .ok (.ifCond .ne 5, 3) := by decide +kernel
theorem dL_law_2531 : decode cL_law 2531 = .ok (.iconst 0, 1) := by decide +kernel
theorem dL_law_2532 : decode cL_law 2532 = .ok (.ireturn, 1) := by decide +kernel
theorem dL_law_2533 : decode cL_law 2533 = .ok (.goto 128, 3) := by decide +kernel
theorem dL_law_2536 : decode cL_law 2536 = .ok (.aload_n 1, 1) := by decide +kernel
theorem dL_law_2537 : decode cL_law 2537 = .ok (.invokevirtual 290, 3) := by decide +kernel
theorem dL_law_2540 : decode cL_law 2540 = .ok (.aload_n 2, 1) := by decide +kernel
theorem dL_law_2541 : decode cL_law 2541 = .ok (.invokevirtual 294, 3) := by decide +kernel
theorem dL_law_2544 : decode cL_law 2544 = .ok (.if_icmp .eq 117, 3) := by decide +kernel
theorem dL_law_2547 : decode cL_law 2547 = .ok (.iconst 0, 1) := by decide +kernel
theorem dL_law_2548 : decode cL_law 2548 = .ok (.ireturn, 1) := by decide +kernel
theorem dL_law_2549 : decode cL_law 2549 = .ok (.aload_n 1, 1) := by decide +kernel
theorem dL_law_2550 : decode cL_law 2550 = .ok (.aload_n 0, 1) := by decide +kernel
theorem dL_law_2551 : decode cL_law 2551 = .ok (.iload 5, 2) := by decide +kernel
theorem dL_law_2553 : decode cL_law 2553 = .ok (.iconst 1, 1) := by decide +kernel
theorem dL_law_2554 : decode cL_law 2554 = .ok (.iadd, 1) := by decide +kernel
theorem dL_law_2555 : decode cL_law 2555 = .ok (.iaload, 1) := by decide +kernel
theorem dL_law_2556 : decode cL_law 2556 = .ok (.aload_n 3, 1) := by decide +kernel
theorem dL_law_2557 : decode cL_law 2557 = .ok (.invokestatic 295, 3) := by decide +kernel
theorem dL_law_2560 : decode cL_law 2560 = .ok (.istore 6, 2) := by decide +kernel
theorem dL_law_2562 : decode cL_law 2562 = .ok (.aload_n 2, 1) := by decide +kernel
theorem dL_law_2563 : decode cL_law 2563 = .ok (.aload_n 0, 1) := by decide +kernel
theorem dL_law_2564 : decode cL_law 2564 = .ok (.iload 5, 2) := by decide +kernel
theorem dL_law_2566 : decode cL_law 2566 = .ok (.iconst 1, 1) := by decide +kernel
theorem dL_law_2567 : decode cL_law 2567 = .ok (.iadd, 1) := by decide +kernel
theorem dL_law_2568 : decode cL_law 2568 = .ok (.iaload, 1) := by decide +kernel
theorem dL_law_2569 : decode cL_law 2569 = .ok (.invokevirtual 297, 3) := by decide +kernel
theorem dL_law_2572 : decode cL_law 2572 = .ok (.istore 7, 2) := by decide +kernel
theorem dL_law_2574 : decode cL_law 2574 = .ok (.aload_n 2, 1) := by decide +kernel
theorem dL_law_2575 : decode cL_law 2575 = .ok (.invokevirtual 157, 3) := by decide +kernel
theorem dL_law_2578 : decode cL_law 2578 = .ok (.iload 6, 2) := by decide +kernel
theorem dL_law_2580 : decode cL_law 2580 = .ok (.if_icmp .eq 5, 3) := by decide +kernel
theorem dL_law_2583 : decode cL_law 2583 = .ok (.iconst 0, 1) := by decide +kernel
theorem dL_law_2584 : decode cL_law 2584 = .ok (.ireturn, 1) := by decide +kernel
theorem dL_law_2585 : decode cL_law 2585 = .ok (.iload 6, 2) := by decide +kernel
theorem dL_law_2587 : decode cL_law 2587 = .ok (.ifCond .ne 15, 3) := by decide +kernel
theorem dL_law_2590 : decode cL_law 2590 = .ok (.aload_n 3, 1) := by decide +kernel
theorem dL_law_2591 : decode cL_law 2591 = .ok (.iconst 0, 1) := by decide +kernel
theorem dL_law_2592 : decode cL_law 2592 = .ok (.laload, 1) := by decide +kernel
theorem dL_law_2593 : decode cL_law 2593 = .ok (.iload 7, 2) := by decide +kernel
theorem dL_law_2595 : decode cL_law 2595 = .ok (.i2l, 1) := by decide +kernel
theorem dL_law_2596 : decode cL_law 2596 = .ok (.lcmp, 1) := by decide +kernel
theorem dL_law_2597 : decode cL_law 2597 = .ok (.ifCond .eq 5, 3) := by decide +kernel
theorem dL_law_2600 : decode cL_law 2600 = .ok (.iconst 0, 1) := by decide +kernel
theorem dL_law_2601 : decode cL_law 2601 = .ok (.ireturn, 1) := by decide +kernel
theorem dL_law_2602 : decode cL_law 2602 = .ok (.goto 59, 3) := by decide +kernel
theorem dL_law_2605 : decode cL_law 2605 = .ok (.aload_n 1, 1) := by decide +kernel
theorem dL_law_2606 : decode cL_law 2606 = .ok (.aload_n 0, 1) := by decide +kernel
theorem dL_law_2607 : decode cL_law 2607 = .ok (.iload 5, 2) := by decide +kernel
theorem dL_law_2609 : decode cL_law 2609 = .ok (.iconst 1, 1) := by decide +kernel
theorem dL_law_2610 : decode cL_law 2610 = .ok (.iadd, 1) := by decide +kernel
theorem dL_law_2611 : decode cL_law 2611 = .ok (.iaload, 1) := by decide +kernel
theorem dL_law_2612 : decode cL_law 2612 = .ok (.aload_n 3, 1) := by decide +kernel
theorem dL_law_2613 : decode cL_law 2613 = .ok (.invokestatic 298, 3) := by decide +kernel
theorem dL_law_2616 : decode cL_law 2616 = .ok (.istore 6, 2) := by decide +kernel
theorem dL_law_2618 : decode cL_law 2618 = .ok (.aload_n 2, 1) := by decide +kernel
theorem dL_law_2619 : decode cL_law 2619 = .ok (.aload_n 0, 1) := by decide +kernel
theorem dL_law_2620 : decode cL_law 2620 = .ok (.iload 5, 2) := by decide +kernel
theorem dL_law_2622 : decode cL_law 2622 = .ok (.iconst 1, 1) := by decide +kernel
theorem dL_law_2623 : decode cL_law 2623 = .ok (.iadd, 1) := by decide +kernel
theorem dL_law_2624 : decode cL_law 2624 = .ok (.iaload, 1) := by decide +kernel
theorem dL_law_2625 : decode cL_law 2625 = .ok (.invokevirtual 300, 3) := by decide +kernel
theorem dL_law_2628 : decode cL_law 2628 = .ok (.istore 7, 2) := by decide +kernel
theorem dL_law_2630 : decode cL_law 2630 = .ok (.aload_n 2, 1) := by decide +kernel
theorem dL_law_2631 : decode cL_law 2631 = .ok (.invokevirtual 157, 3) := by decide +kernel
theorem dL_law_2634 : decode cL_law 2634 = .ok (.iload 6, 2) := by decide +kernel
theorem dL_law_2636 : decode cL_law 2636 = .ok (.if_icmp .eq 5, 3) := by decide +kernel
theorem dL_law_2639 : decode cL_law 2639 = .ok (.iconst 0, 1) := by decide +kernel
theorem dL_law_2640 : decode cL_law 2640 = .ok (.ireturn, 1) := by decide +kernel
theorem dL_law_2641 : decode cL_law 2641 = .ok (.iload 6, 2) := by decide +kernel
theorem dL_law_2643 : decode cL_law 2643 = .ok (.ifCond .ne 15, 3) := by decide +kernel
theorem dL_law_2646 : decode cL_law 2646 = .ok (.aload_n 3, 1) := by decide +kernel
theorem dL_law_2647 : decode cL_law 2647 = .ok (.iconst 0, 1) := by decide +kernel
theorem dL_law_2648 : decode cL_law 2648 = .ok (.laload, 1) := by decide +kernel
theorem dL_law_2649 : decode cL_law 2649 = .ok (.iload 7, 2) := by decide +kernel
theorem dL_law_2651 : decode cL_law 2651 = .ok (.i2l, 1) := by decide +kernel
theorem dL_law_2652 : decode cL_law 2652 = .ok (.lcmp, 1) := by decide +kernel
theorem dL_law_2653 : decode cL_law 2653 = .ok (.ifCond .eq 5, 3) := by decide +kernel
theorem dL_law_2656 : decode cL_law 2656 = .ok (.iconst 0, 1) := by decide +kernel
theorem dL_law_2657 : decode cL_law 2657 = .ok (.ireturn, 1) := by decide +kernel
theorem dL_law_2658 : decode cL_law 2658 = .ok (.goto 3, 3) := by decide +kernel
theorem dL_law_2661 : decode cL_law 2661 = .ok (.iinc 5 5, 3) := by decide +kernel
theorem dL_law_2664 : decode cL_law 2664 = .ok (.goto (-2636), 3) := by decide +kernel
theorem dL_law_2667 : decode cL_law 2667 = .ok (.iconst 1, 1) := by decide +kernel
theorem dL_law_2668 : decode cL_law 2668 = .ok (.ireturn, 1) := by decide +kernel
