/-! rows of the law's own code -/
theorem dL_law__1620 : decode cL_law_ 1620 = .ok (.aload_n 1, 1) := by decide +kernel
theorem dL_law__1621 : decode cL_law_ 1621 = .ok (.invokevirtual 227, 3) := by decide +kernel
theorem dL_law__1624 : decode cL_law_ 1624 = .ok (.aload_n 2, 1) := by decide +kernel
theorem dL_law__1625 : decode cL_law_ 1625 = .ok (.invokevirtual 230, 3) := by decide +kernel
theorem dL_law__1628 : decode cL_law_ 1628 = .ok (.if_icmp .eq 690, 3) := by decide +kernel
theorem dL_law__1631 : decode cL_law_ 1631 = .ok (.iconst 0, 1) := by decide +kernel
theorem dL_law__1632 : decode cL_law_ 1632 = .ok (.ireturn, 1) := by decide +kernel
theorem dL_law__1633 : decode cL_law_ 1633 = .ok (.aload_n 1, 1) := by decide +kernel
theorem dL_law__1634 : decode cL_law_ 1634 = .ok (.aload_n 0, 1) := by decide +kernel
theorem dL_law__1635 : decode cL_law_ 1635 = .ok (.iload 4, 2) := by decide +kernel
theorem dL_law__1637 : decode cL_law_ 1637 = .ok (.iconst 1, 1) := by decide +kernel
theorem dL_law__1638 : decode cL_law_ 1638 = .ok (.iadd, 1) := by decide +kernel
theorem dL_law__1639 : decode cL_law_ 1639 = .ok (.iaload, 1) := by decide +kernel
theorem dL_law__1640 : decode cL_law_ 1640 = .ok (.aload_n 3, 1) := by decide +kernel
theorem dL_law__1641 : decode cL_law_ 1641 = .ok (.invokestatic 231, 3) := by decide +kernel
theorem dL_law__1644 : decode cL_law_ 1644 = .ok (.istore 5, 2) := by decide +kernel
theorem dL_law__1646 : decode cL_law_ 1646 = .ok (.aload_n 2, 1) := by decide +kernel
theorem dL_law__1647 : decode cL_law_ 1647 = .ok (.aload_n 0, 1) := by decide +kernel
theorem dL_law__1648 : decode cL_law_ 1648 = .ok (.iload 4, 2) := by decide +kernel
theorem dL_law__1650 : decode cL_law_ 1650 = .ok (.iconst 1, 1) := by decide +kernel
theorem dL_law__1651 : decode cL_law_ 1651 = .ok (.iadd, 1) := by decide +kernel
theorem dL_law__1652 : decode cL_law_ 1652 = .ok (.iaload, 1) := by decide +kernel
theorem dL_law__1653 : decode cL_law_ 1653 = .ok (.invokevirtual 233, 3) := by decide +kernel
theorem dL_law__1656 : decode cL_law_ 1656 = .ok (.istore 6, 2) := by decide +kernel
theorem dL_law__1658 : decode cL_law_ 1658 = .ok (.aload_n 2, 1) := by decide +kernel
theorem dL_law__1659 : decode cL_law_ 1659 = .ok (.invokevirtual 125, 3) := by decide +kernel
theorem dL_law__1662 : decode cL_law_ 1662 = .ok (.iload 5, 2) := by decide +kernel
theorem dL_law__1664 : decode cL_law_ 1664 = .ok (.if_icmp .eq 5, 3) := by decide +kernel
theorem dL_law__1667 : decode cL_law_ 1667 = .ok (.iconst 0, 1) := by decide +kernel
theorem dL_law__1668 : decode cL_law_ 1668 = .ok (.ireturn, 1) := by decide +kernel
theorem dL_law__1669 : decode cL_law_ 1669 = .ok (.iload 5, 2) := by decide +kernel
theorem dL_law__1671 : decode cL_law_ 1671 = .ok (.ifCond .ne 15, 3) := by decide +kernel
theorem dL_law__1674 : decode cL_law_ 1674 = .ok (.aload_n 3, 1) := by decide +kernel
theorem dL_law__1675 : decode cL_law_ 1675 = .ok (.iconst 0, 1) := by decide +kernel
theorem dL_law__1676 : decode cL_law_ 1676 = .ok (.laload, 1) := by decide +kernel
theorem dL_law__1677 : decode cL_law_ 1677 = .ok (.iload 6, 2) := by decide +kernel
theorem dL_law__1679 : decode cL_law_ 1679 = .ok (.i2l, 1) := by decide +kernel
theorem dL_law__1680 : decode cL_law_ 1680 = .ok (.lcmp, 1) := by decide +kernel
theorem dL_law__1681 : decode cL_law_ 1681 = .ok (.ifCond .eq 5, 3) := by decide +kernel
theorem dL_law__1684 : decode cL_law_ 1684 = .ok (.iconst 0, 1) := by decide +kernel
theorem dL_law__1685 : decode cL_law_ 1685 = .ok (.ireturn, 1) := by decide +kernel
theorem dL_law__1686 : decode cL_law_ 1686 = .ok (.goto 632, 3) := by decide +kernel
theorem dL_law__1689 : decode cL_law_ 1689 = .ok (.aload_n 1, 1) := by decide +kernel
theorem dL_law__1690 : decode cL_law_ 1690 = .ok (.invokevirtual 234, 3) := by decide +kernel
theorem dL_law__1693 : decode cL_law_ 1693 = .ok (.aload_n 2, 1) := by decide +kernel
theorem dL_law__1694 : decode cL_law_ 1694 = .ok (.invokevirtual 237, 3) := by decide +kernel
theorem dL_law__1697 : decode cL_law_ 1697 = .ok (.if_icmp .eq 621, 3) := by decide +kernel
theorem dL_law__1700 : decode cL_law_ 1700 = .ok (.iconst 0, 1) := by decide +kernel
theorem dL_law__1701 : decode cL_law_ 1701 = .ok (.ireturn, 1) := by decide +kernel
theorem dL_law__1702 : decode cL_law_ 1702 = .ok (.aload_n 1, 1) := by decide +kernel
theorem dL_law__1703 : decode cL_law_ 1703 = .ok (.aload_n 0, 1) := by decide +kernel
theorem dL_law__1704 : decode cL_law_ 1704 = .ok (.iload 4, 2) := by decide +kernel
theorem dL_law__1706 : decode cL_law_ 1706 = .ok (.iconst 1, 1) := by decide +kernel
theorem dL_law__1707 : decode cL_law_ 1707 = .ok (.iadd, 1) := by decide +kernel
theorem dL_law__1708 : decode cL_law_ 1708 = .ok (.iaload, 1) := by decide +kernel
theorem dL_law__1709 : decode cL_law_ 1709 = .ok (.aload_n 3, 1) := by decide +kernel
theorem dL_law__1710 : decode cL_law_ 1710 = .ok (.invokestatic 238, 3) := by decide +kernel
theorem dL_law__1713 : decode cL_law_ 1713 = .ok (.istore 5, 2) := by decide +kernel
theorem dL_law__1715 : decode cL_law_ 1715 = .ok (.aload_n 2, 1) := by decide +kernel
theorem dL_law__1716 : decode cL_law_ 1716 = .ok (.aload_n 0, 1) := by decide +kernel
theorem dL_law__1717 : decode cL_law_ 1717 = .ok (.iload 4, 2) := by decide +kernel
theorem dL_law__1719 : decode cL_law_ 1719 = .ok (.iconst 1, 1) := by decide +kernel
theorem dL_law__1720 : decode cL_law_ 1720 = .ok (.iadd, 1) := by decide +kernel
theorem dL_law__1721 : decode cL_law_ 1721 = .ok (.iaload, 1) := by decide +kernel
theorem dL_law__1722 : decode cL_law_ 1722 = .ok (.invokevirtual 240, 3) := by decide +kernel
theorem dL_law__1725 : decode cL_law_ 1725 = .ok (.istore 6, 2) := by decide +kernel
theorem dL_law__1727 : decode cL_law_ 1727 = .ok (.aload_n 2, 1) := by decide +kernel
theorem dL_law__1728 : decode cL_law_ 1728 = .ok (.invokevirtual 125, 3) := by decide +kernel
theorem dL_law__1731 : decode cL_law_ 1731 = .ok (.iload 5, 2) := by decide +kernel
theorem dL_law__1733 : decode cL_law_ 1733 = .ok (.if_icmp .eq 5, 3) := by decide +kernel
theorem dL_law__1736 : decode cL_law_ 1736 = .ok (.iconst 0, 1) := by decide +kernel
theorem dL_law__1737 : decode cL_law_ 1737 = .ok (.ireturn, 1) := by decide +kernel
theorem dL_law__1738 : decode cL_law_ 1738 = .ok (.iload 5, 2) := by decide +kernel
theorem dL_law__1740 : decode cL_law_ 1740 = .ok (.ifCond .ne 15, 3) := by decide +kernel
theorem dL_law__1743 : decode cL_law_ 1743 = .ok (.aload_n 3, 1) := by decide +kernel
theorem dL_law__1744 : decode cL_law_ 1744 = .ok (.iconst 0, 1) := by decide +kernel
theorem dL_law__1745 : decode cL_law_ 1745 = .ok (.laload, 1) := by decide +kernel
theorem dL_law__1746 : decode cL_law_ 1746 = .ok (.iload 6, 2) := by decide +kernel
theorem dL_law__1748 : decode cL_law_ 1748 = .ok (.i2l, 1) := by decide +kernel
theorem dL_law__1749 : decode cL_law_ 1749 = .ok (.lcmp, 1) := by decide +kernel
theorem dL_law__1750 : decode cL_law_ 1750 = .ok (.ifCond .eq 5, 3) := by decide +kernel
theorem dL_law__1753 : decode cL_law_ 1753 = .ok (.iconst 0, 1) := by decide +kernel
theorem dL_law__1754 : decode cL_law_ 1754 = .ok (.ireturn, 1) := by decide +kernel
theorem dL_law__1755 : decode cL_law_ 1755 = .ok (.goto 563, 3) := by decide +kernel
theorem dL_law__1758 : decode cL_law_ 1758 = .ok (.aload_n 1, 1) := by decide +kernel
theorem dL_law__1759 : decode cL_law_ 1759 = .ok (.aload_n 0, 1) := by decide +kernel
theorem dL_law__1760 : decode cL_law_ 1760 = .ok (.iload 4, 2) := by decide +kernel
theorem dL_law__1762 : decode cL_law_ 1762 = .ok (.iconst 1, 1) := by decide +kernel
theorem dL_law__1763 : decode cL_law_ 1763 = .ok (.iadd, 1) := by decide +kernel
theorem dL_law__1764 : decode cL_law_ 1764 = .ok (.iaload, 1) := by decide +kernel
theorem dL_law__1765 : decode cL_law_ 1765 = .ok (.aload_n 3, 1) := by decide +kernel
theorem dL_law__1766 : decode cL_law_ 1766 = .ok (.invokestatic 241, 3) := by decide +kernel
theorem dL_law__1769 : decode cL_law_ 1769 = .ok (.istore 5, 2) := by decide +kernel
theorem dL_law__1771 : decode cL_law_ 1771 = .ok (.aload_n 2, 1) := by decide +kernel
theorem dL_law__1772 : decode cL_law_ 1772 = .ok (.aload_n 0, 1) := by decide +kernel
theorem dL_law__1773 : decode cL_law_ 1773 = .ok (.iload 4, 2) := by decide +kernel
theorem dL_law__1775 : decode cL_law_ 1775 = .ok (.iconst 1, 1) := by decide +kernel
theorem dL_law__1776 : decode cL_law_ 1776 = .ok (.iadd, 1) := by decide +kernel
theorem dL_law__1777 : decode cL_law_ 1777 = .ok (.iaload, 1) := by decide +kernel
theorem dL_law__1778 : decode cL_law_ 1778 = .ok (.invokevirtual 243, 3) := by decide +kernel
theorem dL_law__1781 : decode cL_law_ 1781 = .ok (.istore 6, 2) := by decide +kernel
theorem dL_law__1783 : decode cL_law_ 1783 = .ok (.aload_n 2, 1) := by decide +kernel
theorem dL_law__1784 : decode cL_law_ 1784 = .ok (.invokevirtual 125, 3) := by decide +kernel
theorem dL_law__1787 : decode cL_law_ 1787 = .ok (.iload 5, 2) := by decide +kernel
theorem dL_law__1789 : decode cL_law_ 1789 = .ok (.if_icmp .eq 5, 3) := by decide +kernel
theorem dL_law__1792 : decode cL_law_ 1792 = .ok (.iconst 0, 1) := by decide +kernel
theorem dL_law__1793 : decode cL_law_ 1793 = .ok (.ireturn, 1) := by decide +kernel
theorem dL_law__1794 : decode cL_law_ 1794 = .ok (.iload 5, 2) := by decide +kernel
theorem dL_law__1796 : decode cL_law_ 1796 = .ok (.ifCond .ne 15, 3) := by decide +kernel
theorem dL_law__1799 : decode cL_law_ 1799 = .ok (.aload_n 3, 1) := by decide +kernel
theorem dL_law__1800 : decode cL_law_ 1800 = .ok (.iconst 0, 1) := by decide +kernel
theorem dL_law__1801 : decode cL_law_ 1801 = .ok (.laload, 1) := by decide +kernel
theorem dL_law__1802 : decode cL_law_ 1802 = .ok (.iload 6, 2) := by decide +kernel
theorem dL_law__1804 : decode cL_law_ 1804 = .ok (.i2l, 1) := by decide +kernel
theorem dL_law__1805 : decode cL_law_ 1805 = .ok (.lcmp, 1) := by decide +kernel
theorem dL_law__1806 : decode cL_law_ 1806 = .ok (.ifCond .eq 5, 3) := by decide +kernel
theorem dL_law__1809 : decode cL_law_ 1809 = .ok (.iconst 0, 1) := by decide +kernel
theorem dL_law__1810 : decode cL_law_ 1810 = .ok (.ireturn, 1) := by decide +kernel
theorem dL_law__1811 : decode cL_law_ 1811 = .ok (.goto 507, 3) := by decide +kernel
theorem dL_law__1814 : decode cL_law_ 1814 = .ok (.aload_n 1, 1) := by decide +kernel
theorem dL_law__1815 : decode cL_law_ 1815 = .ok (.invokevirtual 244, 3) := by decide +kernel
theorem dL_law__1818 : decode cL_law_ 1818 = .ok (.aload_n 2, 1) := by decide +kernel
theorem dL_law__1819 : decode cL_law_ 1819 = .ok (.invokevirtual 247, 3) := by decide +kernel
theorem dL_law__1822 : decode cL_law_ 1822 = .ok (.if_icmp .eq 496, 3) := by decide +kernel
theorem dL_law__1825 : decode cL_law_ 1825 = .ok (.iconst 0, 1) := by decide +kernel
theorem dL_law__1826 : decode cL_law_ 1826 = .ok (.ireturn, 1) := by decide +kernel
theorem dL_law__1827 : decode cL_law_ 1827 = .ok (.aload_n 1, 1) := by decide +kernel
theorem dL_law__1828 : decode cL_law_ 1828 = .ok (.aload_n 0, 1) := by decide +kernel
theorem dL_law__1829 : decode cL_law_ 1829 = .ok (.iload 4, 2) := by decide +kernel
theorem dL_law__1831 : decode cL_law_ 1831 = .ok (.iconst 1, 1) := by decide +kernel
theorem dL_law__1832 : decode cL_law_ 1832 = .ok (.iadd, 1) := by decide +kernel
theorem dL_law__1833 : decode cL_law_ 1833 = .ok (.iaload, 1) := by decide +kernel
theorem dL_law__1834 : decode cL_law_ 1834 = .ok (.aload_n 0, 1) := by decide +kernel
theorem dL_law__1835 : decode cL_law_ 1835 = .ok (.iload 4, 2) := by decide +kernel
theorem dL_law__1837 : decode cL_law_ 1837 = .ok (.iconst 2, 1) := by decide +kernel
theorem dL_law__1838 : decode cL_law_ 1838 = .ok (.iadd, 1) := by decide +kernel
theorem dL_law__1839 : decode cL_law_ 1839 = .ok (.iaload, 1) := by decide +kernel
theorem dL_law__1840 : decode cL_law_ 1840 = .ok (.ifCond .eq 7, 3) := by decide +kernel
theorem dL_law__1843 : decode cL_law_ 1843 = .ok (.iconst 1, 1) := by decide +kernel
theorem dL_law__1844 : decode cL_law_ 1844 = .ok (.goto 4, 3) := by decide +kernel
theorem dL_law__1847 : decode cL_law_ 1847 = .ok (.iconst 0, 1) := by decide +kernel
theorem dL_law__1848 : decode cL_law_ 1848 = .ok (.aload_n 3, 1) := by decide +kernel
theorem dL_law__1849 : decode cL_law_ 1849 = .ok (.invokestatic 248, 3) := by decide +kernel
theorem dL_law__1852 : decode cL_law_ 1852 = .ok (.istore 5, 2) := by decide +kernel
theorem dL_law__1854 : decode cL_law_ 1854 = .ok (.aload_n 2, 1) := by decide +kernel
theorem dL_law__1855 : decode cL_law_ 1855 = .ok (.aload_n 0, 1) := by decide +kernel
theorem dL_law__1856 : decode cL_law_ 1856 = .ok (.iload 4, 2) := by decide +kernel
theorem dL_law__1858 : decode cL_law_ 1858 = .ok (.iconst 1, 1) := by decide +kernel
theorem dL_law__1859 : decode cL_law_ 1859 = .ok (.iadd, 1) := by decide +kernel
theorem dL_law__1860 : decode cL_law_ 1860 = .ok (.iaload, 1) := by decide +kernel
theorem dL_law__1861 : decode cL_law_ 1861 = .ok (.aload_n 0, 1) := by decide +kernel
theorem dL_law__1862 : decode cL_law_ 1862 = .ok (.iload 4, 2) := by decide +kernel
theorem dL_law__1864 : decode cL_law_ 1864 = .ok (.iconst 2, 1) := by decide +kernel
theorem dL_law__1865 : decode cL_law_ 1865 = .ok (.iadd, 1) := by decide +kernel
theorem dL_law__1866 : decode cL_law_ 1866 = .ok (.iaload, 1) := by decide +kernel
theorem dL_law__1867 : decode cL_law_ 1867 = .ok (.ifCond .eq 7, 3) := by decide +kernel
theorem dL_law__1870 : decode cL_law_ 1870 = .ok (.iconst 1, 1) := by decide +kernel
theorem dL_law__1871 : decode cL_law_ 1871 = .ok (.goto 4, 3) := by decide +kernel
theorem dL_law__1874 : decode cL_law_ 1874 = .ok (.iconst 0, 1) := by decide +kernel
theorem dL_law__1875 : decode cL_law_ 1875 = .ok (.invokevirtual 251, 3) := by decide +kernel
theorem dL_law__1878 : decode cL_law_ 1878 = .ok (.istore 6, 2) := by decide +kernel
theorem dL_law__1880 : decode cL_law_ 1880 = .ok (.aload_n 2, 1) := by decide +kernel
theorem dL_law__1881 : decode cL_law_ 1881 = .ok (.invokevirtual 125, 3) := by decide +kernel
theorem dL_law__1884 : decode cL_law_ 1884 = .ok (.iload 5, 2) := by decide +kernel
theorem dL_law__1886 : decode cL_law_ 1886 = .ok (.if_icmp .eq 5, 3) := by decide +kernel
theorem dL_law__1889 : decode cL_law_ 1889 = .ok (.iconst 0, 1) := by decide +kernel
theorem dL_law__1890 : decode cL_law_ 1890 = .ok (.ireturn, 1) := by decide +kernel
theorem dL_law__1891 : decode cL_law_ 1891 = .ok (.iload 5, 2) := by decide +kernel
theorem dL_law__1893 : decode cL_law_ 1893 = .ok (.ifCond .ne 15, 3) := by decide +kernel
theorem dL_law__1896 : decode cL_law_ 1896 = .ok (.aload_n 3, 1) := by decide +kernel
theorem dL_law__1897 : decode cL_law_ 1897 = .ok (.iconst 0, 1) := by decide +kernel
theorem dL_law__1898 : decode cL_law_ 1898 = .ok (.laload, 1) := by decide +kernel
theorem dL_law__1899 : decode cL_law_ 1899 = .ok (.iload 6, 2) := by decide +kernel
theorem dL_law__1901 : decode cL_law_ 1901 = .ok (.i2l, 1) := by decide +kernel
theorem dL_law__1902 : decode cL_law_ 1902 = .ok (.lcmp, 1) := by decide +kernel
theorem dL_law__1903 : decode cL_law_ 1903 = .ok (.ifCond .eq 5, 3) := by decide +kernel
theorem dL_law__1906 : decode cL_law_ 1906 = .ok (.iconst 0, 1) := by decide +kernel
theorem dL_law__1907 : decode cL_law_ 1907 = .ok (.ireturn, 1) := by decide +kernel
theorem dL_law__1908 : decode cL_law_ 1908 = .ok (.goto 410, 3) := by decide +kernel
theorem dL_law__1911 : decode cL_law_ 1911 = .ok (.aload_n 1, 1) := by decide +kernel
theorem dL_law__1912 : decode cL_law_ 1912 = .ok (.aload_n 0, 1) := by decide +kernel
theorem dL_law__1913 : decode cL_law_ 1913 = .ok (.iload 4, 2) := by decide +kernel
theorem dL_law__1915 : decode cL_law_ 1915 = .ok (.iconst 1, 1) := by decide +kernel
theorem dL_law__1916 : decode cL_law_ 1916 = .ok (.iadd, 1) := by decide +kernel
theorem dL_law__1917 : decode cL_law_ 1917 = .ok (.iaload, 1) := by decide +kernel
theorem dL_law__1918 : decode cL_law_ 1918 = .ok (.aload_n 0, 1) := by decide +kernel
theorem dL_law__1919 : decode cL_law_ 1919 = .ok (.iload 4, 2) := by decide +kernel
theorem dL_law__1921 : decode cL_law_ 1921 = .ok (.iconst 2, 1) := by decide +kernel
theorem dL_law__1922 : decode cL_law_ 1922 = .ok (.iadd, 1) := by decide +kernel
theorem dL_law__1923 : decode cL_law_ 1923 = .ok (.iaload, 1) := by decide +kernel
theorem dL_law__1924 : decode cL_law_ 1924 = .ok (.ifCond .eq 7, 3) := by decide +kernel
theorem dL_law__1927 : decode cL_law_ 1927 = .ok (.iconst 1, 1) := by decide +kernel
theorem dL_law__1928 : decode cL_law_ 1928 = .ok (.goto 4, 3) := by decide +kernel
theorem dL_law__1931 : decode cL_law_ 1931 = .ok (.iconst 0, 1) := by decide +kernel
theorem dL_law__1932 : decode cL_law_ 1932 = .ok (.aload_n 3, 1) := by decide +kernel
theorem dL_law__1933 : decode cL_law_ 1933 = .ok (.invokestatic 252, 3) := by decide +kernel
theorem dL_law__1936 : decode cL_law_ 1936 = .ok (.istore 5, 2) := by decide +kernel
theorem dL_law__1938 : decode cL_law_ 1938 = .ok (.aload_n 2, 1) := by decide +kernel
theorem dL_law__1939 : decode cL_law_ 1939 = .ok (.aload_n 0, 1) := by decide +kernel
theorem dL_law__1940 : decode cL_law_ 1940 = .ok (.iload 4, 2) := by decide +kernel
theorem dL_law__1942 : decode cL_law_ 1942 = .ok (.iconst 1, 1) := by decide +kernel
theorem dL_law__1943 : decode cL_law_ 1943 = .ok (.iadd, 1) := by decide +kernel
theorem dL_law__1944 : decode cL_law_ 1944 = .ok (.iaload, 1) := by decide +kernel
theorem dL_law__1945 : decode cL_law_ 1945 = .ok (.aload_n 0, 1) := by decide +kernel
theorem dL_law__1946 : decode cL_law_ 1946 = .ok (.iload 4, 2) := by decide +kernel
theorem dL_law__1948 : decode cL_law_ 1948 = .ok (.iconst 2, 1) := by decide +kernel
theorem dL_law__1949 : decode cL_law_ 1949 = .ok (.iadd, 1) := by decide +kernel
theorem dL_law__1950 : decode cL_law_ 1950 = .ok (.iaload, 1) := by decide +kernel
theorem dL_law__1951 : decode cL_law_ 1951 = .ok (.ifCond .eq 7, 3) := by decide +kernel
theorem dL_law__1954 : decode cL_law_ 1954 = .ok (.iconst 1, 1) := by decide +kernel
theorem dL_law__1955 : decode cL_law_ 1955 = .ok (.goto 4, 3) := by decide +kernel
theorem dL_law__1958 : decode cL_law_ 1958 = .ok (.iconst 0, 1) := by decide +kernel
theorem dL_law__1959 : decode cL_law_ 1959 = .ok (.invokevirtual 254, 3) := by decide +kernel
theorem dL_law__1962 : decode cL_law_ 1962 = .ok (.istore 6, 2) := by decide +kernel
theorem dL_law__1964 : decode cL_law_ 1964 = .ok (.aload_n 2, 1) := by decide +kernel
theorem dL_law__1965 : decode cL_law_ 1965 = .ok (.invokevirtual 125, 3) := by decide +kernel
theorem dL_law__1968 : decode cL_law_ 1968 = .ok (.iload 5, 2) := by decide +kernel
theorem dL_law__1970 : decode cL_law_ 1970 = .ok (.if_icmp .eq 5, 3) := by decide +kernel
theorem dL_law__1973 : decode cL_law_ 1973 = .ok (.iconst 0, 1) := by decide +kernel
theorem dL_law__1974 : decode cL_law_ 1974 = .ok (.ireturn, 1) := by decide +kernel
theorem dL_law__1975 : decode cL_law_ 1975 = .ok (.iload 5, 2) := by decide +kernel
theorem dL_law__1977 : decode cL_law_ 1977 = .ok (.ifCond .ne 15, 3) := by decide +kernel
