theorem dL_law__1659 : decode cL_law_ 1659 = .ok (.aload_n 0, 1) := by decide +kernel
theorem dL_law__1660 : decode cL_law_ 1660 = .ok (.iload 4, 2) := by decide +kernel
theorem dL_law__1662 : decode cL_law_ 1662 = .ok (.iconst 1, 1) := by decide +kernel
theorem dL_law__1663 : decode cL_law_ 1663 = .ok (.iadd, 1) := by decide +kernel
theorem dL_law__1664 : decode cL_law_ 1664 = .ok (.iaload, 1) := by decide +kernel
theorem dL_law__1665 : decode cL_law_ 1665 = .ok (.aload_n 0, 1) := by decide +kernel
theorem dL_law__1666 : decode cL_law_ 1666 = .ok (.iload 4, 2) := by decide +kernel
theorem dL_law__1668 : decode cL_law_ 1668 = .ok (.iconst 2, 1) := by decide +kernel
theorem dL_law__1669 : decode cL_law_ 1669 = .ok (.iadd, 1) := by decide +kernel
theorem dL_law__1670 : decode cL_law_ 1670 = .ok (.iaload, 1) := by decide +kernel
theorem dL_law__1671 : decode cL_law_ 1671 = .ok (.aload_n 0, 1) := by decide +kernel
theorem dL_law__1672 : decode cL_law_ 1672 = .ok (.iload 4, 2) := by decide +kernel
theorem dL_law__1674 : decode cL_law_ 1674 = .ok (.iconst 3, 1) := by decide +kernel
theorem dL_law__1675 : decode cL_law_ 1675 = .ok (.iadd, 1) := by decide +kernel
theorem dL_law__1676 : decode cL_law_ 1676 = .ok (.iaload, 1) := by decide +kernel
theorem dL_law__1677 : decode cL_law_ 1677 = .ok (.aload_n 0, 1) := by decide +kernel
theorem dL_law__1678 : decode cL_law_ 1678 = .ok (.iload 4, 2) := by decide +kernel
theorem dL_law__1680 : decode cL_law_ 1680 = .ok (.iconst 4, 1) := by decide +kernel
theorem dL_law__1681 : decode cL_law_ 1681 = .ok (.iadd, 1) := by decide +kernel
theorem dL_law__1682 : decode cL_law_ 1682 = .ok (.iaload, 1) := by decide +kernel
theorem dL_law__1683 : decode cL_law_ 1683 = .ok (.aload_n 0, 1) := by decide +kernel
theorem dL_law__1684 : decode cL_law_ 1684 = .ok (.iload 4, 2) := by decide +kernel
theorem dL_law__1686 : decode cL_law_ 1686 = .ok (.iconst 5, 1) := by decide +kernel
theorem dL_law__1687 : decode cL_law_ 1687 = .ok (.iadd, 1) := by decide +kernel
theorem dL_law__1688 : decode cL_law_ 1688 = .ok (.iaload, 1) := by decide +kernel
theorem dL_law__1689 : decode cL_law_ 1689 = .ok (.aload_n 0, 1) := by decide +kernel
theorem dL_law__1690 : decode cL_law_ 1690 = .ok (.iload 4, 2) := by decide +kernel
theorem dL_law__1692 : decode cL_law_ 1692 = .ok (.bipush 6, 2) := by decide +kernel
theorem dL_law__1694 : decode cL_law_ 1694 = .ok (.iadd, 1) := by decide +kernel
theorem dL_law__1695 : decode cL_law_ 1695 = .ok (.iaload, 1) := by decide +kernel
theorem dL_law__1696 : decode cL_law_ 1696 = .ok (.aload_n 3, 1) := by decide +kernel
theorem dL_law__1697 : decode cL_law_ 1697 = .ok (.invokestatic 197, 3) := by decide +kernel
theorem dL_law__1700 : decode cL_law_ 1700 = .ok (.istore 5, 2) := by decide +kernel
theorem dL_law__1702 : decode cL_law_ 1702 = .ok (.aload_n 2, 1) := by decide +kernel
theorem dL_law__1703 : decode cL_law_ 1703 = .ok (.aload_n 0, 1) := by decide +kernel
theorem dL_law__1704 : decode cL_law_ 1704 = .ok (.iload 4, 2) := by decide +kernel
theorem dL_law__1706 : decode cL_law_ 1706 = .ok (.iconst 1, 1) := by decide +kernel
theorem dL_law__1707 : decode cL_law_ 1707 = .ok (.iadd, 1) := by decide +kernel
theorem dL_law__1708 : decode cL_law_ 1708 = .ok (.iaload, 1) := by decide +kernel
theorem dL_law__1709 : decode cL_law_ 1709 = .ok (.aload_n 0, 1) := by decide +kernel
theorem dL_law__1710 : decode cL_law_ 1710 = .ok (.iload 4, 2) := by decide +kernel
theorem dL_law__1712 : decode cL_law_ 1712 = .ok (.iconst 2, 1) := by decide +kernel
theorem dL_law__1713 : decode cL_law_ 1713 = .ok (.iadd, 1) := by decide +kernel
theorem dL_law__1714 : decode cL_law_ 1714 = .ok (.iaload, 1) := by decide +kernel
theorem dL_law__1715 : decode cL_law_ 1715 = .ok (.aload_n 0, 1) := by decide +kernel
theorem dL_law__1716 : decode cL_law_ 1716 = .ok (.iload 4, 2) := by decide +kernel
theorem dL_law__1718 : decode cL_law_ 1718 = .ok (.iconst 3, 1) := by decide +kernel
theorem dL_law__1719 : decode cL_law_ 1719 = .ok (.iadd, 1) := by decide +kernel
theorem dL_law__1720 : decode cL_law_ 1720 = .ok (.iaload, 1) := by decide +kernel
theorem dL_law__1721 : decode cL_law_ 1721 = .ok (.aload_n 0, 1) := by decide +kernel
theorem dL_law__1722 : decode cL_law_ 1722 = .ok (.iload 4, 2) := by decide +kernel
theorem dL_law__1724 : decode cL_law_ 1724 = .ok (.iconst 4, 1) := by decide +kernel
theorem dL_law__1725 : decode cL_law_ 1725 = .ok (.iadd, 1) := by decide +kernel
theorem dL_law__1726 : decode cL_law_ 1726 = .ok (.iaload, 1) := by decide +kernel
theorem dL_law__1727 : decode cL_law_ 1727 = .ok (.aload_n 0, 1) := by decide +kernel
theorem dL_law__1728 : decode cL_law_ 1728 = .ok (.iload 4, 2) := by decide +kernel
theorem dL_law__1730 : decode cL_law_ 1730 = .ok (.iconst 5, 1) := by decide +kernel
theorem dL_law__1731 : decode cL_law_ 1731 = .ok (.iadd, 1) := by decide +kernel
theorem dL_law__1732 : decode cL_law_ 1732 = .ok (.iaload, 1) := by decide +kernel
theorem dL_law__1733 : decode cL_law_ 1733 = .ok (.aload_n 0, 1) := by decide +kernel
theorem dL_law__1734 : decode cL_law_ 1734 = .ok (.iload 4, 2) := by decide +kernel
theorem dL_law__1736 : decode cL_law_ 1736 = .ok (.bipush 6, 2) := by decide +kernel
theorem dL_law__1738 : decode cL_law_ 1738 = .ok (.iadd, 1) := by decide +kernel
theorem dL_law__1739 : decode cL_law_ 1739 = .ok (.iaload, 1) := by decide +kernel
theorem dL_law__1740 : decode cL_law_ 1740 = .ok (.invokevirtual 200, 3) := by decide +kernel
theorem dL_law__1743 : decode cL_law_ 1743 = .ok (.istore 6, 2) := by decide +kernel
theorem dL_law__1745 : decode cL_law_ 1745 = .ok (.aload_n 2, 1) := by decide +kernel
theorem dL_law__1746 : decode cL_law_ 1746 = .ok (.invokevirtual 129, 3) := by decide +kernel
theorem dL_law__1749 : decode cL_law_ 1749 = .ok (.iload 5, 2) := by decide +kernel
theorem dL_law__1751 : decode cL_law_ 1751 = .ok (.if_icmp .eq 5, 3) := by decide +kernel
theorem dL_law__1754 : decode cL_law_ 1754 = .ok (.iconst 0, 1) := by decide +kernel
theorem dL_law__1755 : decode cL_law_ 1755 = .ok (.ireturn, 1) := by decide +kernel
theorem dL_law__1756 : decode cL_law_ 1756 = .ok (.iload 5, 2) := by decide +kernel
theorem dL_law__1758 : decode cL_law_ 1758 = .ok (.ifCond .ne 15, 3) := by decide +kernel
theorem dL_law__1761 : decode cL_law_ 1761 = .ok (.aload_n 3, 1) := by decide +kernel
theorem dL_law__1762 : decode cL_law_ 1762 = .ok (.iconst 0, 1) := by decide +kernel
theorem dL_law__1763 : decode cL_law_ 1763 = .ok (.laload, 1) := by decide +kernel
theorem dL_law__1764 : decode cL_law_ 1764 = .ok (.iload 6, 2) := by decide +kernel
theorem dL_law__1766 : decode cL_law_ 1766 = .ok (.i2l, 1) := by decide +kernel
theorem dL_law__1767 : decode cL_law_ 1767 = .ok (.lcmp, 1) := by decide +kernel
theorem dL_law__1768 : decode cL_law_ 1768 = .ok (.ifCond .eq 5, 3) := by decide +kernel
theorem dL_law__1771 : decode cL_law_ 1771 = .ok (.iconst 0, 1) := by decide +kernel
theorem dL_law__1772 : decode cL_law_ 1772 = .ok (.ireturn, 1) := by decide +kernel
theorem dL_law__1773 : decode cL_law_ 1773 = .ok (.goto 798, 3) := by decide +kernel
theorem dL_law__1776 : decode cL_law_ 1776 = .ok (.aload_n 1, 1) := by decide +kernel
theorem dL_law__1777 : decode cL_law_ 1777 = .ok (.aload_n 0, 1) := by decide +kernel
theorem dL_law__1778 : decode cL_law_ 1778 = .ok (.iload 4, 2) := by decide +kernel
theorem dL_law__1780 : decode cL_law_ 1780 = .ok (.iconst 1, 1) := by decide +kernel
theorem dL_law__1781 : decode cL_law_ 1781 = .ok (.iadd, 1) := by decide +kernel
theorem dL_law__1782 : decode cL_law_ 1782 = .ok (.iaload, 1) := by decide +kernel
theorem dL_law__1783 : decode cL_law_ 1783 = .ok (.aload_n 0, 1) := by decide +kernel
theorem dL_law__1784 : decode cL_law_ 1784 = .ok (.iload 4, 2) := by decide +kernel
theorem dL_law__1786 : decode cL_law_ 1786 = .ok (.iconst 2, 1) := by decide +kernel
theorem dL_law__1787 : decode cL_law_ 1787 = .ok (.iadd, 1) := by decide +kernel
theorem dL_law__1788 : decode cL_law_ 1788 = .ok (.iaload, 1) := by decide +kernel
theorem dL_law__1789 : decode cL_law_ 1789 = .ok (.aload_n 0, 1) := by decide +kernel
theorem dL_law__1790 : decode cL_law_ 1790 = .ok (.iload 4, 2) := by decide +kernel
theorem dL_law__1792 : decode cL_law_ 1792 = .ok (.iconst 3, 1) := by decide +kernel
theorem dL_law__1793 : decode cL_law_ 1793 = .ok (.iadd, 1) := by decide +kernel
theorem dL_law__1794 : decode cL_law_ 1794 = .ok (.iaload, 1) := by decide +kernel
theorem dL_law__1795 : decode cL_law_ 1795 = .ok (.aload_n 0, 1) := by decide +kernel
theorem dL_law__1796 : decode cL_law_ 1796 = .ok (.iload 4, 2) := by decide +kernel
theorem dL_law__1798 : decode cL_law_ 1798 = .ok (.iconst 4, 1) := by decide +kernel
theorem dL_law__1799 : decode cL_law_ 1799 = .ok (.iadd, 1) := by decide +kernel
theorem dL_law__1800 : decode cL_law_ 1800 = .ok (.iaload, 1) := by decide +kernel
theorem dL_law__1801 : decode cL_law_ 1801 = .ok (.aload_n 3, 1) := by decide +kernel
theorem dL_law__1802 : decode cL_law_ 1802 = .ok (.invokestatic 201, 3) := by decide +kernel
theorem dL_law__1805 : decode cL_law_ 1805 = .ok (.istore 5, 2) := by decide +kernel
theorem dL_law__1807 : decode cL_law_ 1807 = .ok (.aload_n 2, 1) := by decide +kernel
theorem dL_law__1808 : decode cL_law_ 1808 = .ok (.aload_n 0, 1) := by decide +kernel
theorem dL_law__1809 : decode cL_law_ 1809 = .ok (.iload 4, 2) := by decide +kernel
theorem dL_law__1811 : decode cL_law_ 1811 = .ok (.iconst 1, 1) := by decide +kernel
theorem dL_law__1812 : decode cL_law_ 1812 = .ok (.iadd, 1) := by decide +kernel
theorem dL_law__1813 : decode cL_law_ 1813 = .ok (.iaload, 1) := by decide +kernel
theorem dL_law__1814 : decode cL_law_ 1814 = .ok (.aload_n 0, 1) := by decide +kernel
theorem dL_law__1815 : decode cL_law_ 1815 = .ok (.iload 4, 2) := by decide +kernel
theorem dL_law__1817 : decode cL_law_ 1817 = .ok (.iconst 2, 1) := by decide +kernel
theorem dL_law__1818 : decode cL_law_ 1818 = .ok (.iadd, 1) := by decide +kernel
theorem dL_law__1819 : decode cL_law_ 1819 = .ok (.iaload, 1) := by decide +kernel
theorem dL_law__1820 : decode cL_law_ 1820 = .ok (.aload_n 0, 1) := by decide +kernel
theorem dL_law__1821 : decode cL_law_ 1821 = .ok (.iload 4, 2) := by decide +kernel
theorem dL_law__1823 : decode cL_law_ 1823 = .ok (.iconst 3, 1) := by decide +kernel
theorem dL_law__1824 : decode cL_law_ 1824 = .ok (.iadd, 1) := by decide +kernel
theorem dL_law__1825 : decode cL_law_ 1825 = .ok (.iaload, 1) := by decide +kernel
theorem dL_law__1826 : decode cL_law_ 1826 = .ok (.aload_n 0, 1) := by decide +kernel
theorem dL_law__1827 : decode cL_law_ 1827 = .ok (.iload 4, 2) := by decide +kernel
theorem dL_law__1829 : decode cL_law_ 1829 = .ok (.iconst 4, 1) := by decide +kernel
theorem dL_law__1830 : decode cL_law_ 1830 = .ok (.iadd, 1) := by decide +kernel
theorem dL_law__1831 : decode cL_law_ 1831 = .ok (.iaload, 1) := by decide +kernel
theorem dL_law__1832 : decode cL_law_ 1832 = .ok (.invokevirtual 203, 3) := by decide +kernel
theorem dL_law__1835 : decode cL_law_ 1835 = .ok (.istore 6, 2) := by decide +kernel
theorem dL_law__1837 : decode cL_law_ 1837 = .ok (.aload_n 2, 1) := by decide +kernel
theorem dL_law__1838 : decode cL_law_ 1838 = .ok (.invokevirtual 129, 3) := by decide +kernel
theorem dL_law__1841 : decode cL_law_ 1841 = .ok (.iload 5, 2) := by decide +kernel
theorem dL_law__1843 : decode cL_law_ 1843 = .ok (.if_icmp .eq 5, 3) := by decide +kernel
theorem dL_law__1846 : decode cL_law_ 1846 = .ok (.iconst 0, 1) := by decide +kernel
theorem dL_law__1847 : decode cL_law_ 1847 = .ok (.ireturn, 1) := by decide +kernel
theorem dL_law__1848 : decode cL_law_ 1848 = .ok (.iload 5, 2) := by decide +kernel
theorem dL_law__1850 : decode cL_law_ 1850 = .ok (.ifCond .ne 15, 3) := by decide +kernel
theorem dL_law__1853 : decode cL_law_ 1853 = .ok (.aload_n 3, 1) := by decide +kernel
theorem dL_law__1854 : decode cL_law_ 1854 = .ok (.iconst 0, 1) := by decide +kernel
theorem dL_law__1855 : decode cL_law_ 1855 = .ok (.laload, 1) := by decide +kernel
theorem dL_law__1856 : decode cL_law_ 1856 = .ok (.iload 6, 2) := by decide +kernel
theorem dL_law__1858 : decode cL_law_ 1858 = .ok (.i2l, 1) := by decide +kernel
theorem dL_law__1859 : decode cL_law_ 1859 = .ok (.lcmp, 1) := by decide +kernel
theorem dL_law__1860 : decode cL_law_ 1860 = .ok (.ifCond .eq 5, 3) := by decide +kernel
theorem dL_law__1863 : decode cL_law_ 1863 = .ok (.iconst 0, 1) := by decide +kernel
theorem dL_law__1864 : decode cL_law_ 1864 = .ok (.ireturn, 1) := by decide +kernel
theorem dL_law__1865 : decode cL_law_ 1865 = .ok (.goto 706, 3) := by decide +kernel
theorem dL_law__1868 : decode cL_law_ 1868 = .ok (.aload_n 1, 1) := by decide +kernel
theorem dL_law__1869 : decode cL_law_ 1869 = .ok (.aload_n 0, 1) := by decide +kernel
theorem dL_law__1870 : decode cL_law_ 1870 = .ok (.iload 4, 2) := by decide +kernel
theorem dL_law__1872 : decode cL_law_ 1872 = .ok (.iconst 1, 1) := by decide +kernel
theorem dL_law__1873 : decode cL_law_ 1873 = .ok (.iadd, 1) := by decide +kernel
theorem dL_law__1874 : decode cL_law_ 1874 = .ok (.iaload, 1) := by decide +kernel
theorem dL_law__1875 : decode cL_law_ 1875 = .ok (.aload_n 0, 1) := by decide +kernel
theorem dL_law__1876 : decode cL_law_ 1876 = .ok (.iload 4, 2) := by decide +kernel
theorem dL_law__1878 : decode cL_law_ 1878 = .ok (.iconst 2, 1) := by decide +kernel
theorem dL_law__1879 : decode cL_law_ 1879 = .ok (.iadd, 1) := by decide +kernel
theorem dL_law__1880 : decode cL_law_ 1880 = .ok (.iaload, 1) := by decide +kernel
theorem dL_law__1881 : decode cL_law_ 1881 = .ok (.aload_n 0, 1) := by decide +kernel
theorem dL_law__1882 : decode cL_law_ 1882 = .ok (.iload 4, 2) := by decide +kernel
theorem dL_law__1884 : decode cL_law_ 1884 = .ok (.iconst 3, 1) := by decide +kernel
theorem dL_law__1885 : decode cL_law_ 1885 = .ok (.iadd, 1) := by decide +kernel
theorem dL_law__1886 : decode cL_law_ 1886 = .ok (.iaload, 1) := by decide +kernel
theorem dL_law__1887 : decode cL_law_ 1887 = .ok (.aload_n 0, 1) := by decide +kernel
theorem dL_law__1888 : decode cL_law_ 1888 = .ok (.iload 4, 2) := by decide +kernel
theorem dL_law__1890 : decode cL_law_ 1890 = .ok (.iconst 4, 1) := by decide +kernel
theorem dL_law__1891 : decode cL_law_ 1891 = .ok (.iadd, 1) := by decide +kernel
theorem dL_law__1892 : decode cL_law_ 1892 = .ok (.iaload, 1) := by decide +kernel
theorem dL_law__1893 : decode cL_law_ 1893 = .ok (.ifCond .eq 7, 3) := by decide +kernel
theorem dL_law__1896 : decode cL_law_ 1896 = .ok (.iconst 1, 1) := by decide +kernel
theorem dL_law__1897 : decode cL_law_ 1897 = .ok (.goto 4, 3) := by decide +kernel
theorem dL_law__1900 : decode cL_law_ 1900 = .ok (.iconst 0, 1) := by decide +kernel
theorem dL_law__1901 : decode cL_law_ 1901 = .ok (.aload_n 3, 1) := by decide +kernel
theorem dL_law__1902 : decode cL_law_ 1902 = .ok (.invokestatic 204, 3) := by decide +kernel
theorem dL_law__1905 : decode cL_law_ 1905 = .ok (.istore 5, 2) := by decide +kernel
theorem dL_law__1907 : decode cL_law_ 1907 = .ok (.aload_n 2, 1) := by decide +kernel
theorem dL_law__1908 : decode cL_law_ 1908 = .ok (.aload_n 0, 1) := by decide +kernel
theorem dL_law__1909 : decode cL_law_ 1909 = .ok (.iload 4, 2) := by decide +kernel
theorem dL_law__1911 : decode cL_law_ 1911 = .ok (.iconst 1, 1) := by decide +kernel
theorem dL_law__1912 : decode cL_law_ 1912 = .ok (.iadd, 1) := by decide +kernel
theorem dL_law__1913 : decode cL_law_ 1913 = .ok (.iaload, 1) := by decide +kernel
theorem dL_law__1914 : decode cL_law_ 1914 = .ok (.aload_n 0, 1) := by decide +kernel
theorem dL_law__1915 : decode cL_law_ 1915 = .ok (.iload 4, 2) := by decide +kernel
theorem dL_law__1917 : decode cL_law_ 1917 = .ok (.iconst 2, 1) := by decide +kernel
theorem dL_law__1918 : decode cL_law_ 1918 = .ok (.iadd, 1) := by decide +kernel
theorem dL_law__1919 : decode cL_law_ 1919 = .ok (.iaload, 1) := by decide +kernel
theorem dL_law__1920 : decode cL_law_ 1920 = .ok (.aload_n 0, 1) := by decide +kernel
theorem dL_law__1921 : decode cL_law_ 1921 = .ok (.iload 4, 2) := by decide +kernel
theorem dL_law__1923 : decode cL_law_ 1923 = .ok (.iconst 3, 1) := by decide +kernel
theorem dL_law__1924 : decode cL_law_ 1924 = .ok (.iadd, 1) := by decide +kernel
theorem dL_law__1925 : decode cL_law_ 1925 = .ok (.iaload, 1) := by decide +kernel
theorem dL_law__1926 : decode cL_law_ 1926 = .ok (.aload_n 0, 1) := by decide +kernel
theorem dL_law__1927 : decode cL_law_ 1927 = .ok (.iload 4, 2) := by decide +kernel
theorem dL_law__1929 : decode cL_law_ 1929 = .ok (.iconst 4, 1) := by decide +kernel
theorem dL_law__1930 : decode cL_law_ 1930 = .ok (.iadd, 1) := by decide +kernel
theorem dL_law__1931 : decode cL_law_ 1931 = .ok (.iaload, 1) := by decide +kernel
theorem dL_law__1932 : decode cL_law_ 1932 = .ok (.ifCond .eq 7, 3) := by decide +kernel
theorem dL_law__1935 : decode cL_law_ 1935 = .ok (.iconst 1, 1) := by decide +kernel
