theorem dL_1728 : decode code 1728 = .ok (.aload_n 0, 1) := by decide +kernel
theorem dL_1729 : decode code 1729 = .ok (.iload_n 3, 1) := by decide +kernel
theorem dL_1730 : decode code 1730 = .ok (.iconst 2, 1) := by decide +kernel
theorem dL_1731 : decode code 1731 = .ok (.iadd, 1) := by decide +kernel
theorem dL_1732 : decode code 1732 = .ok (.iaload, 1) := by decide +kernel
theorem dL_1733 : decode code 1733 = .ok (.invokevirtual 237, 3) := by decide +kernel
theorem dL_1736 : decode code 1736 = .ok (.if_icmp .eq 618, 3) := by decide +kernel
theorem dL_1741 : decode code 1741 = .ok (.aload_n 1, 1) := by decide +kernel
theorem dL_1742 : decode code 1742 = .ok (.aload_n 0, 1) := by decide +kernel
theorem dL_1743 : decode code 1743 = .ok (.iload_n 3, 1) := by decide +kernel
theorem dL_1744 : decode code 1744 = .ok (.iconst 1, 1) := by decide +kernel
theorem dL_1745 : decode code 1745 = .ok (.iadd, 1) := by decide +kernel
theorem dL_1746 : decode code 1746 = .ok (.iaload, 1) := by decide +kernel
theorem dL_1747 : decode code 1747 = .ok (.aload_n 0, 1) := by decide +kernel
theorem dL_1748 : decode code 1748 = .ok (.iload_n 3, 1) := by decide +kernel
theorem dL_1749 : decode code 1749 = .ok (.iconst 2, 1) := by decide +kernel
theorem dL_1750 : decode code 1750 = .ok (.iadd, 1) := by decide +kernel
theorem dL_1751 : decode code 1751 = .ok (.iaload, 1) := by decide +kernel
theorem dL_1752 : decode code 1752 = .ok (.invokevirtual 238, 3) := by decide +kernel
theorem dL_1755 : decode code 1755 = .ok (.aload_n 2, 1) := by decide +kernel
theorem dL_1756 : decode code 1756 = .ok (.aload_n 0, 1) := by decide +kernel
theorem dL_1757 : decode code 1757 = .ok (.iload_n 3, 1) := by decide +kernel
theorem dL_1758 : decode code 1758 = .ok (.iconst 1, 1) := by decide +kernel
theorem dL_1759 : decode code 1759 = .ok (.iadd, 1) := by decide +kernel
theorem dL_1760 : decode code 1760 = .ok (.iaload, 1) := by decide +kernel
theorem dL_1761 : decode code 1761 = .ok (.aload_n 0, 1) := by decide +kernel
theorem dL_1762 : decode code 1762 = .ok (.iload_n 3, 1) := by decide +kernel
theorem dL_1763 : decode code 1763 = .ok (.iconst 2, 1) := by decide +kernel
theorem dL_1764 : decode code 1764 = .ok (.iadd, 1) := by decide +kernel
theorem dL_1765 : decode code 1765 = .ok (.iaload, 1) := by decide +kernel
theorem dL_1766 : decode code 1766 = .ok (.invokevirtual 241, 3) := by decide +kernel
theorem dL_1769 : decode code 1769 = .ok (.if_icmp .eq 585, 3) := by decide +kernel
theorem dL_1774 : decode code 1774 = .ok (.aload_n 1, 1) := by decide +kernel
theorem dL_1775 : decode code 1775 = .ok (.aload_n 0, 1) := by decide +kernel
theorem dL_1776 : decode code 1776 = .ok (.iload_n 3, 1) := by decide +kernel
theorem dL_1777 : decode code 1777 = .ok (.iconst 1, 1) := by decide +kernel
theorem dL_1778 : decode code 1778 = .ok (.iadd, 1) := by decide +kernel
theorem dL_1779 : decode code 1779 = .ok (.iaload, 1) := by decide +kernel
theorem dL_1780 : decode code 1780 = .ok (.aload_n 0, 1) := by decide +kernel
theorem dL_1781 : decode code 1781 = .ok (.iload_n 3, 1) := by decide +kernel
theorem dL_1782 : decode code 1782 = .ok (.iconst 2, 1) := by decide +kernel
theorem dL_1783 : decode code 1783 = .ok (.iadd, 1) := by decide +kernel
theorem dL_1784 : decode code 1784 = .ok (.iaload, 1) := by decide +kernel
theorem dL_1785 : decode code 1785 = .ok (.aload_n 0, 1) := by decide +kernel
theorem dL_1786 : decode code 1786 = .ok (.iload_n 3, 1) := by decide +kernel
theorem dL_1787 : decode code 1787 = .ok (.iconst 3, 1) := by decide +kernel
theorem dL_1788 : decode code 1788 = .ok (.iadd, 1) := by decide +kernel
theorem dL_1789 : decode code 1789 = .ok (.iaload, 1) := by decide +kernel
theorem dL_1790 : decode code 1790 = .ok (.aload_n 0, 1) := by decide +kernel
theorem dL_1791 : decode code 1791 = .ok (.iload_n 3, 1) := by decide +kernel
theorem dL_1792 : decode code 1792 = .ok (.iconst 4, 1) := by decide +kernel
theorem dL_1793 : decode code 1793 = .ok (.iadd, 1) := by decide +kernel
theorem dL_1794 : decode code 1794 = .ok (.iaload, 1) := by decide +kernel
theorem dL_1795 : decode code 1795 = .ok (.aload_n 0, 1) := by decide +kernel
theorem dL_1796 : decode code 1796 = .ok (.iload_n 3, 1) := by decide +kernel
theorem dL_1797 : decode code 1797 = .ok (.iconst 5, 1) := by decide +kernel
theorem dL_1798 : decode code 1798 = .ok (.iadd, 1) := by decide +kernel
theorem dL_1799 : decode code 1799 = .ok (.iaload, 1) := by decide +kernel
theorem dL_1800 : decode code 1800 = .ok (.invokevirtual 242, 3) := by decide +kernel
theorem dL_1803 : decode code 1803 = .ok (.aload_n 2, 1) := by decide +kernel
theorem dL_1804 : decode code 1804 = .ok (.aload_n 0, 1) := by decide +kernel
theorem dL_1805 : decode code 1805 = .ok (.iload_n 3, 1) := by decide +kernel
theorem dL_1806 : decode code 1806 = .ok (.iconst 1, 1) := by decide +kernel
theorem dL_1807 : decode code 1807 = .ok (.iadd, 1) := by decide +kernel
theorem dL_1808 : decode code 1808 = .ok (.iaload, 1) := by decide +kernel
theorem dL_1809 : decode code 1809 = .ok (.aload_n 0, 1) := by decide +kernel
theorem dL_1810 : decode code 1810 = .ok (.iload_n 3, 1) := by decide +kernel
theorem dL_1811 : decode code 1811 = .ok (.iconst 2, 1) := by decide +kernel
theorem dL_1812 : decode code 1812 = .ok (.iadd, 1) := by decide +kernel
theorem dL_1813 : decode code 1813 = .ok (.iaload, 1) := by decide +kernel
theorem dL_1814 : decode code 1814 = .ok (.aload_n 0, 1) := by decide +kernel
theorem dL_1815 : decode code 1815 = .ok (.iload_n 3, 1) := by decide +kernel
theorem dL_1816 : decode code 1816 = .ok (.iconst 3, 1) := by decide +kernel
theorem dL_1817 : decode code 1817 = .ok (.iadd, 1) := by decide +kernel
theorem dL_1818 : decode code 1818 = .ok (.iaload, 1) := by decide +kernel
theorem dL_1819 : decode code 1819 = .ok (.aload_n 0, 1) := by decide +kernel
theorem dL_1820 : decode code 1820 = .ok (.iload_n 3, 1) := by decide +kernel
theorem dL_1821 : decode code 1821 = .ok (.iconst 4, 1) := by decide +kernel
theorem dL_1822 : decode code 1822 = .ok (.iadd, 1) := by decide +kernel
theorem dL_1823 : decode code 1823 = .ok (.iaload, 1) := by decide +kernel
theorem dL_1824 : decode code 1824 = .ok (.aload_n 0, 1) := by decide +kernel
theorem dL_1825 : decode code 1825 = .ok (.iload_n 3, 1) := by decide +kernel
theorem dL_1826 : decode code 1826 = .ok (.iconst 5, 1) := by decide +kernel
theorem dL_1827 : decode code 1827 = .ok (.iadd, 1) := by decide +kernel
theorem dL_1828 : decode code 1828 = .ok (.iaload, 1) := by decide +kernel
theorem dL_1829 : decode code 1829 = .ok (.invokevirtual 245, 3) := by decide +kernel
theorem dL_1832 : decode code 1832 = .ok (.if_icmp .eq 522, 3) := by decide +kernel
theorem dL_1837 : decode code 1837 = .ok (.aload_n 1, 1) := by decide +kernel
theorem dL_1838 : decode code 1838 = .ok (.aload_n 0, 1) := by decide +kernel
theorem dL_1839 : decode code 1839 = .ok (.iload_n 3, 1) := by decide +kernel
theorem dL_1840 : decode code 1840 = .ok (.iconst 1, 1) := by decide +kernel
theorem dL_1841 : decode code 1841 = .ok (.iadd, 1) := by decide +kernel
theorem dL_1842 : decode code 1842 = .ok (.iaload, 1) := by decide +kernel
theorem dL_1843 : decode code 1843 = .ok (.aload_n 0, 1) := by decide +kernel
theorem dL_1844 : decode code 1844 = .ok (.iload_n 3, 1) := by decide +kernel
theorem dL_1845 : decode code 1845 = .ok (.iconst 2, 1) := by decide +kernel
theorem dL_1846 : decode code 1846 = .ok (.iadd, 1) := by decide +kernel
theorem dL_1847 : decode code 1847 = .ok (.iaload, 1) := by decide +kernel
theorem dL_1848 : decode code 1848 = .ok (.aload_n 0, 1) := by decide +kernel
theorem dL_1849 : decode code 1849 = .ok (.iload_n 3, 1) := by decide +kernel
theorem dL_1850 : decode code 1850 = .ok (.iconst 3, 1) := by decide +kernel
theorem dL_1851 : decode code 1851 = .ok (.iadd, 1) := by decide +kernel
theorem dL_1852 : decode code 1852 = .ok (.iaload, 1) := by decide +kernel
theorem dL_1853 : decode code 1853 = .ok (.invokevirtual 246, 3) := by decide +kernel
theorem dL_1856 : decode code 1856 = .ok (.aload_n 2, 1) := by decide +kernel
theorem dL_1857 : decode code 1857 = .ok (.aload_n 0, 1) := by decide +kernel
theorem dL_1858 : decode code 1858 = .ok (.iload_n 3, 1) := by decide +kernel
theorem dL_1859 : decode code 1859 = .ok (.iconst 1, 1) := by decide +kernel
theorem dL_1860 : decode code 1860 = .ok (.iadd, 1) := by decide +kernel
theorem dL_1861 : decode code 1861 = .ok (.iaload, 1) := by decide +kernel
theorem dL_1862 : decode code 1862 = .ok (.aload_n 0, 1) := by decide +kernel
theorem dL_1863 : decode code 1863 = .ok (.iload_n 3, 1) := by decide +kernel
theorem dL_1864 : decode code 1864 = .ok (.iconst 2, 1) := by decide +kernel
theorem dL_1865 : decode code 1865 = .ok (.iadd, 1) := by decide +kernel
theorem dL_1866 : decode code 1866 = .ok (.iaload, 1) := by decide +kernel
theorem dL_1867 : decode code 1867 = .ok (.aload_n 0, 1) := by decide +kernel
theorem dL_1868 : decode code 1868 = .ok (.iload_n 3, 1) := by decide +kernel
theorem dL_1869 : decode code 1869 = .ok (.iconst 3, 1) := by decide +kernel
theorem dL_1870 : decode code 1870 = .ok (.iadd, 1) := by decide +kernel
theorem dL_1871 : decode code 1871 = .ok (.iaload, 1) := by decide +kernel
theorem dL_1872 : decode code 1872 = .ok (.invokevirtual 250, 3) := by decide +kernel
theorem dL_1875 : decode code 1875 = .ok (.lcmp, 1) := by decide +kernel
theorem dL_1876 : decode code 1876 = .ok (.ifCond .eq 478, 3) := by decide +kernel
theorem dL_1881 : decode code 1881 = .ok (.aload_n 1, 1) := by decide +kernel
theorem dL_1882 : decode code 1882 = .ok (.aload_n 0, 1) := by decide +kernel
theorem dL_1883 : decode code 1883 = .ok (.iload_n 3, 1) := by decide +kernel
theorem dL_1884 : decode code 1884 = .ok (.iconst 1, 1) := by decide +kernel
theorem dL_1885 : decode code 1885 = .ok (.iadd, 1) := by decide +kernel
theorem dL_1886 : decode code 1886 = .ok (.iaload, 1) := by decide +kernel
theorem dL_1887 : decode code 1887 = .ok (.aload_n 0, 1) := by decide +kernel
theorem dL_1888 : decode code 1888 = .ok (.iload_n 3, 1) := by decide +kernel
theorem dL_1889 : decode code 1889 = .ok (.iconst 2, 1) := by decide +kernel
theorem dL_1890 : decode code 1890 = .ok (.iadd, 1) := by decide +kernel
theorem dL_1891 : decode code 1891 = .ok (.iaload, 1) := by decide +kernel
theorem dL_1892 : decode code 1892 = .ok (.invokevirtual 251, 3) := by decide +kernel
theorem dL_1895 : decode code 1895 = .ok (.aload_n 2, 1) := by decide +kernel
theorem dL_1896 : decode code 1896 = .ok (.aload_n 0, 1) := by decide +kernel
theorem dL_1897 : decode code 1897 = .ok (.iload_n 3, 1) := by decide +kernel
theorem dL_1898 : decode code 1898 = .ok (.iconst 1, 1) := by decide +kernel
theorem dL_1899 : decode code 1899 = .ok (.iadd, 1) := by decide +kernel
theorem dL_1900 : decode code 1900 = .ok (.iaload, 1) := by decide +kernel
theorem dL_1901 : decode code 1901 = .ok (.aload_n 0, 1) := by decide +kernel
theorem dL_1902 : decode code 1902 = .ok (.iload_n 3, 1) := by decide +kernel
theorem dL_1903 : decode code 1903 = .ok (.iconst 2, 1) := by decide +kernel
theorem dL_1904 : decode code 1904 = .ok (.iadd, 1) := by decide +kernel
theorem dL_1905 : decode code 1905 = .ok (.iaload, 1) := by decide +kernel
theorem dL_1906 : decode code 1906 = .ok (.invokevirtual 255, 3) := by decide +kernel
theorem dL_1909 : decode code 1909 = .ok (.lcmp, 1) := by decide +kernel
theorem dL_1910 : decode code 1910 = .ok (.ifCond .eq 444, 3) := by decide +kernel
theorem dL_1915 : decode code 1915 = .ok (.aload_n 1, 1) := by decide +kernel
theorem dL_1916 : decode code 1916 = .ok (.aload_n 0, 1) := by decide +kernel
theorem dL_1917 : decode code 1917 = .ok (.iload_n 3, 1) := by decide +kernel
theorem dL_1918 : decode code 1918 = .ok (.iconst 1, 1) := by decide +kernel
theorem dL_1919 : decode code 1919 = .ok (.iadd, 1) := by decide +kernel
theorem dL_1920 : decode code 1920 = .ok (.iaload, 1) := by decide +kernel
theorem dL_1921 : decode code 1921 = .ok (.aload_n 0, 1) := by decide +kernel
theorem dL_1922 : decode code 1922 = .ok (.iload_n 3, 1) := by decide +kernel
theorem dL_1923 : decode code 1923 = .ok (.iconst 2, 1) := by decide +kernel
theorem dL_1924 : decode code 1924 = .ok (.iadd, 1) := by decide +kernel
theorem dL_1925 : decode code 1925 = .ok (.iaload, 1) := by decide +kernel
theorem dL_1926 : decode code 1926 = .ok (.invokevirtual 256, 3) := by decide +kernel
theorem dL_1929 : decode code 1929 = .ok (.aload_n 2, 1) := by decide +kernel
theorem dL_1930 : decode code 1930 = .ok (.aload_n 0, 1) := by decide +kernel
theorem dL_1931 : decode code 1931 = .ok (.iload_n 3, 1) := by decide +kernel
theorem dL_1932 : decode code 1932 = .ok (.iconst 1, 1) := by decide +kernel
theorem dL_1933 : decode code 1933 = .ok (.iadd, 1) := by decide +kernel
theorem dL_1934 : decode code 1934 = .ok (.iaload, 1) := by decide +kernel
theorem dL_1935 : decode code 1935 = .ok (.aload_n 0, 1) := by decide +kernel
theorem dL_1936 : decode code 1936 = .ok (.iload_n 3, 1) := by decide +kernel
theorem dL_1937 : decode code 1937 = .ok (.iconst 2, 1) := by decide +kernel
theorem dL_1938 : decode code 1938 = .ok (.iadd, 1) := by decide +kernel
theorem dL_1939 : decode code 1939 = .ok (.iaload, 1) := by decide +kernel
theorem dL_1940 : decode code 1940 = .ok (.invokevirtual 259, 3) := by decide +kernel
theorem dL_1943 : decode code 1943 = .ok (.if_icmp .eq 411, 3) := by decide +kernel
theorem dL_1948 : decode code 1948 = .ok (.aload_n 1, 1) := by decide +kernel
theorem dL_1949 : decode code 1949 = .ok (.aload_n 0, 1) := by decide +kernel
theorem dL_1950 : decode code 1950 = .ok (.iload_n 3, 1) := by decide +kernel
theorem dL_1951 : decode code 1951 = .ok (.iconst 1, 1) := by decide +kernel
theorem dL_1952 : decode code 1952 = .ok (.iadd, 1) := by decide +kernel
theorem dL_1953 : decode code 1953 = .ok (.iaload, 1) := by decide +kernel
theorem dL_1954 : decode code 1954 = .ok (.invokevirtual 260, 3) := by decide +kernel
theorem dL_1957 : decode code 1957 = .ok (.aload_n 2, 1) := by decide +kernel
theorem dL_1958 : decode code 1958 = .ok (.aload_n 0, 1) := by decide +kernel
theorem dL_1959 : decode code 1959 = .ok (.iload_n 3, 1) := by decide +kernel
theorem dL_1960 : decode code 1960 = .ok (.iconst 1, 1) := by decide +kernel
theorem dL_1961 : decode code 1961 = .ok (.iadd, 1) := by decide +kernel
theorem dL_1962 : decode code 1962 = .ok (.iaload, 1) := by decide +kernel
theorem dL_1963 : decode code 1963 = .ok (.invokevirtual 263, 3) := by decide +kernel
theorem dL_1966 : decode code 1966 = .ok (.if_icmp .eq 388, 3) := by decide +kernel
theorem dL_1971 : decode code 1971 = .ok (.aload_n 1, 1) := by decide +kernel
theorem dL_1972 : decode code 1972 = .ok (.invokevirtual 264, 3) := by decide +kernel
theorem dL_1975 : decode code 1975 = .ok (.aload_n 2, 1) := by decide +kernel
theorem dL_1976 : decode code 1976 = .ok (.invokevirtual 267, 3) := by decide +kernel
theorem dL_1979 : decode code 1979 = .ok (.if_icmp .eq 375, 3) := by decide +kernel
theorem dL_1984 : decode code 1984 = .ok (.aload_n 1, 1) := by decide +kernel
theorem dL_1985 : decode code 1985 = .ok (.invokevirtual 268, 3) := by decide +kernel
theorem dL_1988 : decode code 1988 = .ok (.aload_n 2, 1) := by decide +kernel
theorem dL_1989 : decode code 1989 = .ok (.invokevirtual 271, 3) := by decide +kernel
theorem dL_1992 : decode code 1992 = .ok (.if_icmp .eq 362, 3) := by decide +kernel
theorem dL_1997 : decode code 1997 = .ok (.aload_n 1, 1) := by decide +kernel
theorem dL_1998 : decode code 1998 = .ok (.aload_n 0, 1) := by decide +kernel
theorem dL_1999 : decode code 1999 = .ok (.iload_n 3, 1) := by decide +kernel
theorem dL_2000 : decode code 2000 = .ok (.iconst 1, 1) := by decide +kernel
theorem dL_2001 : decode code 2001 = .ok (.iadd, 1) := by decide +kernel
theorem dL_2002 : decode code 2002 = .ok (.iaload, 1) := by decide +kernel
theorem dL_2003 : decode code 2003 = .ok (.aload_n 0, 1) := by decide +kernel
theorem dL_2004 : decode code 2004 = .ok (.iload_n 3, 1) := by decide +kernel
theorem dL_2005 : decode code 2005 = .ok (.iconst 2, 1) := by decide +kernel
theorem dL_2006 : decode code 2006 = .ok (.iadd, 1) := by decide +kernel
theorem dL_2007 : decode code 2007 = .ok (.iaload, 1) := by decide +kernel
theorem dL_2008 : decode code 2008 = .ok (.invokevirtual 272, 3) := by decide +kernel
theorem dL_2011 : decode code 2011 = .ok (.aload_n 2, 1) := by decide +kernel
theorem dL_2012 : decode code 2012 = .ok (.aload_n 0, 1) := by decide +kernel
theorem dL_2013 : decode code 2013 = .ok (.iload_n 3, 1) := by decide +kernel
theorem dL_2014 : decode code 2014 = .ok (.iconst 1, 1) := by decide +kernel
theorem dL_2015 : decode code 2015 = .ok (.iadd, 1) := by decide +kernel
theorem dL_2016 : decode code 2016 = .ok (.iaload, 1) := by decide +kernel
theorem dL_2017 : decode code 2017 = .ok (.aload_n 0, 1) := by decide +kernel
theorem dL_2018 : decode code 2018 = .ok (.iload_n 3, 1) := by decide +kernel
theorem dL_2019 : decode code 2019 = .ok (.iconst 2, 1) := by decide +kernel
theorem dL_2020 : decode code 2020 = .ok (.iadd, 1) := by decide +kernel
theorem dL_2021 : decode code 2021 = .ok (.iaload, 1) := by decide +kernel
theorem dL_2022 : decode code 2022 = .ok (.invokevirtual 275, 3) := by decide +kernel
theorem dL_2025 : decode code 2025 = .ok (.if_icmp .eq 329, 3) := by decide +kernel
theorem dL_2030 : decode code 2030 = .ok (.aload_n 1, 1) := by decide +kernel
theorem dL_2031 : decode code 2031 = .ok (.aload_n 0, 1) := by decide +kernel
theorem dL_2032 : decode code 2032 = .ok (.iload_n 3, 1) := by decide +kernel
theorem dL_2033 : decode code 2033 = .ok (.iconst 1, 1) := by decide +kernel
theorem dL_2034 : decode code 2034 = .ok (.iadd, 1) := by decide +kernel
theorem dL_2035 : decode code 2035 = .ok (.iaload, 1) := by decide +kernel
theorem dL_2036 : decode code 2036 = .ok (.aload_n 0, 1) := by decide +kernel
theorem dL_2037 : decode code 2037 = .ok (.iload_n 3, 1) := by decide +kernel
theorem dL_2038 : decode code 2038 = .ok (.iconst 2, 1) := by decide +kernel
theorem dL_2039 : decode code 2039 = .ok (.iadd, 1) := by decide +kernel
theorem dL_2040 : decode code 2040 = .ok (.iaload, 1) := by decide +kernel
theorem dL_2041 : decode code 2041 = .ok (.aload_n 0, 1) := by decide +kernel
theorem dL_2042 : decode code 2042 = .ok (.iload_n 3, 1) := by decide +kernel
theorem dL_2043 : decode code 2043 = .ok (.iconst 3, 1) := by decide +kernel
theorem dL_2044 : decode code 2044 = .ok (.iadd, 1) := by decide +kernel
theorem dL_2045 : decode code 2045 = .ok (.iaload, 1) := by decide +kernel
theorem dL_2046 : decode code 2046 = .ok (.invokevirtual 276, 3) := by decide +kernel
theorem dL_2049 : decode code 2049 = .ok (.aload_n 2, 1) := by decide +kernel
theorem dL_2050 : decode code 2050 = .ok (.aload_n 0, 1) := by decide +kernel
theorem dL_2051 : decode code 2051 = .ok (.iload_n 3, 1) := by decide +kernel
theorem dL_2052 : decode code 2052 = .ok (.iconst 1, 1) := by decide +kernel
theorem dL_2053 : decode code 2053 = .ok (.iadd, 1) := by decide +kernel
theorem dL_2054 : decode code 2054 = .ok (.iaload, 1) := by decide +kernel
theorem dL_2055 : decode code 2055 = .ok (.aload_n 0, 1) := by decide +kernel
theorem dL_2056 : decode code 2056 = .ok (.iload_n 3, 1) := by decide +kernel
theorem dL_2057 : decode code 2057 = .ok (.iconst 2, 1) := by decide +kernel
theorem dL_2058 : decode code 2058 = .ok (.iadd, 1) := by decide +kernel
theorem dL_2059 : decode code 2059 = .ok (.iaload, 1) := by decide +kernel
theorem dL_2060 : decode code 2060 = .ok (.aload_n 0, 1) := by decide +kernel
theorem dL_2061 : decode code 2061 = .ok (.iload_n 3, 1) := by decide +kernel
theorem dL_2062 : decode code 2062 = .ok (.iconst 3, 1) := by decide +kernel
theorem dL_2063 : decode code 2063 = .ok (.iadd, 1) := by decide +kernel
theorem dL_2064 : decode code 2064 = .ok (.iaload, 1) := by decide +kernel
theorem dL_2065 : decode code 2065 = .ok (.invokevirtual 279, 3) := by decide +kernel
theorem dL_2068 : decode code 2068 = .ok (.if_icmp .eq 286, 3) := by decide +kernel
theorem dL_2073 : decode code 2073 = .ok (.aload_n 1, 1) := by decide +kernel
theorem dL_2074 : decode code 2074 = .ok (.aload_n 0, 1) := by decide +kernel
theorem dL_2075 : decode code 2075 = .ok (.iload_n 3, 1) := by decide +kernel
theorem dL_2076 : decode code 2076 = .ok (.iconst 1, 1) := by decide +kernel
theorem dL_2077 : decode code 2077 = .ok (.iadd, 1) := by decide +kernel
theorem dL_2078 : decode code 2078 = .ok (.iaload, 1) := by decide +kernel
theorem dL_2079 : decode code 2079 = .ok (.aload_n 0, 1) := by decide +kernel
theorem dL_2080 : decode code 2080 = .ok (.iload_n 3, 1) := by decide +kernel
theorem dL_2081 : decode code 2081 = .ok (.iconst 2, 1) := by decide +kernel
theorem dL_2082 : decode code 2082 = .ok (.iadd, 1) := by decide +kernel
theorem dL_2083 : decode code 2083 = .ok (.iaload, 1) := by decide +kernel
theorem dL_2084 : decode code 2084 = .ok (.invokevirtual 280, 3) := by decide +kernel
theorem dL_2087 : decode code 2087 = .ok (.aload_n 2, 1) := by decide +kernel
theorem dL_2088 : decode code 2088 = .ok (.aload_n 0, 1) := by decide +kernel
theorem dL_2089 : decode code 2089 = .ok (.iload_n 3, 1) := by decide +kernel
theorem dL_2090 : decode code 2090 = .ok (.iconst 1, 1) := by decide +kernel
theorem dL_2091 : decode code 2091 = .ok (.iadd, 1) := by decide +kernel
theorem dL_2092 : decode code 2092 = .ok (.iaload, 1) := by decide +kernel
theorem dL_2093 : decode code 2093 = .ok (.aload_n 0, 1) := by decide +kernel
theorem dL_2094 : decode code 2094 = .ok (.iload_n 3, 1) := by decide +kernel
theorem dL_2095 : decode code 2095 = .ok (.iconst 2, 1) := by decide +kernel
theorem dL_2096 : decode code 2096 = .ok (.iadd, 1) := by decide +kernel
theorem dL_2097 : decode code 2097 = .ok (.iaload, 1) := by decide +kernel
theorem dL_2098 : decode code 2098 = .ok (.invokevirtual 283, 3) := by decide +kernel
theorem dL_2101 : decode code 2101 = .ok (.if_icmp .eq 253, 3) := by decide +kernel
theorem dL_2106 : decode code 2106 = .ok (.aload_n 1, 1) := by decide +kernel
theorem dL_2107 : decode code 2107 = .ok (.aload_n 0, 1) := by decide +kernel
theorem dL_2108 : decode code 2108 = .ok (.iload_n 3, 1) := by decide +kernel
theorem dL_2109 : decode code 2109 = .ok (.iconst 1, 1) := by decide +kernel
theorem dL_2110 : decode code 2110 = .ok (.iadd, 1) := by decide +kernel
theorem dL_2111 : decode code 2111 = .ok (.iaload, 1) := by decide +kernel
theorem dL_2112 : decode code 2112 = .ok (.invokevirtual 284, 3) := by decide +kernel
theorem dL_2115 : decode code 2115 = .ok (.aload_n 2, 1) := by decide +kernel
theorem dL_2116 : decode code 2116 = .ok (.aload_n 0, 1) := by decide +kernel
theorem dL_2117 : decode code 2117 = .ok (.iload_n 3, 1) := by decide +kernel
theorem dL_2118 : decode code 2118 = .ok (.iconst 1, 1) := by decide +kernel
theorem dL_2119 : decode code 2119 = .ok (.iadd, 1) := by decide +kernel
theorem dL_2120 : decode code 2120 = .ok (.iaload, 1) := by decide +kernel
theorem dL_2121 : decode code 2121 = .ok (.invokevirtual 287, 3) := by decide +kernel
theorem dL_2124 : decode code 2124 = .ok (.if_icmp .eq 230, 3) := by decide +kernel
theorem dL_2127 : decode code 2127 = .ok (.iconst 0, 1) := by decide +kernel
theorem dL_2128 : decode code 2128 = .ok (.ireturn, 1) := by decide +kernel
theorem dL_2129 : decode code 2129 = .ok (.aload_n 1, 1) := by decide +kernel
theorem dL_2130 : decode code 2130 = .ok (.aload_n 0, 1) := by decide +kernel
theorem dL_2131 : decode code 2131 = .ok (.iload_n 3, 1) := by decide +kernel
theorem dL_2132 : decode code 2132 = .ok (.iconst 1, 1) := by decide +kernel
theorem dL_2133 : decode code 2133 = .ok (.iadd, 1) := by decide +kernel
theorem dL_2134 : decode code 2134 = .ok (.iaload, 1) := by decide +kernel
theorem dL_2135 : decode code 2135 = .ok (.invokevirtual 288, 3) := by decide +kernel
theorem dL_2138 : decode code 2138 = .ok (.aload_n 2, 1) := by decide +kernel
theorem dL_2139 : decode code 2139 = .ok (.aload_n 0, 1) := by decide +kernel
theorem dL_2140 : decode code 2140 = .ok (.iload_n 3, 1) := by decide +kernel
theorem dL_2141 : decode code 2141 = .ok (.iconst 1, 1) := by decide +kernel
theorem dL_2142 : decode code 2142 = .ok (.iadd, 1) := by decide +kernel
theorem dL_2143 : decode code 2143 = .ok (.iaload, 1) := by decide +kernel
theorem dL_2144 : decode code 2144 = .ok (.invokevirtual 291, 3) := by decide +kernel
theorem dL_2147 : decode code 2147 = .ok (.if_icmp .eq 207, 3) := by decide +kernel
theorem dL_2150 : decode code 2150 = .ok (.iconst 0, 1) := by decide +kernel
theorem dL_2151 : decode code 2151 = .ok (.ireturn, 1) := by decide +kernel
theorem dL_2152 : decode code 2152 = .ok (.aload_n 1, 1) := by decide +kernel
theorem dL_2153 : decode code 2153 = .ok (.aload_n 0, 1) := by decide +kernel
theorem dL_2154 : decode code 2154 = .ok (.iload_n 3, 1) := by decide +kernel
theorem dL_2155 : decode code 2155 = .ok (.iconst 1, 1) := by decide +kernel
theorem dL_2156 : decode code 2156 = .ok (.iadd, 1) := by decide +kernel
theorem dL_2157 : decode code 2157 = .ok (.iaload, 1) := by decide +kernel
theorem dL_2158 : decode code 2158 = .ok (.invokevirtual 292, 3) := by decide +kernel
theorem dL_2161 : decode code 2161 = .ok (.aload_n 2, 1) := by decide +kernel
theorem dL_2162 : decode code 2162 = .ok (.aload_n 0, 1) := by decide +kernel
theorem dL_2163 : decode code 2163 = .ok (.iload_n 3, 1) := by decide +kernel
theorem dL_2164 : decode code 2164 = .ok (.iconst 1, 1) := by decide +kernel
theorem dL_2165 : decode code 2165 = .ok (.iadd, 1) := by decide +kernel
theorem dL_2166 : decode code 2166 = .ok (.iaload, 1) := by decide +kernel
theorem dL_2167 : decode code 2167 = .ok (.invokevirtual 295, 3) := by decide +kernel
theorem dL_2170 : decode code 2170 = .ok (.if_icmp .eq 184, 3) := by decide +kernel
theorem dL_2173 : decode code 2173 = .ok (.iconst 0, 1) := by decide +kernel
theorem dL_2174 : decode code 2174 = .ok (.ireturn, 1) := by decide +kernel
theorem dL_2175 : decode code 2175 = .ok (.aload_n 1, 1) := by decide +kernel
theorem dL_2176 : decode code 2176 = .ok (.aload_n 0, 1) := by decide +kernel
theorem dL_2177 : decode code 2177 = .ok (.iload_n 3, 1) := by decide +kernel
theorem dL_2178 : decode code 2178 = .ok (.iconst 1, 1) := by decide +kernel
theorem dL_2179 : decode code 2179 = .ok (.iadd, 1) := by decide +kernel
theorem dL_2180 : decode code 2180 = .ok (.iaload, 1) := by decide +kernel
theorem dL_2181 : decode code 2181 = .ok (.aload_n 0, 1) := by decide +kernel
theorem dL_2182 : decode code 2182 = .ok (.iload_n 3, 1) := by decide +kernel
theorem dL_2183 : decode code 2183 = .ok (.iconst 2, 1) := by decide +kernel
theorem dL_2184 : decode code 2184 = .ok (.iadd, 1) := by decide +kernel
theorem dL_2185 : decode code 2185 = .ok (.iaload, 1) := by decide +kernel
theorem dL_2186 : decode code 2186 = .ok (.aload_n 0, 1) := by decide +kernel
theorem dL_2187 : decode code 2187 = .ok (.iload_n 3, 1) := by decide +kernel
theorem dL_2188 : decode code 2188 = .ok (.iconst 3, 1) := by decide +kernel
theorem dL_2189 : decode code 2189 = .ok (.iadd, 1) := by decide +kernel
theorem dL_2190 : decode code 2190 = .ok (.iaload, 1) := by decide +kernel
theorem dL_2191 : decode code 2191 = .ok (.invokevirtual 296, 3) := by decide +kernel
theorem dL_2194 : decode code 2194 = .ok (.aload_n 2, 1) := by decide +kernel
theorem dL_2195 : decode code 2195 = .ok (.aload_n 0, 1) := by decide +kernel
theorem dL_2196 : decode code 2196 = .ok (.iload_n 3, 1) := by decide +kernel
theorem dL_2197 : decode code 2197 = .ok (.iconst 1, 1) := by decide +kernel
theorem dL_2198 : decode code 2198 = .ok (.iadd, 1) := by decide +kernel
theorem dL_2199 : decode code 2199 = .ok (.iaload, 1) := by decide +kernel
theorem dL_2200 : decode code 2200 = .ok (.aload_n 0, 1) := by decide +kernel
theorem dL_2201 : decode code 2201 = .ok (.iload_n 3, 1) := by decide +kernel
theorem dL_2202 : decode code 2202 = .ok (.iconst 2, 1) := by decide +kernel
theorem dL_2203 : decode code 2203 = .ok (.iadd, 1) := by decide +kernel
theorem dL_2204 : decode code 2204 = .ok (.iaload, 1) := by decide +kernel
theorem dL_2205 : decode code 2205 = .ok (.aload_n 0, 1) := by decide +kernel
theorem dL_2206 : decode code 2206 = .ok (.iload_n 3, 1) := by decide +kernel
theorem dL_2207 : decode code 2207 = .ok (.iconst 3, 1) := by decide +kernel
theorem dL_2208 : decode code 2208 = .ok (.iadd, 1) := by decide +kernel
theorem dL_2209 : decode code 2209 = .ok (.iaload, 1) := by decide +kernel
theorem dL_2210 : decode code 2210 = .ok (.invokevirtual 299, 3) := by decide +kernel
theorem dL_2213 : decode code 2213 = .ok (.if_icmp .eq 141, 3) := by decide +kernel
theorem dL_2216 : decode code 2216 = .ok (.iconst 0, 1) := by decide +kernel
theorem dL_2217 : decode code 2217 = .ok (.ireturn, 1) := by decide +kernel
theorem dL_2218 : decode code 2218 = .ok (.aload_n 1, 1) := by decide +kernel
theorem dL_2219 : decode code 2219 = .ok (.aload_n 0, 1) := by decide +kernel
theorem dL_2220 : decode code 2220 = .ok (.iload_n 3, 1) := by decide +kernel
theorem dL_2221 : decode code 2221 = .ok (.iconst 1, 1) := by decide +kernel
theorem dL_2222 : decode code 2222 = .ok (.iadd, 1) := by decide +kernel
theorem dL_2223 : decode code 2223 = .ok (.iaload, 1) := by decide +kernel
theorem dL_2224 : decode code 2224 = .ok (.aload_n 0, 1) := by decide +kernel
theorem dL_2225 : decode code 2225 = .ok (.iload_n 3, 1) := by decide +kernel
theorem dL_2226 : decode code 2226 = .ok (.iconst 2, 1) := by decide +kernel
theorem dL_2227 : decode code 2227 = .ok (.iadd, 1) := by decide +kernel
theorem dL_2228 : decode code 2228 = .ok (.iaload, 1) := by decide +kernel
theorem dL_2229 : decode code 2229 = .ok (.aload_n 0, 1) := by decide +kernel
theorem dL_2230 : decode code 2230 = .ok (.iload_n 3, 1) := by decide +kernel
theorem dL_2231 : decode code 2231 = .ok (.iconst 3, 1) := by decide +kernel
theorem dL_2232 : decode code 2232 = .ok (.iadd, 1) := by decide +kernel
theorem dL_2233 : decode code 2233 = .ok (.iaload, 1) := by decide +kernel
theorem dL_2234 : decode code 2234 = .ok (.i2l, 1) := by decide +kernel
theorem dL_2235 : decode code 2235 = .ok (.bipush 32, 2) := by decide +kernel
theorem dL_2237 : decode code 2237 = .ok (.lshl, 1) := by decide +kernel
theorem dL_2238 : decode code 2238 = .ok (.aload_n 0, 1) := by decide +kernel
theorem dL_2239 : decode code 2239 = .ok (.iload_n 3, 1) := by decide +kernel
theorem dL_2240 : decode code 2240 = .ok (.iconst 4, 1) := by decide +kernel
theorem dL_2241 : decode code 2241 = .ok (.iadd, 1) := by decide +kernel
theorem dL_2242 : decode code 2242 = .ok (.iaload, 1) := by decide +kernel
theorem dL_2243 : decode code 2243 = .ok (.i2l, 1) := by decide +kernel
theorem dL_2244 : decode code 2244 = .ok (.ldc2_w 300, 3) := by decide +kernel
theorem dL_2247 : decode code 2247 = .ok (.land, 1) := by decide +kernel
theorem dL_2248 : decode code 2248 = .ok (.lor, 1) := by decide +kernel
theorem dL_2249 : decode code 2249 = .ok (.invokevirtual 302, 3) := by decide +kernel
theorem dL_2252 : decode code 2252 = .ok (.aload_n 2, 1) := by decide +kernel
theorem dL_2253 : decode code 2253 = .ok (.aload_n 0, 1) := by decide +kernel
theorem dL_2254 : decode code 2254 = .ok (.iload_n 3, 1) := by decide +kernel
theorem dL_2255 : decode code 2255 = .ok (.iconst 1, 1) := by decide +kernel
theorem dL_2256 : decode code 2256 = .ok (.iadd, 1) := by decide +kernel
theorem dL_2257 : decode code 2257 = .ok (.iaload, 1) := by decide +kernel
theorem dL_2258 : decode code 2258 = .ok (.aload_n 0, 1) := by decide +kernel
theorem dL_2259 : decode code 2259 = .ok (.iload_n 3, 1) := by decide +kernel
theorem dL_2260 : decode code 2260 = .ok (.iconst 2, 1) := by decide +kernel
theorem dL_2261 : decode code 2261 = .ok (.iadd, 1) := by decide +kernel
theorem dL_2262 : decode code 2262 = .ok (.iaload, 1) := by decide +kernel
theorem dL_2263 : decode code 2263 = .ok (.aload_n 0, 1) := by decide +kernel
theorem dL_2264 : decode code 2264 = .ok (.iload_n 3, 1) := by decide +kernel
theorem dL_2265 : decode code 2265 = .ok (.iconst 3, 1) := by decide +kernel
theorem dL_2266 : decode code 2266 = .ok (.iadd, 1) := by decide +kernel
theorem dL_2267 : decode code 2267 = .ok (.iaload, 1) := by decide +kernel
theorem dL_2268 : decode code 2268 = .ok (.i2l, 1) := by decide +kernel
theorem dL_2269 : decode code 2269 = .ok (.bipush 32, 2) := by decide +kernel
theorem dL_2271 : decode code 2271 = .ok (.lshl, 1) := by decide +kernel
theorem dL_2272 : decode code 2272 = .ok (.aload_n 0, 1) := by decide +kernel
theorem dL_2273 : decode code 2273 = .ok (.iload_n 3, 1) := by decide +kernel
theorem dL_2274 : decode code 2274 = .ok (.iconst 4, 1) := by decide +kernel
theorem dL_2275 : decode code 2275 = .ok (.iadd, 1) := by decide +kernel
theorem dL_2276 : decode code 2276 = .ok (.iaload, 1) := by decide +kernel
theorem dL_2277 : decode code 2277 = .ok (.i2l, 1) := by decide +kernel
theorem dL_2278 : decode code 2278 = .ok (.ldc2_w 300, 3) := by decide +kernel
theorem dL_2281 : decode code 2281 = .ok (.land, 1) := by decide +kernel
theorem dL_2282 : decode code 2282 = .ok (.lor, 1) := by decide +kernel
theorem dL_2283 : decode code 2283 = .ok (.invokevirtual 306, 3) := by decide +kernel
theorem dL_2286 : decode code 2286 = .ok (.if_icmp .eq 68, 3) := by decide +kernel
theorem dL_2289 : decode code 2289 = .ok (.iconst 0, 1) := by decide +kernel
theorem dL_2290 : decode code 2290 = .ok (.ireturn, 1) := by decide +kernel
theorem dL_2291 : decode code 2291 = .ok (.aload_n 1, 1) := by decide +kernel
theorem dL_2292 : decode code 2292 = .ok (.aload_n 0, 1) := by decide +kernel
theorem dL_2293 : decode code 2293 = .ok (.iload_n 3, 1) := by decide +kernel
theorem dL_2294 : decode code 2294 = .ok (.iconst 1, 1) := by decide +kernel
theorem dL_2295 : decode code 2295 = .ok (.iadd, 1) := by decide +kernel
theorem dL_2296 : decode code 2296 = .ok (.iaload, 1) := by decide +kernel
theorem dL_2297 : decode code 2297 = .ok (.aload_n 0, 1) := by decide +kernel
theorem dL_2298 : decode code 2298 = .ok (.iload_n 3, 1) := by decide +kernel
theorem dL_2299 : decode code 2299 = .ok (.iconst 2, 1) := by decide +kernel
theorem dL_2300 : decode code 2300 = .ok (.iadd, 1) := by decide +kernel
theorem dL_2301 : decode code 2301 = .ok (.iaload, 1) := by decide +kernel
theorem dL_2302 : decode code 2302 = .ok (.aload_n 0, 1) := by decide +kernel
theorem dL_2303 : decode code 2303 = .ok (.iload_n 3, 1) := by decide +kernel
theorem dL_2304 : decode code 2304 = .ok (.iconst 3, 1) := by decide +kernel
theorem dL_2305 : decode code 2305 = .ok (.iadd, 1) := by decide +kernel
theorem dL_2306 : decode code 2306 = .ok (.iaload, 1) := by decide +kernel
theorem dL_2307 : decode code 2307 = .ok (.aload_n 0, 1) := by decide +kernel
theorem dL_2308 : decode code 2308 = .ok (.iload_n 3, 1) := by decide +kernel
theorem dL_2309 : decode code 2309 = .ok (.iconst 4, 1) := by decide +kernel
theorem dL_2310 : decode code 2310 = .ok (.iadd, 1) := by decide +kernel
theorem dL_2311 : decode code 2311 = .ok (.iaload, 1) := by decide +kernel
theorem dL_2312 : decode code 2312 = .ok (.aload_n 0, 1) := by decide +kernel
theorem dL_2313 : decode code 2313 = .ok (.iload_n 3, 1) := by decide +kernel
theorem dL_2314 : decode code 2314 = .ok (.iconst 5, 1) := by decide +kernel
theorem dL_2315 : decode code 2315 = .ok (.iadd, 1) := by decide +kernel
theorem dL_2316 : decode code 2316 = .ok (.iaload, 1) := by decide +kernel
theorem dL_2317 : decode code 2317 = .ok (.invokevirtual 307, 3) := by decide +kernel
theorem dL_2320 : decode code 2320 = .ok (.aload_n 2, 1) := by decide +kernel
theorem dL_2321 : decode code 2321 = .ok (.aload_n 0, 1) := by decide +kernel
theorem dL_2322 : decode code 2322 = .ok (.iload_n 3, 1) := by decide +kernel
theorem dL_2323 : decode code 2323 = .ok (.iconst 1, 1) := by decide +kernel
theorem dL_2324 : decode code 2324 = .ok (.iadd, 1) := by decide +kernel
theorem dL_2325 : decode code 2325 = .ok (.iaload, 1) := by decide +kernel
theorem dL_2326 : decode code 2326 = .ok (.aload_n 0, 1) := by decide +kernel
theorem dL_2327 : decode code 2327 = .ok (.iload_n 3, 1) := by decide +kernel
theorem dL_2328 : decode code 2328 = .ok (.iconst 2, 1) := by decide +kernel
theorem dL_2329 : decode code 2329 = .ok (.iadd, 1) := by decide +kernel
theorem dL_2330 : decode code 2330 = .ok (.iaload, 1) := by decide +kernel
theorem dL_2331 : decode code 2331 = .ok (.aload_n 0, 1) := by decide +kernel
theorem dL_2332 : decode code 2332 = .ok (.iload_n 3, 1) := by decide +kernel
theorem dL_2333 : decode code 2333 = .ok (.iconst 3, 1) := by decide +kernel
theorem dL_2334 : decode code 2334 = .ok (.iadd, 1) := by decide +kernel
theorem dL_2335 : decode code 2335 = .ok (.iaload, 1) := by decide +kernel
theorem dL_2336 : decode code 2336 = .ok (.aload_n 0, 1) := by decide +kernel
theorem dL_2337 : decode code 2337 = .ok (.iload_n 3, 1) := by decide +kernel
theorem dL_2338 : decode code 2338 = .ok (.iconst 4, 1) := by decide +kernel
theorem dL_2339 : decode code 2339 = .ok (.iadd, 1) := by decide +kernel
theorem dL_2340 : decode code 2340 = .ok (.iaload, 1) := by decide +kernel
theorem dL_2341 : decode code 2341 = .ok (.aload_n 0, 1) := by decide +kernel
theorem dL_2342 : decode code 2342 = .ok (.iload_n 3, 1) := by decide +kernel
theorem dL_2343 : decode code 2343 = .ok (.iconst 5, 1) := by decide +kernel
theorem dL_2344 : decode code 2344 = .ok (.iadd, 1) := by decide +kernel
theorem dL_2345 : decode code 2345 = .ok (.iaload, 1) := by decide +kernel
theorem dL_2346 : decode code 2346 = .ok (.invokevirtual 310, 3) := by decide +kernel
theorem dL_2349 : decode code 2349 = .ok (.if_icmp .eq 5, 3) := by decide +kernel
theorem dL_2352 : decode code 2352 = .ok (.iconst 0, 1) := by decide +kernel
theorem dL_2353 : decode code 2353 = .ok (.ireturn, 1) := by decide +kernel
theorem dL_2354 : decode code 2354 = .ok (.iinc 3 6, 3) := by decide +kernel
theorem dL_2357 : decode code 2357 = .ok (.goto (-2339), 3) := by decide +kernel
theorem dL_2360 : decode code 2360 = .ok (.iconst 1, 1) := by decide +kernel
theorem dL_2361 : decode code 2361 = .ok (.ireturn, 1) := by decide +kernel
