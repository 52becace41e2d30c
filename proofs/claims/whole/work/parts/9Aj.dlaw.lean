theorem dL_law_1843 : decode cL_law 1843 = .ok (.iconst 2, 1) := by decide +kernel
theorem dL_law_1844 : decode cL_law 1844 = .ok (.iadd, 1) := by decide +kernel
theorem dL_law_1845 : decode cL_law 1845 = .ok (.iaload, 1) := by decide +kernel
theorem dL_law_1846 : decode cL_law 1846 = .ok (.aload_n 3, 1) := by decide +kernel
theorem dL_law_1847 : decode cL_law 1847 = .ok (.invokestatic 275, 3) := by decide +kernel
theorem dL_law_1850 : decode cL_law 1850 = .ok (.istore 6, 2) := by decide +kernel
theorem dL_law_1852 : decode cL_law 1852 = .ok (.aload_n 2, 1) := by decide +kernel
theorem dL_law_1853 : decode cL_law 1853 = .ok (.aload_n 0, 1) := by decide +kernel
theorem dL_law_1854 : decode cL_law 1854 = .ok (.iload 5, 2) := by decide +kernel
theorem dL_law_1856 : decode cL_law 1856 = .ok (.iconst 1, 1) := by decide +kernel
theorem dL_law_1857 : decode cL_law 1857 = .ok (.iadd, 1) := by decide +kernel
theorem dL_law_1858 : decode cL_law 1858 = .ok (.iaload, 1) := by decide +kernel
theorem dL_law_1859 : decode cL_law 1859 = .ok (.aload_n 0, 1) := by decide +kernel
theorem dL_law_1860 : decode cL_law 1860 = .ok (.iload 5, 2) := by decide +kernel
theorem dL_law_1862 : decode cL_law 1862 = .ok (.iconst 2, 1) := by decide +kernel
theorem dL_law_1863 : decode cL_law 1863 = .ok (.iadd, 1) := by decide +kernel
theorem dL_law_1864 : decode cL_law 1864 = .ok (.iaload, 1) := by decide +kernel
theorem dL_law_1865 : decode cL_law 1865 = .ok (.invokevirtual 277, 3) := by decide +kernel
theorem dL_law_1868 : decode cL_law 1868 = .ok (.istore 7, 2) := by decide +kernel
theorem dL_law_1870 : decode cL_law 1870 = .ok (.aload_n 2, 1) := by decide +kernel
theorem dL_law_1871 : decode cL_law 1871 = .ok (.invokevirtual 163, 3) := by decide +kernel
theorem dL_law_1874 : decode cL_law 1874 = .ok (.iload 6, 2) := by decide +kernel
theorem dL_law_1876 : decode cL_law 1876 = .ok (.if_icmp .eq 5, 3) := by decide +kernel
theorem dL_law_1879 : decode cL_law 1879 = .ok (.iconst 0, 1) := by decide +kernel
theorem dL_law_1880 : decode cL_law 1880 = .ok (.ireturn, 1) := by decide +kernel
theorem dL_law_1881 : decode cL_law 1881 = .ok (.iload 6, 2) := by decide +kernel
theorem dL_law_1883 : decode cL_law 1883 = .ok (.ifCond .ne 15, 3) := by decide +kernel
theorem dL_law_1886 : decode cL_law 1886 = .ok (.aload_n 3, 1) := by decide +kernel
theorem dL_law_1887 : decode cL_law 1887 = .ok (.iconst 0, 1) := by decide +kernel
theorem dL_law_1888 : decode cL_law 1888 = .ok (.laload, 1) := by decide +kernel
theorem dL_law_1889 : decode cL_law 1889 = .ok (.iload 7, 2) := by decide +kernel
theorem dL_law_1891 : decode cL_law 1891 = .ok (.i2l, 1) := by decide +kernel
theorem dL_law_1892 : decode cL_law 1892 = .ok (.lcmp, 1) := by decide +kernel
theorem dL_law_1893 : decode cL_law 1893 = .ok (.ifCond .eq 5, 3) := by decide +kernel
theorem dL_law_1896 : decode cL_law 1896 = .ok (.iconst 0, 1) := by decide +kernel
theorem dL_law_1897 : decode cL_law 1897 = .ok (.ireturn, 1) := by decide +kernel
theorem dL_law_1898 : decode cL_law 1898 = .ok (.goto 869, 3) := by decide +kernel
theorem dL_law_1901 : decode cL_law 1901 = .ok (.aload_n 1, 1) := by decide +kernel
theorem dL_law_1902 : decode cL_law 1902 = .ok (.aload_n 0, 1) := by decide +kernel
theorem dL_law_1903 : decode cL_law 1903 = .ok (.iload 5, 2) := by decide +kernel
theorem dL_law_1905 : decode cL_law 1905 = .ok (.iconst 1, 1) := by decide +kernel
theorem dL_law_1906 : decode cL_law 1906 = .ok (.iadd, 1) := by decide +kernel
theorem dL_law_1907 : decode cL_law 1907 = .ok (.iaload, 1) := by decide +kernel
theorem dL_law_1908 : decode cL_law 1908 = .ok (.aload_n 3, 1) := by decide +kernel
theorem dL_law_1909 : decode cL_law 1909 = .ok (.invokestatic 278, 3) := by decide +kernel
theorem dL_law_1912 : decode cL_law 1912 = .ok (.istore 6, 2) := by decide +kernel
theorem dL_law_1914 : decode cL_law 1914 = .ok (.aload_n 2, 1) := by decide +kernel
theorem dL_law_1915 : decode cL_law 1915 = .ok (.aload_n 0, 1) := by decide +kernel
theorem dL_law_1916 : decode cL_law 1916 = .ok (.iload 5, 2) := by decide +kernel
theorem dL_law_1918 : decode cL_law 1918 = .ok (.iconst 1, 1) := by decide +kernel
theorem dL_law_1919 : decode cL_law 1919 = .ok (.iadd, 1) := by decide +kernel
theorem dL_law_1920 : decode cL_law 1920 = .ok (.iaload, 1) := by decide +kernel
theorem dL_law_1921 : decode cL_law 1921 = .ok (.invokevirtual 280, 3) := by decide +kernel
theorem dL_law_1924 : decode cL_law 1924 = .ok (.istore 7, 2) := by decide +kernel
theorem dL_law_1926 : decode cL_law 1926 = .ok (.aload_n 2, 1) := by decide +kernel
theorem dL_law_1927 : decode cL_law 1927 = .ok (.invokevirtual 163, 3) := by decide +kernel
theorem dL_law_1930 : decode cL_law 1930 = .ok (.iload 6, 2) := by decide +kernel
theorem dL_law_1932 : decode cL_law 1932 = .ok (.if_icmp .eq 5, 3) := by decide +kernel
theorem dL_law_1935 : decode cL_law 1935 = .ok (.iconst 0, 1) := by decide +kernel
theorem dL_law_1936 : decode cL_law 1936 = .ok (.ireturn, 1) := by decide +kernel
theorem dL_law_1937 : decode cL_law 1937 = .ok (.iload 6, 2) := by decide +kernel
theorem dL_law_1939 : decode cL_law 1939 = .ok (.ifCond .ne 15, 3) := by decide +kernel
theorem dL_law_1942 : decode cL_law 1942 = .ok (.aload_n 3, 1) := by decide +kernel
theorem dL_law_1943 : decode cL_law 1943 = .ok (.iconst 0, 1) := by decide +kernel
theorem dL_law_1944 : decode cL_law 1944 = .ok (.laload, 1) := by decide +kernel
theorem dL_law_1945 : decode cL_law 1945 = .ok (.iload 7, 2) := by decide +kernel
theorem dL_law_1947 : decode cL_law 1947 = .ok (.i2l, 1) := by decide +kernel
theorem dL_law_1948 : decode cL_law 1948 = .ok (.lcmp, 1) := by decide +kernel
theorem dL_law_1949 : decode cL_law 1949 = .ok (.ifCond .eq 5, 3) := by decide +kernel
theorem dL_law_1952 : decode cL_law 1952 = .ok (.iconst 0, 1) := by decide +kernel
theorem dL_law_1953 : decode cL_law 1953 = .ok (.ireturn, 1) := by decide +kernel
theorem dL_law_1954 : decode cL_law 1954 = .ok (.goto 813, 3) := by decide +kernel
theorem dL_law_1957 : decode cL_law 1957 = .ok (.aload_n 1, 1) := by decide +kernel
theorem dL_law_1958 : decode cL_law 1958 = .ok (.aload_n 0, 1) := by decide +kernel
theorem dL_law_1959 : decode cL_law 1959 = .ok (.iload 5, 2) := by decide +kernel
theorem dL_law_1961 : decode cL_law 1961 = .ok (.iconst 1, 1) := by decide +kernel
theorem dL_law_1962 : decode cL_law 1962 = .ok (.iadd, 1) := by decide +kernel
theorem dL_law_1963 : decode cL_law 1963 = .ok (.iaload, 1) := by decide +kernel
theorem dL_law_1964 : decode cL_law 1964 = .ok (.aload_n 3, 1) := by decide +kernel
theorem dL_law_1965 : decode cL_law 1965 = .ok (.invokestatic 281, 3) := by decide +kernel
theorem dL_law_1968 : decode cL_law 1968 = .ok (.istore 6, 2) := by decide +kernel
theorem dL_law_1970 : decode cL_law 1970 = .ok (.aload_n 2, 1) := by decide +kernel
theorem dL_law_1971 : decode cL_law 1971 = .ok (.aload_n 0, 1) := by decide +kernel
theorem dL_law_1972 : decode cL_law 1972 = .ok (.iload 5, 2) := by decide +kernel
theorem dL_law_1974 : decode cL_law 1974 = .ok (.iconst 1, 1) := by decide +kernel
theorem dL_law_1975 : decode cL_law 1975 = .ok (.iadd, 1) := by decide +kernel
theorem dL_law_1976 : decode cL_law 1976 = .ok (.iaload, 1) := by decide +kernel
theorem dL_law_1977 : decode cL_law 1977 = .ok (.invokevirtual 283, 3) := by decide +kernel
theorem dL_law_1980 : decode cL_law 1980 = .ok (.istore 7, 2) := by decide +kernel
theorem dL_law_1982 : decode cL_law 1982 = .ok (.aload_n 2, 1) := by decide +kernel
theorem dL_law_1983 : decode cL_law 1983 = .ok (.invokevirtual 163, 3) := by decide +kernel
theorem dL_law_1986 : decode cL_law 1986 = .ok (.iload 6, 2) := by decide +kernel
theorem dL_law_1988 : decode cL_law 1988 = .ok (.if_icmp .eq 5, 3) := by decide +kernel
theorem dL_law_1991 : decode cL_law 1991 = .ok (.iconst 0, 1) := by decide +kernel
theorem dL_law_1992 : decode cL_law 1992 = .ok (.ireturn, 1) := by decide +kernel
theorem dL_law_1993 : decode cL_law 1993 = .ok (.iload 6, 2) := by decide +kernel
theorem dL_law_1995 : decode cL_law 1995 = .ok (.ifCond .ne 15, 3) := by decide +kernel
theorem dL_law_1998 : decode cL_law 1998 = .ok (.aload_n 3, 1) := by decide +kernel
theorem dL_law_1999 : decode cL_law 1999 = .ok (.iconst 0, 1) := by decide +kernel
theorem dL_law_2000 : decode cL_law 2000 = .ok (.laload, 1) := by decide +kernel
theorem dL_law_2001 : decode cL_law 2001 = .ok (.iload 7, 2) := by decide +kernel
theorem dL_law_2003 : decode cL_law 2003 = .ok (.i2l, 1) := by decide +kernel
theorem dL_law_2004 : decode cL_law 2004 = .ok (.lcmp, 1) := by decide +kernel
theorem dL_law_2005 : decode cL_law 2005 = .ok (.ifCond .eq 5, 3) := by decide +kernel
theorem dL_law_2008 : decode cL_law 2008 = .ok (.iconst 0, 1) := by decide +kernel
theorem dL_law_2009 : decode cL_law 2009 = .ok (.ireturn, 1) := by decide +kernel
theorem dL_law_2010 : decode cL_law 2010 = .ok (.goto 757, 3) := by decide +kernel
theorem dL_law_2013 : decode cL_law 2013 = .ok (.aload_n 1, 1) := by decide +kernel
theorem dL_law_2014 : decode cL_law 2014 = .ok (.aload_n 0, 1) := by decide +kernel
theorem dL_law_2015 : decode cL_law 2015 = .ok (.iload 5, 2) := by decide +kernel
