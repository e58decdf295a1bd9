theorem dX7_init_1821 : decode cX7_init 1821 = .ok (.dup, 1) := by decide +kernel
theorem dX7_init_1822 : decode cX7_init 1822 = .ok (.sipush 193, 3) := by decide +kernel
theorem dX7_init_1825 : decode cX7_init 1825 = .ok (.sipush 5959, 3) := by decide +kernel
theorem dX7_init_1828 : decode cX7_init 1828 = .ok (.iastore, 1) := by decide +kernel
theorem dX7_init_1829 : decode cX7_init 1829 = .ok (.dup, 1) := by decide +kernel
theorem dX7_init_1830 : decode cX7_init 1830 = .ok (.sipush 194, 3) := by decide +kernel
theorem dX7_init_1833 : decode cX7_init 1833 = .ok (.sipush 5288, 3) := by decide +kernel
theorem dX7_init_1836 : decode cX7_init 1836 = .ok (.iastore, 1) := by decide +kernel
theorem dX7_init_1837 : decode cX7_init 1837 = .ok (.dup, 1) := by decide +kernel
theorem dX7_init_1838 : decode cX7_init 1838 = .ok (.sipush 195, 3) := by decide +kernel
theorem dX7_init_1841 : decode cX7_init 1841 = .ok (.sipush 4561, 3) := by decide +kernel
theorem dX7_init_1844 : decode cX7_init 1844 = .ok (.iastore, 1) := by decide +kernel
theorem dX7_init_1845 : decode cX7_init 1845 = .ok (.dup, 1) := by decide +kernel
theorem dX7_init_1846 : decode cX7_init 1846 = .ok (.sipush 196, 3) := by decide +kernel
theorem dX7_init_1849 : decode cX7_init 1849 = .ok (.sipush 3776, 3) := by decide +kernel
theorem dX7_init_1852 : decode cX7_init 1852 = .ok (.iastore, 1) := by decide +kernel
theorem dX7_init_1853 : decode cX7_init 1853 = .ok (.dup, 1) := by decide +kernel
theorem dX7_init_1854 : decode cX7_init 1854 = .ok (.sipush 197, 3) := by decide +kernel
theorem dX7_init_1857 : decode cX7_init 1857 = .ok (.sipush 2935, 3) := by decide +kernel
theorem dX7_init_1860 : decode cX7_init 1860 = .ok (.iastore, 1) := by decide +kernel
theorem dX7_init_1861 : decode cX7_init 1861 = .ok (.dup, 1) := by decide +kernel
theorem dX7_init_1862 : decode cX7_init 1862 = .ok (.sipush 198, 3) := by decide +kernel
theorem dX7_init_1865 : decode cX7_init 1865 = .ok (.sipush 2037, 3) := by decide +kernel
theorem dX7_init_1868 : decode cX7_init 1868 = .ok (.iastore, 1) := by decide +kernel
theorem dX7_init_1869 : decode cX7_init 1869 = .ok (.dup, 1) := by decide +kernel
theorem dX7_init_1870 : decode cX7_init 1870 = .ok (.sipush 199, 3) := by decide +kernel
theorem dX7_init_1873 : decode cX7_init 1873 = .ok (.sipush 1082, 3) := by decide +kernel
theorem dX7_init_1876 : decode cX7_init 1876 = .ok (.iastore, 1) := by decide +kernel
theorem dX7_init_1877 : decode cX7_init 1877 = .ok (.dup, 1) := by decide +kernel
theorem dX7_init_1878 : decode cX7_init 1878 = .ok (.sipush 200, 3) := by decide +kernel
theorem dX7_init_1881 : decode cX7_init 1881 = .ok (.bipush 70, 2) := by decide +kernel
theorem dX7_init_1883 : decode cX7_init 1883 = .ok (.iastore, 1) := by decide +kernel
theorem dX7_init_1884 : decode cX7_init 1884 = .ok (.dup, 1) := by decide +kernel
theorem dX7_init_1885 : decode cX7_init 1885 = .ok (.sipush 201, 3) := by decide +kernel
theorem dX7_init_1888 : decode cX7_init 1888 = .ok (.sipush (-998), 3) := by decide +kernel
theorem dX7_init_1891 : decode cX7_init 1891 = .ok (.iastore, 1) := by decide +kernel
theorem dX7_init_1892 : decode cX7_init 1892 = .ok (.dup, 1) := by decide +kernel
theorem dX7_init_1893 : decode cX7_init 1893 = .ok (.sipush 202, 3) := by decide +kernel
theorem dX7_init_1896 : decode cX7_init 1896 = .ok (.sipush (-2122), 3) := by decide +kernel
theorem dX7_init_1899 : decode cX7_init 1899 = .ok (.iastore, 1) := by decide +kernel
theorem dX7_init_1900 : decode cX7_init 1900 = .ok (.dup, 1) := by decide +kernel
theorem dX7_init_1901 : decode cX7_init 1901 = .ok (.sipush 203, 3) := by decide +kernel
theorem dX7_init_1904 : decode cX7_init 1904 = .ok (.sipush (-3300), 3) := by decide +kernel
theorem dX7_init_1907 : decode cX7_init 1907 = .ok (.iastore, 1) := by decide +kernel
theorem dX7_init_1908 : decode cX7_init 1908 = .ok (.dup, 1) := by decide +kernel
theorem dX7_init_1909 : decode cX7_init 1909 = .ok (.sipush 204, 3) := by decide +kernel
theorem dX7_init_1912 : decode cX7_init 1912 = .ok (.sipush (-4533), 3) := by decide +kernel
theorem dX7_init_1915 : decode cX7_init 1915 = .ok (.iastore, 1) := by decide +kernel
theorem dX7_init_1916 : decode cX7_init 1916 = .ok (.dup, 1) := by decide +kernel
theorem dX7_init_1917 : decode cX7_init 1917 = .ok (.sipush 205, 3) := by decide +kernel
theorem dX7_init_1920 : decode cX7_init 1920 = .ok (.sipush (-5818), 3) := by decide +kernel
theorem dX7_init_1923 : decode cX7_init 1923 = .ok (.iastore, 1) := by decide +kernel
theorem dX7_init_1924 : decode cX7_init 1924 = .ok (.dup, 1) := by decide +kernel
theorem dX7_init_1925 : decode cX7_init 1925 = .ok (.sipush 206, 3) := by decide +kernel
theorem dX7_init_1928 : decode cX7_init 1928 = .ok (.sipush (-7154), 3) := by decide +kernel
theorem dX7_init_1931 : decode cX7_init 1931 = .ok (.iastore, 1) := by decide +kernel
theorem dX7_init_1932 : decode cX7_init 1932 = .ok (.dup, 1) := by decide +kernel
theorem dX7_init_1933 : decode cX7_init 1933 = .ok (.sipush 207, 3) := by decide +kernel
theorem dX7_init_1936 : decode cX7_init 1936 = .ok (.sipush (-8540), 3) := by decide +kernel
theorem dX7_init_1939 : decode cX7_init 1939 = .ok (.iastore, 1) := by decide +kernel
theorem dX7_init_1940 : decode cX7_init 1940 = .ok (.dup, 1) := by decide +kernel
theorem dX7_init_1941 : decode cX7_init 1941 = .ok (.sipush 208, 3) := by decide +kernel
theorem dX7_init_1944 : decode cX7_init 1944 = .ok (.sipush (-9975), 3) := by decide +kernel
theorem dX7_init_1947 : decode cX7_init 1947 = .ok (.iastore, 1) := by decide +kernel
theorem dX7_init_1948 : decode cX7_init 1948 = .ok (.dup, 1) := by decide +kernel
theorem dX7_init_1949 : decode cX7_init 1949 = .ok (.sipush 209, 3) := by decide +kernel
theorem dX7_init_1952 : decode cX7_init 1952 = .ok (.sipush (-11455), 3) := by decide +kernel
theorem dX7_init_1955 : decode cX7_init 1955 = .ok (.iastore, 1) := by decide +kernel
theorem dX7_init_1956 : decode cX7_init 1956 = .ok (.dup, 1) := by decide +kernel
theorem dX7_init_1957 : decode cX7_init 1957 = .ok (.sipush 210, 3) := by decide +kernel
theorem dX7_init_1960 : decode cX7_init 1960 = .ok (.sipush (-12980), 3) := by decide +kernel
theorem dX7_init_1963 : decode cX7_init 1963 = .ok (.iastore, 1) := by decide +kernel
theorem dX7_init_1964 : decode cX7_init 1964 = .ok (.dup, 1) := by decide +kernel
theorem dX7_init_1965 : decode cX7_init 1965 = .ok (.sipush 211, 3) := by decide +kernel
theorem dX7_init_1968 : decode cX7_init 1968 = .ok (.sipush (-14548), 3) := by decide +kernel
theorem dX7_init_1971 : decode cX7_init 1971 = .ok (.iastore, 1) := by decide +kernel
theorem dX7_init_1972 : decode cX7_init 1972 = .ok (.dup, 1) := by decide +kernel
theorem dX7_init_1973 : decode cX7_init 1973 = .ok (.sipush 212, 3) := by decide +kernel
theorem dX7_init_1976 : decode cX7_init 1976 = .ok (.sipush (-16155), 3) := by decide +kernel
theorem dX7_init_1979 : decode cX7_init 1979 = .ok (.iastore, 1) := by decide +kernel
theorem dX7_init_1980 : decode cX7_init 1980 = .ok (.dup, 1) := by decide +kernel
theorem dX7_init_1981 : decode cX7_init 1981 = .ok (.sipush 213, 3) := by decide +kernel
theorem dX7_init_1984 : decode cX7_init 1984 = .ok (.sipush (-17799), 3) := by decide +kernel
theorem dX7_init_1987 : decode cX7_init 1987 = .ok (.iastore, 1) := by decide +kernel
theorem dX7_init_1988 : decode cX7_init 1988 = .ok (.dup, 1) := by decide +kernel
theorem dX7_init_1989 : decode cX7_init 1989 = .ok (.sipush 214, 3) := by decide +kernel
theorem dX7_init_1992 : decode cX7_init 1992 = .ok (.sipush (-19478), 3) := by decide +kernel
theorem dX7_init_1995 : decode cX7_init 1995 = .ok (.iastore, 1) := by decide +kernel
theorem dX7_init_1996 : decode cX7_init 1996 = .ok (.dup, 1) := by decide +kernel
theorem dX7_init_1997 : decode cX7_init 1997 = .ok (.sipush 215, 3) := by decide +kernel
theorem dX7_init_2000 : decode cX7_init 2000 = .ok (.sipush (-21189), 3) := by decide +kernel
theorem dX7_init_2003 : decode cX7_init 2003 = .ok (.iastore, 1) := by decide +kernel
theorem dX7_init_2004 : decode cX7_init 2004 = .ok (.dup, 1) := by decide +kernel
theorem dX7_init_2005 : decode cX7_init 2005 = .ok (.sipush 216, 3) := by decide +kernel
theorem dX7_init_2008 : decode cX7_init 2008 = .ok (.sipush (-22929), 3) := by decide +kernel
theorem dX7_init_2011 : decode cX7_init 2011 = .ok (.iastore, 1) := by decide +kernel
theorem dX7_init_2012 : decode cX7_init 2012 = .ok (.dup, 1) := by decide +kernel
theorem dX7_init_2013 : decode cX7_init 2013 = .ok (.sipush 217, 3) := by decide +kernel
theorem dX7_init_2016 : decode cX7_init 2016 = .ok (.sipush (-24694), 3) := by decide +kernel
theorem dX7_init_2019 : decode cX7_init 2019 = .ok (.iastore, 1) := by decide +kernel
theorem dX7_init_2020 : decode cX7_init 2020 = .ok (.dup, 1) := by decide +kernel
theorem dX7_init_2021 : decode cX7_init 2021 = .ok (.sipush 218, 3) := by decide +kernel
theorem dX7_init_2024 : decode cX7_init 2024 = .ok (.sipush (-26482), 3) := by decide +kernel
theorem dX7_init_2027 : decode cX7_init 2027 = .ok (.iastore, 1) := by decide +kernel
theorem dX7_init_2028 : decode cX7_init 2028 = .ok (.dup, 1) := by decide +kernel
theorem dX7_init_2029 : decode cX7_init 2029 = .ok (.sipush 219, 3) := by decide +kernel
theorem dX7_init_2032 : decode cX7_init 2032 = .ok (.sipush (-28289), 3) := by decide +kernel
theorem dX7_init_2035 : decode cX7_init 2035 = .ok (.iastore, 1) := by decide +kernel
theorem dX7_init_2036 : decode cX7_init 2036 = .ok (.dup, 1) := by decide +kernel
theorem dX7_init_2037 : decode cX7_init 2037 = .ok (.sipush 220, 3) := by decide +kernel
theorem dX7_init_2040 : decode cX7_init 2040 = .ok (.sipush (-30112), 3) := by decide +kernel
theorem dX7_init_2043 : decode cX7_init 2043 = .ok (.iastore, 1) := by decide +kernel
theorem dX7_init_2044 : decode cX7_init 2044 = .ok (.dup, 1) := by decide +kernel
theorem dX7_init_2045 : decode cX7_init 2045 = .ok (.sipush 221, 3) := by decide +kernel
theorem dX7_init_2048 : decode cX7_init 2048 = .ok (.sipush (-31947), 3) := by decide +kernel
theorem dX7_init_2051 : decode cX7_init 2051 = .ok (.iastore, 1) := by decide +kernel
theorem dX7_init_2052 : decode cX7_init 2052 = .ok (.dup, 1) := by decide +kernel
theorem dX7_init_2053 : decode cX7_init 2053 = .ok (.sipush 222, 3) := by decide +kernel
theorem dX7_init_2056 : decode cX7_init 2056 = .ok (.ldc 61, 2) := by decide +kernel
theorem dX7_init_2058 : decode cX7_init 2058 = .ok (.iastore, 1) := by decide +kernel
theorem dX7_init_2059 : decode cX7_init 2059 = .ok (.dup, 1) := by decide +kernel
theorem dX7_init_2060 : decode cX7_init 2060 = .ok (.sipush 223, 3) := by decide +kernel
theorem dX7_init_2063 : decode cX7_init 2063 = .ok (.ldc 62, 2) := by decide +kernel
theorem dX7_init_2065 : decode cX7_init 2065 = .ok (.iastore, 1) := by decide +kernel
theorem dX7_init_2066 : decode cX7_init 2066 = .ok (.dup, 1) := by decide +kernel
theorem dX7_init_2067 : decode cX7_init 2067 = .ok (.sipush 224, 3) := by decide +kernel
theorem dX7_init_2070 : decode cX7_init 2070 = .ok (.ldc 63, 2) := by decide +kernel
theorem dX7_init_2072 : decode cX7_init 2072 = .ok (.iastore, 1) := by decide +kernel
theorem dX7_init_2073 : decode cX7_init 2073 = .ok (.dup, 1) := by decide +kernel
theorem dX7_init_2074 : decode cX7_init 2074 = .ok (.sipush 225, 3) := by decide +kernel
