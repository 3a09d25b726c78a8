theorem dL_law_1878 : decode cL_law 1878 = .ok (.aload_n 1, 1) := by decide +kernel
theorem dL_law_1879 : decode cL_law 1879 = .ok (.aload_n 0, 1) := by decide +kernel
theorem dL_law_1880 : decode cL_law 1880 = .ok (.iload_n 3, 1) := by decide +kernel
theorem dL_law_1881 : decode cL_law 1881 = .ok (.iconst 1, 1) := by decide +kernel
theorem dL_law_1882 : decode cL_law 1882 = .ok (.iadd, 1) := by decide +kernel
theorem dL_law_1883 : decode cL_law 1883 = .ok (.iaload, 1) := by decide +kernel
theorem dL_law_1884 : decode cL_law 1884 = .ok (.aload_n 0, 1) := by decide +kernel
theorem dL_law_1885 : decode cL_law 1885 = .ok (.iload_n 3, 1) := by decide +kernel
theorem dL_law_1886 : decode cL_law 1886 = .ok (.iconst 2, 1) := by decide +kernel
theorem dL_law_1887 : decode cL_law 1887 = .ok (.iadd, 1) := by decide +kernel
theorem dL_law_1888 : decode cL_law 1888 = .ok (.iaload, 1) := by decide +kernel
theorem dL_law_1889 : decode cL_law 1889 = .ok (.invokevirtual 212, 3) := by decide +kernel
theorem dL_law_1892 : decode cL_law 1892 = .ok (.aload_n 2, 1) := by decide +kernel
theorem dL_law_1893 : decode cL_law 1893 = .ok (.aload_n 0, 1) := by decide +kernel
theorem dL_law_1894 : decode cL_law 1894 = .ok (.iload_n 3, 1) := by decide +kernel
theorem dL_law_1895 : decode cL_law 1895 = .ok (.iconst 1, 1) := by decide +kernel
theorem dL_law_1896 : decode cL_law 1896 = .ok (.iadd, 1) := by decide +kernel
theorem dL_law_1897 : decode cL_law 1897 = .ok (.iaload, 1) := by decide +kernel
theorem dL_law_1898 : decode cL_law 1898 = .ok (.aload_n 0, 1) := by decide +kernel
theorem dL_law_1899 : decode cL_law 1899 = .ok (.iload_n 3, 1) := by decide +kernel
theorem dL_law_1900 : decode cL_law 1900 = .ok (.iconst 2, 1) := by decide +kernel
theorem dL_law_1901 : decode cL_law 1901 = .ok (.iadd, 1) := by decide +kernel
theorem dL_law_1902 : decode cL_law 1902 = .ok (.iaload, 1) := by decide +kernel
theorem dL_law_1903 : decode cL_law 1903 = .ok (.invokevirtual 215, 3) := by decide +kernel
theorem dL_law_1906 : decode cL_law 1906 = .ok (.if_icmp .eq 557, 3) := by decide +kernel
theorem dL_law_1911 : decode cL_law 1911 = .ok (.aload_n 1, 1) := by decide +kernel
theorem dL_law_1912 : decode cL_law 1912 = .ok (.aload_n 0, 1) := by decide +kernel
theorem dL_law_1913 : decode cL_law 1913 = .ok (.iload_n 3, 1) := by decide +kernel
theorem dL_law_1914 : decode cL_law 1914 = .ok (.iconst 1, 1) := by decide +kernel
theorem dL_law_1915 : decode cL_law 1915 = .ok (.iadd, 1) := by decide +kernel
theorem dL_law_1916 : decode cL_law 1916 = .ok (.iaload, 1) := by decide +kernel
theorem dL_law_1917 : decode cL_law 1917 = .ok (.aload_n 0, 1) := by decide +kernel
theorem dL_law_1918 : decode cL_law 1918 = .ok (.iload_n 3, 1) := by decide +kernel
theorem dL_law_1919 : decode cL_law 1919 = .ok (.iconst 2, 1) := by decide +kernel
theorem dL_law_1920 : decode cL_law 1920 = .ok (.iadd, 1) := by decide +kernel
theorem dL_law_1921 : decode cL_law 1921 = .ok (.iaload, 1) := by decide +kernel
theorem dL_law_1922 : decode cL_law 1922 = .ok (.invokevirtual 216, 3) := by decide +kernel
theorem dL_law_1925 : decode cL_law 1925 = .ok (.aload_n 2, 1) := by decide +kernel
theorem dL_law_1926 : decode cL_law 1926 = .ok (.aload_n 0, 1) := by decide +kernel
theorem dL_law_1927 : decode cL_law 1927 = .ok (.iload_n 3, 1) := by decide +kernel
theorem dL_law_1928 : decode cL_law 1928 = .ok (.iconst 1, 1) := by decide +kernel
theorem dL_law_1929 : decode cL_law 1929 = .ok (.iadd, 1) := by decide +kernel
theorem dL_law_1930 : decode cL_law 1930 = .ok (.iaload, 1) := by decide +kernel
theorem dL_law_1931 : decode cL_law 1931 = .ok (.aload_n 0, 1) := by decide +kernel
theorem dL_law_1932 : decode cL_law 1932 = .ok (.iload_n 3, 1) := by decide +kernel
theorem dL_law_1933 : decode cL_law 1933 = .ok (.iconst 2, 1) := by decide +kernel
theorem dL_law_1934 : decode cL_law 1934 = .ok (.iadd, 1) := by decide +kernel
theorem dL_law_1935 : decode cL_law 1935 = .ok (.iaload, 1) := by decide +kernel
theorem dL_law_1936 : decode cL_law 1936 = .ok (.invokevirtual 219, 3) := by decide +kernel
theorem dL_law_1939 : decode cL_law 1939 = .ok (.if_icmp .eq 524, 3) := by decide +kernel
theorem dL_law_1944 : decode cL_law 1944 = .ok (.aload_n 1, 1) := by decide +kernel
theorem dL_law_1945 : decode cL_law 1945 = .ok (.aload_n 0, 1) := by decide +kernel
theorem dL_law_1946 : decode cL_law 1946 = .ok (.iload_n 3, 1) := by decide +kernel
theorem dL_law_1947 : decode cL_law 1947 = .ok (.iconst 1, 1) := by decide +kernel
theorem dL_law_1948 : decode cL_law 1948 = .ok (.iadd, 1) := by decide +kernel
theorem dL_law_1949 : decode cL_law 1949 = .ok (.iaload, 1) := by decide +kernel
theorem dL_law_1950 : decode cL_law 1950 = .ok (.aload_n 0, 1) := by decide +kernel
theorem dL_law_1951 : decode cL_law 1951 = .ok (.iload_n 3, 1) := by decide +kernel
theorem dL_law_1952 : decode cL_law 1952 = .ok (.iconst 2, 1) := by decide +kernel
theorem dL_law_1953 : decode cL_law 1953 = .ok (.iadd, 1) := by decide +kernel
theorem dL_law_1954 : decode cL_law 1954 = .ok (.iaload, 1) := by decide +kernel
theorem dL_law_1955 : decode cL_law 1955 = .ok (.invokevirtual 220, 3) := by decide +kernel
theorem dL_law_1958 : decode cL_law 1958 = .ok (.aload_n 2, 1) := by decide +kernel
theorem dL_law_1959 : decode cL_law 1959 = .ok (.aload_n 0, 1) := by decide +kernel
theorem dL_law_1960 : decode cL_law 1960 = .ok (.iload_n 3, 1) := by decide +kernel
theorem dL_law_1961 : decode cL_law 1961 = .ok (.iconst 1, 1) := by decide +kernel
theorem dL_law_1962 : decode cL_law 1962 = .ok (.iadd, 1) := by decide +kernel
theorem dL_law_1963 : decode cL_law 1963 = .ok (.iaload, 1) := by decide +kernel
theorem dL_law_1964 : decode cL_law 1964 = .ok (.aload_n 0, 1) := by decide +kernel
theorem dL_law_1965 : decode cL_law 1965 = .ok (.iload_n 3, 1) := by decide +kernel
theorem dL_law_1966 : decode cL_law 1966 = .ok (.iconst 2, 1) := by decide +kernel
theorem dL_law_1967 : decode cL_law 1967 = .ok (.iadd, 1) := by decide +kernel
theorem dL_law_1968 : decode cL_law 1968 = .ok (.iaload, 1) := by decide +kernel
theorem dL_law_1969 : decode cL_law 1969 = .ok (.invokevirtual 223, 3) := by decide +kernel
theorem dL_law_1972 : decode cL_law 1972 = .ok (.if_icmp .eq 491, 3) := by decide +kernel
theorem dL_law_1977 : decode cL_law 1977 = .ok (.aload_n 1, 1) := by decide +kernel
theorem dL_law_1978 : decode cL_law 1978 = .ok (.aload_n 0, 1) := by decide +kernel
theorem dL_law_1979 : decode cL_law 1979 = .ok (.iload_n 3, 1) := by decide +kernel
theorem dL_law_1980 : decode cL_law 1980 = .ok (.iconst 1, 1) := by decide +kernel
theorem dL_law_1981 : decode cL_law 1981 = .ok (.iadd, 1) := by decide +kernel
theorem dL_law_1982 : decode cL_law 1982 = .ok (.iaload, 1) := by decide +kernel
theorem dL_law_1983 : decode cL_law 1983 = .ok (.aload_n 0, 1) := by decide +kernel
theorem dL_law_1984 : decode cL_law 1984 = .ok (.iload_n 3, 1) := by decide +kernel
theorem dL_law_1985 : decode cL_law 1985 = .ok (.iconst 2, 1) := by decide +kernel
theorem dL_law_1986 : decode cL_law 1986 = .ok (.iadd, 1) := by decide +kernel
theorem dL_law_1987 : decode cL_law 1987 = .ok (.iaload, 1) := by decide +kernel
theorem dL_law_1988 : decode cL_law 1988 = .ok (.invokevirtual 224, 3) := by decide +kernel
theorem dL_law_1991 : decode cL_law 1991 = .ok (.aload_n 2, 1) := by decide +kernel
theorem dL_law_1992 : decode cL_law 1992 = .ok (.aload_n 0, 1) := by decide +kernel
theorem dL_law_1993 : decode cL_law 1993 = .ok (.iload_n 3, 1) := by decide +kernel
theorem dL_law_1994 : decode cL_law 1994 = .ok (.iconst 1, 1) := by decide +kernel
theorem dL_law_1995 : decode cL_law 1995 = .ok (.iadd, 1) := by decide +kernel
theorem dL_law_1996 : decode cL_law 1996 = .ok (.iaload, 1) := by decide +kernel
theorem dL_law_1997 : decode cL_law 1997 = .ok (.aload_n 0, 1) := by decide +kernel
theorem dL_law_1998 : decode cL_law 1998 = .ok (.iload_n 3, 1) := by decide +kernel
theorem dL_law_1999 : decode cL_law 1999 = .ok (.iconst 2, 1) := by decide +kernel
theorem dL_law_2000 : decode cL_law 2000 = .ok (.iadd, 1) := by decide +kernel
theorem dL_law_2001 : decode cL_law 2001 = .ok (.iaload, 1) := by decide +kernel
theorem dL_law_2002 : decode cL_law 2002 = .ok (.invokevirtual 227, 3) := by decide +kernel
theorem dL_law_2005 : decode cL_law 2005 = .ok (.if_icmp .eq 458, 3) := by decide +kernel
theorem dL_law_2010 : decode cL_law 2010 = .ok (.aload_n 1, 1) := by decide +kernel
theorem dL_law_2011 : decode cL_law 2011 = .ok (.aload_n 0, 1) := by decide +kernel
theorem dL_law_2012 : decode cL_law 2012 = .ok (.iload_n 3, 1) := by decide +kernel
theorem dL_law_2013 : decode cL_law 2013 = .ok (.iconst 1, 1) := by decide +kernel
theorem dL_law_2014 : decode cL_law 2014 = .ok (.iadd, 1) := by decide +kernel
theorem dL_law_2015 : decode cL_law 2015 = .ok (.iaload, 1) := by decide +kernel
theorem dL_law_2016 : decode cL_law 2016 = .ok (.aload_n 0, 1) := by decide +kernel
theorem dL_law_2017 : decode cL_law 2017 = .ok (.iload_n 3, 1) := by decide +kernel
theorem dL_law_2018 : decode cL_law 2018 = .ok (.iconst 2, 1) := by decide +kernel
theorem dL_law_2019 : decode cL_law 2019 = .ok (.iadd, 1) := by decide +kernel
theorem dL_law_2020 : decode cL_law 2020 = .ok (.iaload, 1) := by decide +kernel
theorem dL_law_2021 : decode cL_law 2021 = .ok (.aload_n 0, 1) := by decide +kernel
theorem dL_law_2022 : decode cL_law 2022 = .ok (.iload_n 3, 1) := by decide +kernel
theorem dL_law_2023 : decode cL_law 2023 = .ok (.iconst 3, 1) := by decide +kernel
theorem dL_law_2024 : decode cL_law 2024 = .ok (.iadd, 1) := by decide +kernel
theorem dL_law_2025 : decode cL_law 2025 = .ok (.iaload, 1) := by decide +kernel
theorem dL_law_2026 : decode cL_law 2026 = .ok (.invokevirtual 228, 3) := by decide +kernel
theorem dL_law_2029 : decode cL_law 2029 = .ok (.aload_n 2, 1) := by decide +kernel
theorem dL_law_2030 : decode cL_law 2030 = .ok (.aload_n 0, 1) := by decide +kernel
theorem dL_law_2031 : decode cL_law 2031 = .ok (.iload_n 3, 1) := by decide +kernel
theorem dL_law_2032 : decode cL_law 2032 = .ok (.iconst 1, 1) := by decide +kernel
theorem dL_law_2033 : decode cL_law 2033 = .ok (.iadd, 1) := by decide +kernel
theorem dL_law_2034 : decode cL_law 2034 = .ok (.iaload, 1) := by decide +kernel
theorem dL_law_2035 : decode cL_law 2035 = .ok (.aload_n 0, 1) := by decide +kernel
theorem dL_law_2036 : decode cL_law 2036 = .ok (.iload_n 3, 1) := by decide +kernel
theorem dL_law_2037 : decode cL_law 2037 = .ok (.iconst 2, 1) := by decide +kernel
theorem dL_law_2038 : decode cL_law 2038 = .ok (.iadd, 1) := by decide +kernel
theorem dL_law_2039 : decode cL_law 2039 = .ok (.iaload, 1) := by decide +kernel
theorem dL_law_2040 : decode cL_law 2040 = .ok (.aload_n 0, 1) := by decide +kernel
theorem dL_law_2041 : decode cL_law 2041 = .ok (.iload_n 3, 1) := by decide +kernel
theorem dL_law_2042 : decode cL_law 2042 = .ok (.iconst 3, 1) := by decide +kernel
theorem dL_law_2043 : decode cL_law 2043 = .ok (.iadd, 1) := by decide +kernel
theorem dL_law_2044 : decode cL_law 2044 = .ok (.iaload, 1) := by decide +kernel
theorem dL_law_2045 : decode cL_law 2045 = .ok (.invokevirtual 231, 3) := by decide +kernel
theorem dL_law_2048 : decode cL_law 2048 = .ok (.if_icmp .eq 415, 3) := by decide +kernel
theorem dL_law_2053 : decode cL_law 2053 = .ok (.aload_n 1, 1) := by decide +kernel
theorem dL_law_2054 : decode cL_law 2054 = .ok (.aload_n 0, 1) := by decide +kernel
theorem dL_law_2055 : decode cL_law 2055 = .ok (.iload_n 3, 1) := by decide +kernel
theorem dL_law_2056 : decode cL_law 2056 = .ok (.iconst 1, 1) := by decide +kernel
theorem dL_law_2057 : decode cL_law 2057 = .ok (.iadd, 1) := by decide +kernel
theorem dL_law_2058 : decode cL_law 2058 = .ok (.iaload, 1) := by decide +kernel
theorem dL_law_2059 : decode cL_law 2059 = .ok (.aload_n 0, 1) := by decide +kernel
theorem dL_law_2060 : decode cL_law 2060 = .ok (.iload_n 3, 1) := by decide +kernel
theorem dL_law_2061 : decode cL_law 2061 = .ok (.iconst 2, 1) := by decide +kernel
theorem dL_law_2062 : decode cL_law 2062 = .ok (.iadd, 1) := by decide +kernel
theorem dL_law_2063 : decode cL_law 2063 = .ok (.iaload, 1) := by decide +kernel
theorem dL_law_2064 : decode cL_law 2064 = .ok (.aload_n 0, 1) := by decide +kernel
theorem dL_law_2065 : decode cL_law 2065 = .ok (.iload_n 3, 1) := by decide +kernel
theorem dL_law_2066 : decode cL_law 2066 = .ok (.iconst 3, 1) := by decide +kernel
theorem dL_law_2067 : decode cL_law 2067 = .ok (.iadd, 1) := by decide +kernel
theorem dL_law_2068 : decode cL_law 2068 = .ok (.iaload, 1) := by decide +kernel
theorem dL_law_2069 : decode cL_law 2069 = .ok (.invokevirtual 232, 3) := by decide +kernel
theorem dL_law_2072 : decode cL_law 2072 = .ok (.aload_n 2, 1) := by decide +kernel
theorem dL_law_2073 : decode cL_law 2073 = .ok (.aload_n 0, 1) := by decide +kernel
theorem dL_law_2074 : decode cL_law 2074 = .ok (.iload_n 3, 1) := by decide +kernel
theorem dL_law_2075 : decode cL_law 2075 = .ok (.iconst 1, 1) := by decide +kernel
theorem dL_law_2076 : decode cL_law 2076 = .ok (.iadd, 1) := by decide +kernel
theorem dL_law_2077 : decode cL_law 2077 = .ok (.iaload, 1) := by decide +kernel
theorem dL_law_2078 : decode cL_law 2078 = .ok (.aload_n 0, 1) := by decide +kernel
theorem dL_law_2079 : decode cL_law 2079 = .ok (.iload_n 3, 1) := by decide +kernel
theorem dL_law_2080 : decode cL_law 2080 = .ok (.iconst 2, 1) := by decide +kernel
theorem dL_law_2081 : decode cL_law 2081 = .ok (.iadd, 1) := by decide +kernel
theorem dL_law_2082 : decode cL_law 2082 = .ok (.iaload, 1) := by decide +kernel
theorem dL_law_2083 : decode cL_law 2083 = .ok (.aload_n 0, 1) := by decide +kernel
theorem dL_law_2084 : decode cL_law 2084 = .ok (.iload_n 3, 1) := by decide +kernel
theorem dL_law_2085 : decode cL_law 2085 = .ok (.iconst 3, 1) := by decide +kernel
theorem dL_law_2086 : decode cL_law 2086 = .ok (.iadd, 1) := by decide +kernel
theorem dL_law_2087 : decode cL_law 2087 = .ok (.iaload, 1) := by decide +kernel
theorem dL_law_2088 : decode cL_law 2088 = .ok (.invokevirtual 235, 3) := by decide +kernel
theorem dL_law_2091 : decode cL_law 2091 = .ok (.if_icmp .eq 372, 3) := by decide +kernel
theorem dL_law_2096 : decode cL_law 2096 = .ok (.aload_n 1, 1) := by decide +kernel
theorem dL_law_2097 : decode cL_law 2097 = .ok (.aload_n 0, 1) := by decide +kernel
theorem dL_law_2098 : decode cL_law 2098 = .ok (.iload_n 3, 1) := by decide +kernel
theorem dL_law_2099 : decode cL_law 2099 = .ok (.iconst 1, 1) := by decide +kernel
theorem dL_law_2100 : decode cL_law 2100 = .ok (.iadd, 1) := by decide +kernel
theorem dL_law_2101 : decode cL_law 2101 = .ok (.iaload, 1) := by decide +kernel
theorem dL_law_2102 : decode cL_law 2102 = .ok (.aload_n 0, 1) := by decide +kernel
theorem dL_law_2103 : decode cL_law 2103 = .ok (.iload_n 3, 1) := by decide +kernel
theorem dL_law_2104 : decode cL_law 2104 = .ok (.iconst 2, 1) := by decide +kernel
theorem dL_law_2105 : decode cL_law 2105 = .ok (.iadd, 1) := by decide +kernel
theorem dL_law_2106 : decode cL_law 2106 = .ok (.iaload, 1) := by decide +kernel
theorem dL_law_2107 : decode cL_law 2107 = .ok (.invokevirtual 236, 3) := by decide +kernel
theorem dL_law_2110 : decode cL_law 2110 = .ok (.aload_n 2, 1) := by decide +kernel
theorem dL_law_2111 : decode cL_law 2111 = .ok (.aload_n 0, 1) := by decide +kernel
theorem dL_law_2112 : decode cL_law 2112 = .ok (.iload_n 3, 1) := by decide +kernel
theorem dL_law_2113 : decode cL_law 2113 = .ok (.iconst 1, 1) := by decide +kernel
theorem dL_law_2114 : decode cL_law 2114 = .ok (.iadd, 1) := by decide +kernel
theorem dL_law_2115 : decode cL_law 2115 = .ok (.iaload, 1) := by decide +kernel
theorem dL_law_2116 : decode cL_law 2116 = .ok (.aload_n 0, 1) := by decide +kernel
theorem dL_law_2117 : decode cL_law 2117 = .ok (.iload_n 3, 1) := by decide +kernel
theorem dL_law_2118 : decode cL_law 2118 = .ok (.iconst 2, 1) := by decide +kernel
theorem dL_law_2119 : decode cL_law 2119 = .ok (.iadd, 1) := by decide +kernel
theorem dL_law_2120 : decode cL_law 2120 = .ok (.iaload, 1) := by decide +kernel
theorem dL_law_2121 : decode cL_law 2121 = .ok (.invokevirtual 239, 3) := by decide +kernel
theorem dL_law_2124 : decode cL_law 2124 = .ok (.if_icmp .eq 339, 3) := by decide +kernel
theorem dL_law_2129 : decode cL_law 2129 = .ok (.aload_n 1, 1) := by decide +kernel
theorem dL_law_2130 : decode cL_law 2130 = .ok (.aload_n 0, 1) := by decide +kernel
theorem dL_law_2131 : decode cL_law 2131 = .ok (.iload_n 3, 1) := by decide +kernel
theorem dL_law_2132 : decode cL_law 2132 = .ok (.iconst 1, 1) := by decide +kernel
theorem dL_law_2133 : decode cL_law 2133 = .ok (.iadd, 1) := by decide +kernel
theorem dL_law_2134 : decode cL_law 2134 = .ok (.iaload, 1) := by decide +kernel
theorem dL_law_2135 : decode cL_law 2135 = .ok (.aload_n 0, 1) := by decide +kernel
theorem dL_law_2136 : decode cL_law 2136 = .ok (.iload_n 3, 1) := by decide +kernel
theorem dL_law_2137 : decode cL_law 2137 = .ok (.iconst 2, 1) := by decide +kernel
theorem dL_law_2138 : decode cL_law 2138 = .ok (.iadd, 1) := by decide +kernel
theorem dL_law_2139 : decode cL_law 2139 = .ok (.iaload, 1) := by decide +kernel
theorem dL_law_2140 : decode cL_law 2140 = .ok (.aload_n 0, 1) := by decide +kernel
theorem dL_law_2141 : decode cL_law 2141 = .ok (.iload_n 3, 1) := by decide +kernel
theorem dL_law_2142 : decode cL_law 2142 = .ok (.iconst 3, 1) := by decide +kernel
theorem dL_law_2143 : decode cL_law 2143 = .ok (.iadd, 1) := by decide +kernel
theorem dL_law_2144 : decode cL_law 2144 = .ok (.iaload, 1) := by decide +kernel
theorem dL_law_2145 : decode cL_law 2145 = .ok (.aload_n 0, 1) := by decide +kernel
theorem dL_law_2146 : decode cL_law 2146 = .ok (.iload_n 3, 1) := by decide +kernel
theorem dL_law_2147 : decode cL_law 2147 = .ok (.iconst 4, 1) := by decide +kernel
theorem dL_law_2148 : decode cL_law 2148 = .ok (.iadd, 1) := by decide +kernel
theorem dL_law_2149 : decode cL_law 2149 = .ok (.iaload, 1) := by decide +kernel
theorem dL_law_2150 : decode cL_law 2150 = .ok (.invokevirtual 240, 3) := by decide +kernel
theorem dL_law_2153 : decode cL_law 2153 = .ok (.aload_n 2, 1) := by decide +kernel
theorem dL_law_2154 : decode cL_law 2154 = .ok (.aload_n 0, 1) := by decide +kernel
theorem dL_law_2155 : decode cL_law 2155 = .ok (.iload_n 3, 1) := by decide +kernel
theorem dL_law_2156 : decode cL_law 2156 = .ok (.iconst 1, 1) := by decide +kernel
theorem dL_law_2157 : decode cL_law 2157 = .ok (.iadd, 1) := by decide +kernel
theorem dL_law_2158 : decode cL_law 2158 = .ok (.iaload, 1) := by decide +kernel
theorem dL_law_2159 : decode cL_law 2159 = .ok (.aload_n 0, 1) := by decide +kernel
theorem dL_law_2160 : decode cL_law 2160 = .ok (.iload_n 3, 1) := by decide +kernel
theorem dL_law_2161 : decode cL_law 2161 = .ok (.iconst 2, 1) := by decide +kernel
theorem dL_law_2162 : decode cL_law 2162 = .ok (.iadd, 1) := by decide +kernel
theorem dL_law_2163 : decode cL_law 2163 = .ok (.iaload, 1) := by decide +kernel
theorem dL_law_2164 : decode cL_law 2164 = .ok (.aload_n 0, 1) := by decide +kernel
theorem dL_law_2165 : decode cL_law 2165 = .ok (.iload_n 3, 1) := by decide +kernel
theorem dL_law_2166 : decode cL_law 2166 = .ok (.iconst 3, 1) := by decide +kernel
theorem dL_law_2167 : decode cL_law 2167 = .ok (.iadd, 1) := by decide +kernel
theorem dL_law_2168 : decode cL_law 2168 = .ok (.iaload, 1) := by decide +kernel
theorem dL_law_2169 : decode cL_law 2169 = .ok (.aload_n 0, 1) := by decide +kernel
theorem dL_law_2170 : decode cL_law 2170 = .ok (.iload_n 3, 1) := by decide +kernel
theorem dL_law_2171 : decode cL_law 2171 = .ok (.iconst 4, 1) := by decide +kernel
theorem dL_law_2172 : decode cL_law 2172 = .ok (.iadd, 1) := by decide +kernel
theorem dL_law_2173 : decode cL_law 2173 = .ok (.iaload, 1) := by decide +kernel
theorem dL_law_2174 : decode cL_law 2174 = .ok (.invokevirtual 243, 3) := by decide +kernel
theorem dL_law_2177 : decode cL_law 2177 = .ok (.if_icmp .eq 286, 3) := by decide +kernel
theorem dL_law_2182 : decode cL_law 2182 = .ok (.aload_n 1, 1) := by decide +kernel
theorem dL_law_2183 : decode cL_law 2183 = .ok (.aload_n 0, 1) := by decide +kernel
theorem dL_law_2184 : decode cL_law 2184 = .ok (.iload_n 3, 1) := by decide +kernel
theorem dL_law_2185 : decode cL_law 2185 = .ok (.iconst 1, 1) := by decide +kernel
theorem dL_law_2186 : decode cL_law 2186 = .ok (.iadd, 1) := by decide +kernel
theorem dL_law_2187 : decode cL_law 2187 = .ok (.iaload, 1) := by decide +kernel
theorem dL_law_2188 : decode cL_law 2188 = .ok (.aload_n 0, 1) := by decide +kernel
theorem dL_law_2189 : decode cL_law 2189 = .ok (.iload_n 3, 1) := by decide +kernel
theorem dL_law_2190 : decode cL_law 2190 = .ok (.iconst 2, 1) := by decide +kernel
theorem dL_law_2191 : decode cL_law 2191 = .ok (.iadd, 1) := by decide +kernel
theorem dL_law_2192 : decode cL_law 2192 = .ok (.iaload, 1) := by decide +kernel
theorem dL_law_2193 : decode cL_law 2193 = .ok (.invokevirtual 244, 3) := by decide +kernel
theorem dL_law_2196 : decode cL_law 2196 = .ok (.aload_n 2, 1) := by decide +kernel
theorem dL_law_2197 : decode cL_law 2197 = .ok (.aload_n 0, 1) := by decide +kernel
theorem dL_law_2198 : decode cL_law 2198 = .ok (.iload_n 3, 1) := by decide +kernel
theorem dL_law_2199 : decode cL_law 2199 = .ok (.iconst 1, 1) := by decide +kernel
theorem dL_law_2200 : decode cL_law 2200 = .ok (.iadd, 1) := by decide +kernel
theorem dL_law_2201 : decode cL_law 2201 = .ok (.iaload, 1) := by decide +kernel
theorem dL_law_2202 : decode cL_law 2202 = .ok (.aload_n 0, 1) := by decide +kernel
theorem dL_law_2203 : decode cL_law 2203 = .ok (.iload_n 3, 1) := by decide +kernel
theorem dL_law_2204 : decode cL_law 2204 = .ok (.iconst 2, 1) := by decide +kernel
theorem dL_law_2205 : decode cL_law 2205 = .ok (.iadd, 1) := by decide +kernel
theorem dL_law_2206 : decode cL_law 2206 = .ok (.iaload, 1) := by decide +kernel
theorem dL_law_2207 : decode cL_law 2207 = .ok (.invokevirtual 247, 3) := by decide +kernel
theorem dL_law_2210 : decode cL_law 2210 = .ok (.if_icmp .eq 253, 3) := by decide +kernel
theorem dL_law_2215 : decode cL_law 2215 = .ok (.aload_n 1, 1) := by decide +kernel
theorem dL_law_2216 : decode cL_law 2216 = .ok (.aload_n 0, 1) := by decide +kernel
theorem dL_law_2217 : decode cL_law 2217 = .ok (.iload_n 3, 1) := by decide +kernel
theorem dL_law_2218 : decode cL_law 2218 = .ok (.iconst 1, 1) := by decide +kernel
theorem dL_law_2219 : decode cL_law 2219 = .ok (.iadd, 1) := by decide +kernel
theorem dL_law_2220 : decode cL_law 2220 = .ok (.iaload, 1) := by decide +kernel
theorem dL_law_2221 : decode cL_law 2221 = .ok (.invokevirtual 248, 3) := by decide +kernel
theorem dL_law_2224 : decode cL_law 2224 = .ok (.aload_n 2, 1) := by decide +kernel
theorem dL_law_2225 : decode cL_law 2225 = .ok (.aload_n 0, 1) := by decide +kernel
theorem dL_law_2226 : decode cL_law 2226 = .ok (.iload_n 3, 1) := by decide +kernel
theorem dL_law_2227 : decode cL_law 2227 = .ok (.iconst 1, 1) := by decide +kernel
theorem dL_law_2228 : decode cL_law 2228 = .ok (.iadd, 1) := by decide +kernel
theorem dL_law_2229 : decode cL_law 2229 = .ok (.iaload, 1) := by decide +kernel
theorem dL_law_2230 : decode cL_law 2230 = .ok (.invokevirtual 251, 3) := by decide +kernel
theorem dL_law_2233 : decode cL_law 2233 = .ok (.if_icmp .eq 230, 3) := by decide +kernel
theorem dL_law_2238 : decode cL_law 2238 = .ok (.aload_n 1, 1) := by decide +kernel
theorem dL_law_2239 : decode cL_law 2239 = .ok (.aload_n 0, 1) := by decide +kernel
theorem dL_law_2240 : decode cL_law 2240 = .ok (.iload_n 3, 1) := by decide +kernel
theorem dL_law_2241 : decode cL_law 2241 = .ok (.iconst 1, 1) := by decide +kernel
theorem dL_law_2242 : decode cL_law 2242 = .ok (.iadd, 1) := by decide +kernel
theorem dL_law_2243 : decode cL_law 2243 = .ok (.iaload, 1) := by decide +kernel
theorem dL_law_2244 : decode cL_law 2244 = .ok (.invokevirtual 252, 3) := by decide +kernel
theorem dL_law_2247 : decode cL_law 2247 = .ok (.aload_n 2, 1) := by decide +kernel
theorem dL_law_2248 : decode cL_law 2248 = .ok (.aload_n 0, 1) := by decide +kernel
theorem dL_law_2249 : decode cL_law 2249 = .ok (.iload_n 3, 1) := by decide +kernel
theorem dL_law_2250 : decode cL_law 2250 = .ok (.iconst 1, 1) := by decide +kernel
theorem dL_law_2251 : decode cL_law 2251 = .ok (.iadd, 1) := by decide +kernel
theorem dL_law_2252 : decode cL_law 2252 = .ok (.iaload, 1) := by decide +kernel
theorem dL_law_2253 : decode cL_law 2253 = .ok (.invokevirtual 255, 3) := by decide +kernel
theorem dL_law_2256 : decode cL_law 2256 = .ok (.if_icmp .eq 207, 3) := by decide +kernel
theorem dL_law_2261 : decode cL_law 2261 = .ok (.aload_n 1, 1) := by decide +kernel
theorem dL_law_2262 : decode cL_law 2262 = .ok (.aload_n 0, 1) := by decide +kernel
theorem dL_law_2263 : decode cL_law 2263 = .ok (.iload_n 3, 1) := by decide +kernel
theorem dL_law_2264 : decode cL_law 2264 = .ok (.iconst 1, 1) := by decide +kernel
theorem dL_law_2265 : decode cL_law 2265 = .ok (.iadd, 1) := by decide +kernel
theorem dL_law_2266 : decode cL_law 2266 = .ok (.iaload, 1) := by decide +kernel
theorem dL_law_2267 : decode cL_law 2267 = .ok (.invokevirtual 256, 3) := by decide +kernel
theorem dL_law_2270 : decode cL_law 2270 = .ok (.aload_n 2, 1) := by decide +kernel
theorem dL_law_2271 : decode cL_law 2271 = .ok (.aload_n 0, 1) := by decide +kernel
theorem dL_law_2272 : decode cL_law 2272 = .ok (.iload_n 3, 1) := by decide +kernel
theorem dL_law_2273 : decode cL_law 2273 = .ok (.iconst 1, 1) := by decide +kernel
theorem dL_law_2274 : decode cL_law 2274 = .ok (.iadd, 1) := by decide +kernel
theorem dL_law_2275 : decode cL_law 2275 = .ok (.iaload, 1) := by decide +kernel
theorem dL_law_2276 : decode cL_law 2276 = .ok (.invokevirtual 259, 3) := by decide +kernel
theorem dL_law_2279 : decode cL_law 2279 = .ok (.if_icmp .eq 184, 3) := by decide +kernel
theorem dL_law_2284 : decode cL_law 2284 = .ok (.aload_n 1, 1) := by decide +kernel
theorem dL_law_2285 : decode cL_law 2285 = .ok (.aload_n 0, 1) := by decide +kernel
theorem dL_law_2286 : decode cL_law 2286 = .ok (.iload_n 3, 1) := by decide +kernel
theorem dL_law_2287 : decode cL_law 2287 = .ok (.iconst 1, 1) := by decide +kernel
theorem dL_law_2288 : decode cL_law 2288 = .ok (.iadd, 1) := by decide +kernel
theorem dL_law_2289 : decode cL_law 2289 = .ok (.iaload, 1) := by decide +kernel
theorem dL_law_2290 : decode cL_law 2290 = .ok (.aload_n 0, 1) := by decide +kernel
theorem dL_law_2291 : decode cL_law 2291 = .ok (.iload_n 3, 1) := by decide +kernel
theorem dL_law_2292 : decode cL_law 2292 = .ok (.iconst 2, 1) := by decide +kernel
theorem dL_law_2293 : decode cL_law 2293 = .ok (.iadd, 1) := by decide +kernel
theorem dL_law_2294 : decode cL_law 2294 = .ok (.iaload, 1) := by decide +kernel
theorem dL_law_2295 : decode cL_law 2295 = .ok (.aload_n 0, 1) := by decide +kernel
theorem dL_law_2296 : decode cL_law 2296 = .ok (.iload_n 3, 1) := by decide +kernel
theorem dL_law_2297 : decode cL_law 2297 = .ok (.iconst 3, 1) := by decide +kernel
theorem dL_law_2298 : decode cL_law 2298 = .ok (.iadd, 1) := by decide +kernel
theorem dL_law_2299 : decode cL_law 2299 = .ok (.iaload, 1) := by decide +kernel
theorem dL_law_2300 : decode cL_law 2300 = .ok (.invokevirtual 260, 3) := by decide +kernel
theorem dL_law_2303 : decode cL_law 2303 = .ok (.aload_n 2, 1) := by decide +kernel
theorem dL_law_2304 : decode cL_law 2304 = .ok (.aload_n 0, 1) := by decide +kernel
theorem dL_law_2305 : decode cL_law 2305 = .ok (.iload_n 3, 1) := by decide +kernel
theorem dL_law_2306 : decode cL_law 2306 = .ok (.iconst 1, 1) := by decide +kernel
theorem dL_law_2307 : decode cL_law 2307 = .ok (.iadd, 1) := by decide +kernel
theorem dL_law_2308 : decode cL_law 2308 = .ok (.iaload, 1) := by decide +kernel
theorem dL_law_2309 : decode cL_law 2309 = .ok (.aload_n 0, 1) := by decide +kernel
theorem dL_law_2310 : decode cL_law 2310 = .ok (.iload_n 3, 1) := by decide +kernel
theorem dL_law_2311 : decode cL_law 2311 = .ok (.iconst 2, 1) := by decide +kernel
theorem dL_law_2312 : decode cL_law 2312 = .ok (.iadd, 1) := by decide +kernel
theorem dL_law_2313 : decode cL_law 2313 = .ok (.iaload, 1) := by decide +kernel
theorem dL_law_2314 : decode cL_law 2314 = .ok (.aload_n 0, 1) := by decide +kernel
theorem dL_law_2315 : decode cL_law 2315 = .ok (.iload_n 3, 1) := by decide +kernel
theorem dL_law_2316 : decode cL_law 2316 = .ok (.iconst 3, 1) := by decide +kernel
theorem dL_law_2317 : decode cL_law 2317 = .ok (.iadd, 1) := by decide +kernel
theorem dL_law_2318 : decode cL_law 2318 = .ok (.iaload, 1) := by decide +kernel
theorem dL_law_2319 : decode cL_law 2319 = .ok (.invokevirtual 263, 3) := by decide +kernel
theorem dL_law_2322 : decode cL_law 2322 = .ok (.if_icmp .eq 141, 3) := by decide +kernel
theorem dL_law_2327 : decode cL_law 2327 = .ok (.aload_n 1, 1) := by decide +kernel
theorem dL_law_2328 : decode cL_law 2328 = .ok (.aload_n 0, 1) := by decide +kernel
theorem dL_law_2329 : decode cL_law 2329 = .ok (.iload_n 3, 1) := by decide +kernel
theorem dL_law_2330 : decode cL_law 2330 = .ok (.iconst 1, 1) := by decide +kernel
theorem dL_law_2331 : decode cL_law 2331 = .ok (.iadd, 1) := by decide +kernel
theorem dL_law_2332 : decode cL_law 2332 = .ok (.iaload, 1) := by decide +kernel
theorem dL_law_2333 : decode cL_law 2333 = .ok (.aload_n 0, 1) := by decide +kernel
theorem dL_law_2334 : decode cL_law 2334 = .ok (.iload_n 3, 1) := by decide +kernel
theorem dL_law_2335 : decode cL_law 2335 = .ok (.iconst 2, 1) := by decide +kernel
theorem dL_law_2336 : decode cL_law 2336 = .ok (.iadd, 1) := by decide +kernel
theorem dL_law_2337 : decode cL_law 2337 = .ok (.iaload, 1) := by decide +kernel
theorem dL_law_2338 : decode cL_law 2338 = .ok (.aload_n 0, 1) := by decide +kernel
theorem dL_law_2339 : decode cL_law 2339 = .ok (.iload_n 3, 1) := by decide +kernel
theorem dL_law_2340 : decode cL_law 2340 = .ok (.iconst 3, 1) := by decide +kernel
theorem dL_law_2341 : decode cL_law 2341 = .ok (.iadd, 1) := by decide +kernel
theorem dL_law_2342 : decode cL_law 2342 = .ok (.iaload, 1) := by decide +kernel
theorem dL_law_2343 : decode cL_law 2343 = .ok (.i2l, 1) := by decide +kernel
theorem dL_law_2344 : decode cL_law 2344 = .ok (.bipush 32, 2) := by decide +kernel
theorem dL_law_2346 : decode cL_law 2346 = .ok (.lshl, 1) := by decide +kernel
theorem dL_law_2347 : decode cL_law 2347 = .ok (.aload_n 0, 1) := by decide +kernel
theorem dL_law_2348 : decode cL_law 2348 = .ok (.iload_n 3, 1) := by decide +kernel
theorem dL_law_2349 : decode cL_law 2349 = .ok (.iconst 4, 1) := by decide +kernel
theorem dL_law_2350 : decode cL_law 2350 = .ok (.iadd, 1) := by decide +kernel
theorem dL_law_2351 : decode cL_law 2351 = .ok (.iaload, 1) := by decide +kernel
theorem dL_law_2352 : decode cL_law 2352 = .ok (.i2l, 1) := by decide +kernel
theorem dL_law_2353 : decode cL_law 2353 = .ok (.ldc2_w 264, 3) := by decide +kernel
theorem dL_law_2356 : decode cL_law 2356 = .ok (.land, 1) := by decide +kernel
theorem dL_law_2357 : decode cL_law 2357 = .ok (.lor, 1) := by decide +kernel
theorem dL_law_2358 : decode cL_law 2358 = .ok (.invokevirtual 266, 3) := by decide +kernel
theorem dL_law_2361 : decode cL_law 2361 = .ok (.aload_n 2, 1) := by decide +kernel
theorem dL_law_2362 : decode cL_law 2362 = .ok (.aload_n 0, 1) := by decide +kernel
theorem dL_law_2363 : decode cL_law 2363 = .ok (.iload_n 3, 1) := by decide +kernel
theorem dL_law_2364 : decode cL_law 2364 = .ok (.iconst 1, 1) := by decide +kernel
theorem dL_law_2365 : decode cL_law 2365 = .ok (.iadd, 1) := by decide +kernel
theorem dL_law_2366 : decode cL_law 2366 = .ok (.iaload, 1) := by decide +kernel
theorem dL_law_2367 : decode cL_law 2367 = .ok (.aload_n 0, 1) := by decide +kernel
theorem dL_law_2368 : decode cL_law 2368 = .ok (.iload_n 3, 1) := by decide +kernel
theorem dL_law_2369 : decode cL_law 2369 = .ok (.iconst 2, 1) := by decide +kernel
theorem dL_law_2370 : decode cL_law 2370 = .ok (.iadd, 1) := by decide +kernel
theorem dL_law_2371 : decode cL_law 2371 = .ok (.iaload, 1) := by decide +kernel
theorem dL_law_2372 : decode cL_law 2372 = .ok (.aload_n 0, 1) := by decide +kernel
theorem dL_law_2373 : decode cL_law 2373 = .ok (.iload_n 3, 1) := by decide +kernel
theorem dL_law_2374 : decode cL_law 2374 = .ok (.iconst 3, 1) := by decide +kernel
theorem dL_law_2375 : decode cL_law 2375 = .ok (.iadd, 1) := by decide +kernel
theorem dL_law_2376 : decode cL_law 2376 = .ok (.iaload, 1) := by decide +kernel
theorem dL_law_2377 : decode cL_law 2377 = .ok (.i2l, 1) := by decide +kernel
theorem dL_law_2378 : decode cL_law 2378 = .ok (.bipush 32, 2) := by decide +kernel
theorem dL_law_2380 : decode cL_law 2380 = .ok (.lshl, 1) := by decide +kernel
theorem dL_law_2381 : decode cL_law 2381 = .ok (.aload_n 0, 1) := by decide +kernel
theorem dL_law_2382 : decode cL_law 2382 = .ok (.iload_n 3, 1) := by decide +kernel
theorem dL_law_2383 : decode cL_law 2383 = .ok (.iconst 4, 1) := by decide +kernel
theorem dL_law_2384 : decode cL_law 2384 = .ok (.iadd, 1) := by decide +kernel
theorem dL_law_2385 : decode cL_law 2385 = .ok (.iaload, 1) := by decide +kernel
theorem dL_law_2386 : decode cL_law 2386 = .ok (.i2l, 1) := by decide +kernel
theorem dL_law_2387 : decode cL_law 2387 = .ok (.ldc2_w 264, 3) := by decide +kernel
theorem dL_law_2390 : decode cL_law 2390 = .ok (.land, 1) := by decide +kernel
theorem dL_law_2391 : decode cL_law 2391 = .ok (.lor, 1) := by decide +kernel
theorem dL_law_2392 : decode cL_law 2392 = .ok (.invokevirtual 270, 3) := by decide +kernel
theorem dL_law_2395 : decode cL_law 2395 = .ok (.if_icmp .eq 68, 3) := by decide +kernel
theorem dL_law_2400 : decode cL_law 2400 = .ok (.aload_n 1, 1) := by decide +kernel
theorem dL_law_2401 : decode cL_law 2401 = .ok (.aload_n 0, 1) := by decide +kernel
theorem dL_law_2402 : decode cL_law 2402 = .ok (.iload_n 3, 1) := by decide +kernel
theorem dL_law_2403 : decode cL_law 2403 = .ok (.iconst 1, 1) := by decide +kernel
theorem dL_law_2404 : decode cL_law 2404 = .ok (.iadd, 1) := by decide +kernel
theorem dL_law_2405 : decode cL_law 2405 = .ok (.iaload, 1) := by decide +kernel
theorem dL_law_2406 : decode cL_law 2406 = .ok (.aload_n 0, 1) := by decide +kernel
theorem dL_law_2407 : decode cL_law 2407 = .ok (.iload_n 3, 1) := by decide +kernel
theorem dL_law_2408 : decode cL_law 2408 = .ok (.iconst 2, 1) := by decide +kernel
theorem dL_law_2409 : decode cL_law 2409 = .ok (.iadd, 1) := by decide +kernel
theorem dL_law_2410 : decode cL_law 2410 = .ok (.iaload, 1) := by decide +kernel
theorem dL_law_2411 : decode cL_law 2411 = .ok (.aload_n 0, 1) := by decide +kernel
theorem dL_law_2412 : decode cL_law 2412 = .ok (.iload_n 3, 1) := by decide +kernel
theorem dL_law_2413 : decode cL_law 2413 = .ok (.iconst 3, 1) := by decide +kernel
theorem dL_law_2414 : decode cL_law 2414 = .ok (.iadd, 1) := by decide +kernel
theorem dL_law_2415 : decode cL_law 2415 = .ok (.iaload, 1) := by decide +kernel
theorem dL_law_2416 : decode cL_law 2416 = .ok (.aload_n 0, 1) := by decide +kernel
theorem dL_law_2417 : decode cL_law 2417 = .ok (.iload_n 3, 1) := by decide +kernel
theorem dL_law_2418 : decode cL_law 2418 = .ok (.iconst 4, 1) := by decide +kernel
theorem dL_law_2419 : decode cL_law 2419 = .ok (.iadd, 1) := by decide +kernel
theorem dL_law_2420 : decode cL_law 2420 = .ok (.iaload, 1) := by decide +kernel
theorem dL_law_2421 : decode cL_law 2421 = .ok (.aload_n 0, 1) := by decide +kernel
theorem dL_law_2422 : decode cL_law 2422 = .ok (.iload_n 3, 1) := by decide +kernel
theorem dL_law_2423 : decode cL_law 2423 = .ok (.iconst 5, 1) := by decide +kernel
theorem dL_law_2424 : decode cL_law 2424 = .ok (.iadd, 1) := by decide +kernel
theorem dL_law_2425 : decode cL_law 2425 = .ok (.iaload, 1) := by decide +kernel
theorem dL_law_2426 : decode cL_law 2426 = .ok (.invokevirtual 271, 3) := by decide +kernel
theorem dL_law_2429 : decode cL_law 2429 = .ok (.aload_n 2, 1) := by decide +kernel
theorem dL_law_2430 : decode cL_law 2430 = .ok (.aload_n 0, 1) := by decide +kernel
theorem dL_law_2431 : decode cL_law 2431 = .ok (.iload_n 3, 1) := by decide +kernel
theorem dL_law_2432 : decode cL_law 2432 = .ok (.iconst 1, 1) := by decide +kernel
theorem dL_law_2433 : decode cL_law 2433 = .ok (.iadd, 1) := by decide +kernel
theorem dL_law_2434 : decode cL_law 2434 = .ok (.iaload, 1) := by decide +kernel
theorem dL_law_2435 : decode cL_law 2435 = .ok (.aload_n 0, 1) := by decide +kernel
theorem dL_law_2436 : decode cL_law 2436 = .ok (.iload_n 3, 1) := by decide +kernel
theorem dL_law_2437 : decode cL_law 2437 = .ok (.iconst 2, 1) := by decide +kernel
theorem dL_law_2438 : decode cL_law 2438 = .ok (.iadd, 1) := by decide +kernel
theorem dL_law_2439 : decode cL_law 2439 = .ok (.iaload, 1) := by decide +kernel
theorem dL_law_2440 : decode cL_law 2440 = .ok (.aload_n 0, 1) := by decide +kernel
theorem dL_law_2441 : decode cL_law 2441 = .ok (.iload_n 3, 1) := by decide +kernel
theorem dL_law_2442 : decode cL_law 2442 = .ok (.iconst 3, 1) := by decide +kernel
theorem dL_law_2443 : decode cL_law 2443 = .ok (.iadd, 1) := by decide +kernel
theorem dL_law_2444 : decode cL_law 2444 = .ok (.iaload, 1) := by decide +kernel
theorem dL_law_2445 : decode cL_law 2445 = .ok (.aload_n 0, 1) := by decide +kernel
theorem dL_law_2446 : decode cL_law 2446 = .ok (.iload_n 3, 1) := by decide +kernel
theorem dL_law_2447 : decode cL_law 2447 = .ok (.iconst 4, 1) := by decide +kernel
theorem dL_law_2448 : decode cL_law 2448 = .ok (.iadd, 1) := by decide +kernel
theorem dL_law_2449 : decode cL_law 2449 = .ok (.iaload, 1) := by decide +kernel
theorem dL_law_2450 : decode cL_law 2450 = .ok (.aload_n 0, 1) := by decide +kernel
theorem dL_law_2451 : decode cL_law 2451 = .ok (.iload_n 3, 1) := by decide +kernel
theorem dL_law_2452 : decode cL_law 2452 = .ok (.iconst 5, 1) := by decide +kernel
theorem dL_law_2453 : decode cL_law 2453 = .ok (.iadd, 1) := by decide +kernel
theorem dL_law_2454 : decode cL_law 2454 = .ok (.iaload, 1) := by decide +kernel
theorem dL_law_2455 : decode cL_law 2455 = .ok (.invokevirtual 274, 3) := by decide +kernel
theorem dL_law_2458 : decode cL_law 2458 = .ok (.if_icmp .eq 5, 3) := by decide +kernel
