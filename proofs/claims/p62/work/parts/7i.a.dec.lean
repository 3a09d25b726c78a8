theorem dL_law_2006 : decode cL_law 2006 = .ok (.aload_n 1, 1) := by decide +kernel
theorem dL_law_2007 : decode cL_law 2007 = .ok (.aload_n 0, 1) := by decide +kernel
theorem dL_law_2008 : decode cL_law 2008 = .ok (.iload_n 3, 1) := by decide +kernel
theorem dL_law_2009 : decode cL_law 2009 = .ok (.iconst 1, 1) := by decide +kernel
theorem dL_law_2010 : decode cL_law 2010 = .ok (.iadd, 1) := by decide +kernel
theorem dL_law_2011 : decode cL_law 2011 = .ok (.iaload, 1) := by decide +kernel
theorem dL_law_2012 : decode cL_law 2012 = .ok (.aload_n 0, 1) := by decide +kernel
theorem dL_law_2013 : decode cL_law 2013 = .ok (.iload_n 3, 1) := by decide +kernel
theorem dL_law_2014 : decode cL_law 2014 = .ok (.iconst 2, 1) := by decide +kernel
theorem dL_law_2015 : decode cL_law 2015 = .ok (.iadd, 1) := by decide +kernel
theorem dL_law_2016 : decode cL_law 2016 = .ok (.iaload, 1) := by decide +kernel
theorem dL_law_2017 : decode cL_law 2017 = .ok (.aload_n 0, 1) := by decide +kernel
theorem dL_law_2018 : decode cL_law 2018 = .ok (.iload_n 3, 1) := by decide +kernel
theorem dL_law_2019 : decode cL_law 2019 = .ok (.iconst 3, 1) := by decide +kernel
theorem dL_law_2020 : decode cL_law 2020 = .ok (.iadd, 1) := by decide +kernel
theorem dL_law_2021 : decode cL_law 2021 = .ok (.iaload, 1) := by decide +kernel
theorem dL_law_2022 : decode cL_law 2022 = .ok (.invokevirtual 228, 3) := by decide +kernel
theorem dL_law_2025 : decode cL_law 2025 = .ok (.pop, 1) := by decide +kernel
theorem dL_law_2026 : decode cL_law 2026 = .ok (.aload_n 2, 1) := by decide +kernel
theorem dL_law_2027 : decode cL_law 2027 = .ok (.aload_n 0, 1) := by decide +kernel
theorem dL_law_2028 : decode cL_law 2028 = .ok (.iload_n 3, 1) := by decide +kernel
theorem dL_law_2029 : decode cL_law 2029 = .ok (.iconst 1, 1) := by decide +kernel
theorem dL_law_2030 : decode cL_law 2030 = .ok (.iadd, 1) := by decide +kernel
theorem dL_law_2031 : decode cL_law 2031 = .ok (.iaload, 1) := by decide +kernel
theorem dL_law_2032 : decode cL_law 2032 = .ok (.aload_n 0, 1) := by decide +kernel
theorem dL_law_2033 : decode cL_law 2033 = .ok (.iload_n 3, 1) := by decide +kernel
theorem dL_law_2034 : decode cL_law 2034 = .ok (.iconst 2, 1) := by decide +kernel
theorem dL_law_2035 : decode cL_law 2035 = .ok (.iadd, 1) := by decide +kernel
theorem dL_law_2036 : decode cL_law 2036 = .ok (.iaload, 1) := by decide +kernel
theorem dL_law_2037 : decode cL_law 2037 = .ok (.aload_n 0, 1) := by decide +kernel
theorem dL_law_2038 : decode cL_law 2038 = .ok (.iload_n 3, 1) := by decide +kernel
theorem dL_law_2039 : decode cL_law 2039 = .ok (.iconst 3, 1) := by decide +kernel
theorem dL_law_2040 : decode cL_law 2040 = .ok (.iadd, 1) := by decide +kernel
theorem dL_law_2041 : decode cL_law 2041 = .ok (.iaload, 1) := by decide +kernel
theorem dL_law_2042 : decode cL_law 2042 = .ok (.invokevirtual 231, 3) := by decide +kernel
theorem dL_law_2045 : decode cL_law 2045 = .ok (.pop, 1) := by decide +kernel
theorem dL_law_2046 : decode cL_law 2046 = .ok (.goto 413, 3) := by decide +kernel
theorem dL_law_2049 : decode cL_law 2049 = .ok (.aload_n 1, 1) := by decide +kernel
theorem dL_law_2050 : decode cL_law 2050 = .ok (.aload_n 0, 1) := by decide +kernel
theorem dL_law_2051 : decode cL_law 2051 = .ok (.iload_n 3, 1) := by decide +kernel
theorem dL_law_2052 : decode cL_law 2052 = .ok (.iconst 1, 1) := by decide +kernel
theorem dL_law_2053 : decode cL_law 2053 = .ok (.iadd, 1) := by decide +kernel
theorem dL_law_2054 : decode cL_law 2054 = .ok (.iaload, 1) := by decide +kernel
theorem dL_law_2055 : decode cL_law 2055 = .ok (.aload_n 0, 1) := by decide +kernel
theorem dL_law_2056 : decode cL_law 2056 = .ok (.iload_n 3, 1) := by decide +kernel
theorem dL_law_2057 : decode cL_law 2057 = .ok (.iconst 2, 1) := by decide +kernel
theorem dL_law_2058 : decode cL_law 2058 = .ok (.iadd, 1) := by decide +kernel
theorem dL_law_2059 : decode cL_law 2059 = .ok (.iaload, 1) := by decide +kernel
theorem dL_law_2060 : decode cL_law 2060 = .ok (.aload_n 0, 1) := by decide +kernel
theorem dL_law_2061 : decode cL_law 2061 = .ok (.iload_n 3, 1) := by decide +kernel
theorem dL_law_2062 : decode cL_law 2062 = .ok (.iconst 3, 1) := by decide +kernel
theorem dL_law_2063 : decode cL_law 2063 = .ok (.iadd, 1) := by decide +kernel
theorem dL_law_2064 : decode cL_law 2064 = .ok (.iaload, 1) := by decide +kernel
theorem dL_law_2065 : decode cL_law 2065 = .ok (.invokevirtual 232, 3) := by decide +kernel
theorem dL_law_2068 : decode cL_law 2068 = .ok (.pop, 1) := by decide +kernel
theorem dL_law_2069 : decode cL_law 2069 = .ok (.aload_n 2, 1) := by decide +kernel
theorem dL_law_2070 : decode cL_law 2070 = .ok (.aload_n 0, 1) := by decide +kernel
theorem dL_law_2071 : decode cL_law 2071 = .ok (.iload_n 3, 1) := by decide +kernel
theorem dL_law_2072 : decode cL_law 2072 = .ok (.iconst 1, 1) := by decide +kernel
theorem dL_law_2073 : decode cL_law 2073 = .ok (.iadd, 1) := by decide +kernel
theorem dL_law_2074 : decode cL_law 2074 = .ok (.iaload, 1) := by decide +kernel
theorem dL_law_2075 : decode cL_law 2075 = .ok (.aload_n 0, 1) := by decide +kernel
theorem dL_law_2076 : decode cL_law 2076 = .ok (.iload_n 3, 1) := by decide +kernel
theorem dL_law_2077 : decode cL_law 2077 = .ok (.iconst 2, 1) := by decide +kernel
theorem dL_law_2078 : decode cL_law 2078 = .ok (.iadd, 1) := by decide +kernel
theorem dL_law_2079 : decode cL_law 2079 = .ok (.iaload, 1) := by decide +kernel
theorem dL_law_2080 : decode cL_law 2080 = .ok (.aload_n 0, 1) := by decide +kernel
theorem dL_law_2081 : decode cL_law 2081 = .ok (.iload_n 3, 1) := by decide +kernel
theorem dL_law_2082 : decode cL_law 2082 = .ok (.iconst 3, 1) := by decide +kernel
theorem dL_law_2083 : decode cL_law 2083 = .ok (.iadd, 1) := by decide +kernel
theorem dL_law_2084 : decode cL_law 2084 = .ok (.iaload, 1) := by decide +kernel
theorem dL_law_2085 : decode cL_law 2085 = .ok (.invokevirtual 235, 3) := by decide +kernel
theorem dL_law_2088 : decode cL_law 2088 = .ok (.pop, 1) := by decide +kernel
theorem dL_law_2089 : decode cL_law 2089 = .ok (.goto 370, 3) := by decide +kernel
theorem dL_law_2092 : decode cL_law 2092 = .ok (.aload_n 1, 1) := by decide +kernel
theorem dL_law_2093 : decode cL_law 2093 = .ok (.aload_n 0, 1) := by decide +kernel
theorem dL_law_2094 : decode cL_law 2094 = .ok (.iload_n 3, 1) := by decide +kernel
theorem dL_law_2095 : decode cL_law 2095 = .ok (.iconst 1, 1) := by decide +kernel
theorem dL_law_2096 : decode cL_law 2096 = .ok (.iadd, 1) := by decide +kernel
theorem dL_law_2097 : decode cL_law 2097 = .ok (.iaload, 1) := by decide +kernel
theorem dL_law_2098 : decode cL_law 2098 = .ok (.aload_n 0, 1) := by decide +kernel
theorem dL_law_2099 : decode cL_law 2099 = .ok (.iload_n 3, 1) := by decide +kernel
theorem dL_law_2100 : decode cL_law 2100 = .ok (.iconst 2, 1) := by decide +kernel
theorem dL_law_2101 : decode cL_law 2101 = .ok (.iadd, 1) := by decide +kernel
theorem dL_law_2102 : decode cL_law 2102 = .ok (.iaload, 1) := by decide +kernel
theorem dL_law_2103 : decode cL_law 2103 = .ok (.invokevirtual 236, 3) := by decide +kernel
theorem dL_law_2106 : decode cL_law 2106 = .ok (.pop, 1) := by decide +kernel
theorem dL_law_2107 : decode cL_law 2107 = .ok (.aload_n 2, 1) := by decide +kernel
theorem dL_law_2108 : decode cL_law 2108 = .ok (.aload_n 0, 1) := by decide +kernel
theorem dL_law_2109 : decode cL_law 2109 = .ok (.iload_n 3, 1) := by decide +kernel
theorem dL_law_2110 : decode cL_law 2110 = .ok (.iconst 1, 1) := by decide +kernel
theorem dL_law_2111 : decode cL_law 2111 = .ok (.iadd, 1) := by decide +kernel
theorem dL_law_2112 : decode cL_law 2112 = .ok (.iaload, 1) := by decide +kernel
theorem dL_law_2113 : decode cL_law 2113 = .ok (.aload_n 0, 1) := by decide +kernel
theorem dL_law_2114 : decode cL_law 2114 = .ok (.iload_n 3, 1) := by decide +kernel
theorem dL_law_2115 : decode cL_law 2115 = .ok (.iconst 2, 1) := by decide +kernel
theorem dL_law_2116 : decode cL_law 2116 = .ok (.iadd, 1) := by decide +kernel
theorem dL_law_2117 : decode cL_law 2117 = .ok (.iaload, 1) := by decide +kernel
theorem dL_law_2118 : decode cL_law 2118 = .ok (.invokevirtual 239, 3) := by decide +kernel
theorem dL_law_2121 : decode cL_law 2121 = .ok (.pop, 1) := by decide +kernel
theorem dL_law_2122 : decode cL_law 2122 = .ok (.goto 337, 3) := by decide +kernel
theorem dL_law_2125 : decode cL_law 2125 = .ok (.aload_n 1, 1) := by decide +kernel
theorem dL_law_2126 : decode cL_law 2126 = .ok (.aload_n 0, 1) := by decide +kernel
theorem dL_law_2127 : decode cL_law 2127 = .ok (.iload_n 3, 1) := by decide +kernel
theorem dL_law_2128 : decode cL_law 2128 = .ok (.iconst 1, 1) := by decide +kernel
theorem dL_law_2129 : decode cL_law 2129 = .ok (.iadd, 1) := by decide +kernel
theorem dL_law_2130 : decode cL_law 2130 = .ok (.iaload, 1) := by decide +kernel
theorem dL_law_2131 : decode cL_law 2131 = .ok (.aload_n 0, 1) := by decide +kernel
theorem dL_law_2132 : decode cL_law 2132 = .ok (.iload_n 3, 1) := by decide +kernel
theorem dL_law_2133 : decode cL_law 2133 = .ok (.iconst 2, 1) := by decide +kernel
theorem dL_law_2134 : decode cL_law 2134 = .ok (.iadd, 1) := by decide +kernel
theorem dL_law_2135 : decode cL_law 2135 = .ok (.iaload, 1) := by decide +kernel
theorem dL_law_2136 : decode cL_law 2136 = .ok (.aload_n 0, 1) := by decide +kernel
theorem dL_law_2137 : decode cL_law 2137 = .ok (.iload_n 3, 1) := by decide +kernel
theorem dL_law_2138 : decode cL_law 2138 = .ok (.iconst 3, 1) := by decide +kernel
theorem dL_law_2139 : decode cL_law 2139 = .ok (.iadd, 1) := by decide +kernel
theorem dL_law_2140 : decode cL_law 2140 = .ok (.iaload, 1) := by decide +kernel
theorem dL_law_2141 : decode cL_law 2141 = .ok (.aload_n 0, 1) := by decide +kernel
theorem dL_law_2142 : decode cL_law 2142 = .ok (.iload_n 3, 1) := by decide +kernel
theorem dL_law_2143 : decode cL_law 2143 = .ok (.iconst 4, 1) := by decide +kernel
theorem dL_law_2144 : decode cL_law 2144 = .ok (.iadd, 1) := by decide +kernel
theorem dL_law_2145 : decode cL_law 2145 = .ok (.iaload, 1) := by decide +kernel
theorem dL_law_2146 : decode cL_law 2146 = .ok (.invokevirtual 240, 3) := by decide +kernel
theorem dL_law_2149 : decode cL_law 2149 = .ok (.pop, 1) := by decide +kernel
theorem dL_law_2150 : decode cL_law 2150 = .ok (.aload_n 2, 1) := by decide +kernel
theorem dL_law_2151 : decode cL_law 2151 = .ok (.aload_n 0, 1) := by decide +kernel
theorem dL_law_2152 : decode cL_law 2152 = .ok (.iload_n 3, 1) := by decide +kernel
theorem dL_law_2153 : decode cL_law 2153 = .ok (.iconst 1, 1) := by decide +kernel
theorem dL_law_2154 : decode cL_law 2154 = .ok (.iadd, 1) := by decide +kernel
theorem dL_law_2155 : decode cL_law 2155 = .ok (.iaload, 1) := by decide +kernel
theorem dL_law_2156 : decode cL_law 2156 = .ok (.aload_n 0, 1) := by decide +kernel
theorem dL_law_2157 : decode cL_law 2157 = .ok (.iload_n 3, 1) := by decide +kernel
theorem dL_law_2158 : decode cL_law 2158 = .ok (.iconst 2, 1) := by decide +kernel
theorem dL_law_2159 : decode cL_law 2159 = .ok (.iadd, 1) := by decide +kernel
theorem dL_law_2160 : decode cL_law 2160 = .ok (.iaload, 1) := by decide +kernel
theorem dL_law_2161 : decode cL_law 2161 = .ok (.aload_n 0, 1) := by decide +kernel
theorem dL_law_2162 : decode cL_law 2162 = .ok (.iload_n 3, 1) := by decide +kernel
theorem dL_law_2163 : decode cL_law 2163 = .ok (.iconst 3, 1) := by decide +kernel
theorem dL_law_2164 : decode cL_law 2164 = .ok (.iadd, 1) := by decide +kernel
theorem dL_law_2165 : decode cL_law 2165 = .ok (.iaload, 1) := by decide +kernel
theorem dL_law_2166 : decode cL_law 2166 = .ok (.aload_n 0, 1) := by decide +kernel
theorem dL_law_2167 : decode cL_law 2167 = .ok (.iload_n 3, 1) := by decide +kernel
theorem dL_law_2168 : decode cL_law 2168 = .ok (.iconst 4, 1) := by decide +kernel
theorem dL_law_2169 : decode cL_law 2169 = .ok (.iadd, 1) := by decide +kernel
theorem dL_law_2170 : decode cL_law 2170 = .ok (.iaload, 1) := by decide +kernel
theorem dL_law_2171 : decode cL_law 2171 = .ok (.invokevirtual 243, 3) := by decide +kernel
theorem dL_law_2174 : decode cL_law 2174 = .ok (.pop, 1) := by decide +kernel
theorem dL_law_2175 : decode cL_law 2175 = .ok (.goto 284, 3) := by decide +kernel
theorem dL_law_2178 : decode cL_law 2178 = .ok (.aload_n 1, 1) := by decide +kernel
theorem dL_law_2179 : decode cL_law 2179 = .ok (.aload_n 0, 1) := by decide +kernel
theorem dL_law_2180 : decode cL_law 2180 = .ok (.iload_n 3, 1) := by decide +kernel
theorem dL_law_2181 : decode cL_law 2181 = .ok (.iconst 1, 1) := by decide +kernel
theorem dL_law_2182 : decode cL_law 2182 = .ok (.iadd, 1) := by decide +kernel
theorem dL_law_2183 : decode cL_law 2183 = .ok (.iaload, 1) := by decide +kernel
theorem dL_law_2184 : decode cL_law 2184 = .ok (.aload_n 0, 1) := by decide +kernel
theorem dL_law_2185 : decode cL_law 2185 = .ok (.iload_n 3, 1) := by decide +kernel
theorem dL_law_2186 : decode cL_law 2186 = .ok (.iconst 2, 1) := by decide +kernel
theorem dL_law_2187 : decode cL_law 2187 = .ok (.iadd, 1) := by decide +kernel
theorem dL_law_2188 : decode cL_law 2188 = .ok (.iaload, 1) := by decide +kernel
theorem dL_law_2189 : decode cL_law 2189 = .ok (.invokevirtual 244, 3) := by decide +kernel
theorem dL_law_2192 : decode cL_law 2192 = .ok (.pop, 1) := by decide +kernel
theorem dL_law_2193 : decode cL_law 2193 = .ok (.aload_n 2, 1) := by decide +kernel
theorem dL_law_2194 : decode cL_law 2194 = .ok (.aload_n 0, 1) := by decide +kernel
theorem dL_law_2195 : decode cL_law 2195 = .ok (.iload_n 3, 1) := by decide +kernel
theorem dL_law_2196 : decode cL_law 2196 = .ok (.iconst 1, 1) := by decide +kernel
theorem dL_law_2197 : decode cL_law 2197 = .ok (.iadd, 1) := by decide +kernel
theorem dL_law_2198 : decode cL_law 2198 = .ok (.iaload, 1) := by decide +kernel
theorem dL_law_2199 : decode cL_law 2199 = .ok (.aload_n 0, 1) := by decide +kernel
theorem dL_law_2200 : decode cL_law 2200 = .ok (.iload_n 3, 1) := by decide +kernel
theorem dL_law_2201 : decode cL_law 2201 = .ok (.iconst 2, 1) := by decide +kernel
theorem dL_law_2202 : decode cL_law 2202 = .ok (.iadd, 1) := by decide +kernel
theorem dL_law_2203 : decode cL_law 2203 = .ok (.iaload, 1) := by decide +kernel
theorem dL_law_2204 : decode cL_law 2204 = .ok (.invokevirtual 247, 3) := by decide +kernel
theorem dL_law_2207 : decode cL_law 2207 = .ok (.pop, 1) := by decide +kernel
theorem dL_law_2208 : decode cL_law 2208 = .ok (.goto 251, 3) := by decide +kernel
theorem dL_law_2211 : decode cL_law 2211 = .ok (.aload_n 1, 1) := by decide +kernel
theorem dL_law_2212 : decode cL_law 2212 = .ok (.aload_n 0, 1) := by decide +kernel
theorem dL_law_2213 : decode cL_law 2213 = .ok (.iload_n 3, 1) := by decide +kernel
theorem dL_law_2214 : decode cL_law 2214 = .ok (.iconst 1, 1) := by decide +kernel
theorem dL_law_2215 : decode cL_law 2215 = .ok (.iadd, 1) := by decide +kernel
theorem dL_law_2216 : decode cL_law 2216 = .ok (.iaload, 1) := by decide +kernel
theorem dL_law_2217 : decode cL_law 2217 = .ok (.invokevirtual 248, 3) := by decide +kernel
theorem dL_law_2220 : decode cL_law 2220 = .ok (.pop, 1) := by decide +kernel
theorem dL_law_2221 : decode cL_law 2221 = .ok (.aload_n 2, 1) := by decide +kernel
theorem dL_law_2222 : decode cL_law 2222 = .ok (.aload_n 0, 1) := by decide +kernel
theorem dL_law_2223 : decode cL_law 2223 = .ok (.iload_n 3, 1) := by decide +kernel
theorem dL_law_2224 : decode cL_law 2224 = .ok (.iconst 1, 1) := by decide +kernel
theorem dL_law_2225 : decode cL_law 2225 = .ok (.iadd, 1) := by decide +kernel
theorem dL_law_2226 : decode cL_law 2226 = .ok (.iaload, 1) := by decide +kernel
theorem dL_law_2227 : decode cL_law 2227 = .ok (.invokevirtual 251, 3) := by decide +kernel
theorem dL_law_2230 : decode cL_law 2230 = .ok (.pop, 1) := by decide +kernel
theorem dL_law_2231 : decode cL_law 2231 = .ok (.goto 228, 3) := by decide +kernel
theorem dL_law_2234 : decode cL_law 2234 = .ok (.aload_n 1, 1) := by decide +kernel
theorem dL_law_2235 : decode cL_law 2235 = .ok (.aload_n 0, 1) := by decide +kernel
theorem dL_law_2236 : decode cL_law 2236 = .ok (.iload_n 3, 1) := by decide +kernel
theorem dL_law_2237 : decode cL_law 2237 = .ok (.iconst 1, 1) := by decide +kernel
theorem dL_law_2238 : decode cL_law 2238 = .ok (.iadd, 1) := by decide +kernel
theorem dL_law_2239 : decode cL_law 2239 = .ok (.iaload, 1) := by decide +kernel
theorem dL_law_2240 : decode cL_law 2240 = .ok (.invokevirtual 252, 3) := by decide +kernel
theorem dL_law_2243 : decode cL_law 2243 = .ok (.pop, 1) := by decide +kernel
theorem dL_law_2244 : decode cL_law 2244 = .ok (.aload_n 2, 1) := by decide +kernel
theorem dL_law_2245 : decode cL_law 2245 = .ok (.aload_n 0, 1) := by decide +kernel
theorem dL_law_2246 : decode cL_law 2246 = .ok (.iload_n 3, 1) := by decide +kernel
theorem dL_law_2247 : decode cL_law 2247 = .ok (.iconst 1, 1) := by decide +kernel
theorem dL_law_2248 : decode cL_law 2248 = .ok (.iadd, 1) := by decide +kernel
theorem dL_law_2249 : decode cL_law 2249 = .ok (.iaload, 1) := by decide +kernel
theorem dL_law_2250 : decode cL_law 2250 = .ok (.invokevirtual 255, 3) := by decide +kernel
theorem dL_law_2253 : decode cL_law 2253 = .ok (.pop, 1) := by decide +kernel
theorem dL_law_2254 : decode cL_law 2254 = .ok (.goto 205, 3) := by decide +kernel
theorem dL_law_2257 : decode cL_law 2257 = .ok (.aload_n 1, 1) := by decide +kernel
theorem dL_law_2258 : decode cL_law 2258 = .ok (.aload_n 0, 1) := by decide +kernel
theorem dL_law_2259 : decode cL_law 2259 = .ok (.iload_n 3, 1) := by decide +kernel
theorem dL_law_2260 : decode cL_law 2260 = .ok (.iconst 1, 1) := by decide +kernel
theorem dL_law_2261 : decode cL_law 2261 = .ok (.iadd, 1) := by decide +kernel
theorem dL_law_2262 : decode cL_law 2262 = .ok (.iaload, 1) := by decide +kernel
theorem dL_law_2263 : decode cL_law 2263 = .ok (.invokevirtual 256, 3) := by decide +kernel
theorem dL_law_2266 : decode cL_law 2266 = .ok (.pop, 1) := by decide +kernel
theorem dL_law_2267 : decode cL_law 2267 = .ok (.aload_n 2, 1) := by decide +kernel
theorem dL_law_2268 : decode cL_law 2268 = .ok (.aload_n 0, 1) := by decide +kernel
theorem dL_law_2269 : decode cL_law 2269 = .ok (.iload_n 3, 1) := by decide +kernel
theorem dL_law_2270 : decode cL_law 2270 = .ok (.iconst 1, 1) := by decide +kernel
theorem dL_law_2271 : decode cL_law 2271 = .ok (.iadd, 1) := by decide +kernel
theorem dL_law_2272 : decode cL_law 2272 = .ok (.iaload, 1) := by decide +kernel
theorem dL_law_2273 : decode cL_law 2273 = .ok (.invokevirtual 259, 3) := by decide +kernel
theorem dL_law_2276 : decode cL_law 2276 = .ok (.pop, 1) := by decide +kernel
theorem dL_law_2277 : decode cL_law 2277 = .ok (.goto 182, 3) := by decide +kernel
theorem dL_law_2280 : decode cL_law 2280 = .ok (.aload_n 1, 1) := by decide +kernel
theorem dL_law_2281 : decode cL_law 2281 = .ok (.aload_n 0, 1) := by decide +kernel
theorem dL_law_2282 : decode cL_law 2282 = .ok (.iload_n 3, 1) := by decide +kernel
theorem dL_law_2283 : decode cL_law 2283 = .ok (.iconst 1, 1) := by decide +kernel
theorem dL_law_2284 : decode cL_law 2284 = .ok (.iadd, 1) := by decide +kernel
theorem dL_law_2285 : decode cL_law 2285 = .ok (.iaload, 1) := by decide +kernel
theorem dL_law_2286 : decode cL_law 2286 = .ok (.aload_n 0, 1) := by decide +kernel
theorem dL_law_2287 : decode cL_law 2287 = .ok (.iload_n 3, 1) := by decide +kernel
theorem dL_law_2288 : decode cL_law 2288 = .ok (.iconst 2, 1) := by decide +kernel
theorem dL_law_2289 : decode cL_law 2289 = .ok (.iadd, 1) := by decide +kernel
theorem dL_law_2290 : decode cL_law 2290 = .ok (.iaload, 1) := by decide +kernel
theorem dL_law_2291 : decode cL_law 2291 = .ok (.aload_n 0, 1) := by decide +kernel
theorem dL_law_2292 : decode cL_law 2292 = .ok (.iload_n 3, 1) := by decide +kernel
theorem dL_law_2293 : decode cL_law 2293 = .ok (.iconst 3, 1) := by decide +kernel
theorem dL_law_2294 : decode cL_law 2294 = .ok (.iadd, 1) := by decide +kernel
theorem dL_law_2295 : decode cL_law 2295 = .ok (.iaload, 1) := by decide +kernel
theorem dL_law_2296 : decode cL_law 2296 = .ok (.invokevirtual 260, 3) := by decide +kernel
theorem dL_law_2299 : decode cL_law 2299 = .ok (.aload_n 2, 1) := by decide +kernel
theorem dL_law_2300 : decode cL_law 2300 = .ok (.aload_n 0, 1) := by decide +kernel
theorem dL_law_2301 : decode cL_law 2301 = .ok (.iload_n 3, 1) := by decide +kernel
theorem dL_law_2302 : decode cL_law 2302 = .ok (.iconst 1, 1) := by decide +kernel
theorem dL_law_2303 : decode cL_law 2303 = .ok (.iadd, 1) := by decide +kernel
theorem dL_law_2304 : decode cL_law 2304 = .ok (.iaload, 1) := by decide +kernel
theorem dL_law_2305 : decode cL_law 2305 = .ok (.aload_n 0, 1) := by decide +kernel
theorem dL_law_2306 : decode cL_law 2306 = .ok (.iload_n 3, 1) := by decide +kernel
theorem dL_law_2307 : decode cL_law 2307 = .ok (.iconst 2, 1) := by decide +kernel
theorem dL_law_2308 : decode cL_law 2308 = .ok (.iadd, 1) := by decide +kernel
theorem dL_law_2309 : decode cL_law 2309 = .ok (.iaload, 1) := by decide +kernel
theorem dL_law_2310 : decode cL_law 2310 = .ok (.aload_n 0, 1) := by decide +kernel
theorem dL_law_2311 : decode cL_law 2311 = .ok (.iload_n 3, 1) := by decide +kernel
theorem dL_law_2312 : decode cL_law 2312 = .ok (.iconst 3, 1) := by decide +kernel
theorem dL_law_2313 : decode cL_law 2313 = .ok (.iadd, 1) := by decide +kernel
theorem dL_law_2314 : decode cL_law 2314 = .ok (.iaload, 1) := by decide +kernel
theorem dL_law_2315 : decode cL_law 2315 = .ok (.invokevirtual 263, 3) := by decide +kernel
theorem dL_law_2318 : decode cL_law 2318 = .ok (.if_icmp .eq 141, 3) := by decide +kernel
theorem dL_law_2323 : decode cL_law 2323 = .ok (.aload_n 1, 1) := by decide +kernel
theorem dL_law_2324 : decode cL_law 2324 = .ok (.aload_n 0, 1) := by decide +kernel
theorem dL_law_2325 : decode cL_law 2325 = .ok (.iload_n 3, 1) := by decide +kernel
theorem dL_law_2326 : decode cL_law 2326 = .ok (.iconst 1, 1) := by decide +kernel
theorem dL_law_2327 : decode cL_law 2327 = .ok (.iadd, 1) := by decide +kernel
theorem dL_law_2328 : decode cL_law 2328 = .ok (.iaload, 1) := by decide +kernel
theorem dL_law_2329 : decode cL_law 2329 = .ok (.aload_n 0, 1) := by decide +kernel
theorem dL_law_2330 : decode cL_law 2330 = .ok (.iload_n 3, 1) := by decide +kernel
theorem dL_law_2331 : decode cL_law 2331 = .ok (.iconst 2, 1) := by decide +kernel
theorem dL_law_2332 : decode cL_law 2332 = .ok (.iadd, 1) := by decide +kernel
theorem dL_law_2333 : decode cL_law 2333 = .ok (.iaload, 1) := by decide +kernel
theorem dL_law_2334 : decode cL_law 2334 = .ok (.aload_n 0, 1) := by decide +kernel
theorem dL_law_2335 : decode cL_law 2335 = .ok (.iload_n 3, 1) := by decide +kernel
theorem dL_law_2336 : decode cL_law 2336 = .ok (.iconst 3, 1) := by decide +kernel
theorem dL_law_2337 : decode cL_law 2337 = .ok (.iadd, 1) := by decide +kernel
theorem dL_law_2338 : decode cL_law 2338 = .ok (.iaload, 1) := by decide +kernel
theorem dL_law_2339 : decode cL_law 2339 = .ok (.i2l, 1) := by decide +kernel
theorem dL_law_2340 : decode cL_law 2340 = .ok (.bipush 32, 2) := by decide +kernel
theorem dL_law_2342 : decode cL_law 2342 = .ok (.lshl, 1) := by decide +kernel
theorem dL_law_2343 : decode cL_law 2343 = .ok (.aload_n 0, 1) := by decide +kernel
theorem dL_law_2344 : decode cL_law 2344 = .ok (.iload_n 3, 1) := by decide +kernel
theorem dL_law_2345 : decode cL_law 2345 = .ok (.iconst 4, 1) := by decide +kernel
theorem dL_law_2346 : decode cL_law 2346 = .ok (.iadd, 1) := by decide +kernel
theorem dL_law_2347 : decode cL_law 2347 = .ok (.iaload, 1) := by decide +kernel
theorem dL_law_2348 : decode cL_law 2348 = .ok (.i2l, 1) := by decide +kernel
theorem dL_law_2349 : decode cL_law 2349 = .ok (.ldc2_w 264, 3) := by decide +kernel
theorem dL_law_2352 : decode cL_law 2352 = .ok (.land, 1) := by decide +kernel
theorem dL_law_2353 : decode cL_law 2353 = .ok (.lor, 1) := by decide +kernel
theorem dL_law_2354 : decode cL_law 2354 = .ok (.invokevirtual 266, 3) := by decide +kernel
theorem dL_law_2357 : decode cL_law 2357 = .ok (.pop, 1) := by decide +kernel
theorem dL_law_2358 : decode cL_law 2358 = .ok (.aload_n 2, 1) := by decide +kernel
theorem dL_law_2359 : decode cL_law 2359 = .ok (.aload_n 0, 1) := by decide +kernel
theorem dL_law_2360 : decode cL_law 2360 = .ok (.iload_n 3, 1) := by decide +kernel
theorem dL_law_2361 : decode cL_law 2361 = .ok (.iconst 1, 1) := by decide +kernel
theorem dL_law_2362 : decode cL_law 2362 = .ok (.iadd, 1) := by decide +kernel
theorem dL_law_2363 : decode cL_law 2363 = .ok (.iaload, 1) := by decide +kernel
theorem dL_law_2364 : decode cL_law 2364 = .ok (.aload_n 0, 1) := by decide +kernel
theorem dL_law_2365 : decode cL_law 2365 = .ok (.iload_n 3, 1) := by decide +kernel
theorem dL_law_2366 : decode cL_law 2366 = .ok (.iconst 2, 1) := by decide +kernel
theorem dL_law_2367 : decode cL_law 2367 = .ok (.iadd, 1) := by decide +kernel
theorem dL_law_2368 : decode cL_law 2368 = .ok (.iaload, 1) := by decide +kernel
theorem dL_law_2369 : decode cL_law 2369 = .ok (.aload_n 0, 1) := by decide +kernel
theorem dL_law_2370 : decode cL_law 2370 = .ok (.iload_n 3, 1) := by decide +kernel
theorem dL_law_2371 : decode cL_law 2371 = .ok (.iconst 3, 1) := by decide +kernel
theorem dL_law_2372 : decode cL_law 2372 = .ok (.iadd, 1) := by decide +kernel
theorem dL_law_2373 : decode cL_law 2373 = .ok (.iaload, 1) := by decide +kernel
theorem dL_law_2374 : decode cL_law 2374 = .ok (.i2l, 1) := by decide +kernel
theorem dL_law_2375 : decode cL_law 2375 = .ok (.bipush 32, 2) := by decide +kernel
theorem dL_law_2377 : decode cL_law 2377 = .ok (.lshl, 1) := by decide +kernel
theorem dL_law_2378 : decode cL_law 2378 = .ok (.aload_n 0, 1) := by decide +kernel
theorem dL_law_2379 : decode cL_law 2379 = .ok (.iload_n 3, 1) := by decide +kernel
theorem dL_law_2380 : decode cL_law 2380 = .ok (.iconst 4, 1) := by decide +kernel
theorem dL_law_2381 : decode cL_law 2381 = .ok (.iadd, 1) := by decide +kernel
theorem dL_law_2382 : decode cL_law 2382 = .ok (.iaload, 1) := by decide +kernel
theorem dL_law_2383 : decode cL_law 2383 = .ok (.i2l, 1) := by decide +kernel
theorem dL_law_2384 : decode cL_law 2384 = .ok (.ldc2_w 264, 3) := by decide +kernel
theorem dL_law_2387 : decode cL_law 2387 = .ok (.land, 1) := by decide +kernel
theorem dL_law_2388 : decode cL_law 2388 = .ok (.lor, 1) := by decide +kernel
theorem dL_law_2389 : decode cL_law 2389 = .ok (.invokevirtual 270, 3) := by decide +kernel
theorem dL_law_2392 : decode cL_law 2392 = .ok (.pop, 1) := by decide +kernel
theorem dL_law_2393 : decode cL_law 2393 = .ok (.goto 66, 3) := by decide +kernel
theorem dL_law_2396 : decode cL_law 2396 = .ok (.aload_n 1, 1) := by decide +kernel
theorem dL_law_2397 : decode cL_law 2397 = .ok (.aload_n 0, 1) := by decide +kernel
theorem dL_law_2398 : decode cL_law 2398 = .ok (.iload_n 3, 1) := by decide +kernel
theorem dL_law_2399 : decode cL_law 2399 = .ok (.iconst 1, 1) := by decide +kernel
theorem dL_law_2400 : decode cL_law 2400 = .ok (.iadd, 1) := by decide +kernel
theorem dL_law_2401 : decode cL_law 2401 = .ok (.iaload, 1) := by decide +kernel
theorem dL_law_2402 : decode cL_law 2402 = .ok (.aload_n 0, 1) := by decide +kernel
theorem dL_law_2403 : decode cL_law 2403 = .ok (.iload_n 3, 1) := by decide +kernel
theorem dL_law_2404 : decode cL_law 2404 = .ok (.iconst 2, 1) := by decide +kernel
theorem dL_law_2405 : decode cL_law 2405 = .ok (.iadd, 1) := by decide +kernel
theorem dL_law_2406 : decode cL_law 2406 = .ok (.iaload, 1) := by decide +kernel
theorem dL_law_2407 : decode cL_law 2407 = .ok (.aload_n 0, 1) := by decide +kernel
theorem dL_law_2408 : decode cL_law 2408 = .ok (.iload_n 3, 1) := by decide +kernel
theorem dL_law_2409 : decode cL_law 2409 = .ok (.iconst 3, 1) := by decide +kernel
theorem dL_law_2410 : decode cL_law 2410 = .ok (.iadd, 1) := by decide +kernel
theorem dL_law_2411 : decode cL_law 2411 = .ok (.iaload, 1) := by decide +kernel
theorem dL_law_2412 : decode cL_law 2412 = .ok (.aload_n 0, 1) := by decide +kernel
theorem dL_law_2413 : decode cL_law 2413 = .ok (.iload_n 3, 1) := by decide +kernel
theorem dL_law_2414 : decode cL_law 2414 = .ok (.iconst 4, 1) := by decide +kernel
theorem dL_law_2415 : decode cL_law 2415 = .ok (.iadd, 1) := by decide +kernel
theorem dL_law_2416 : decode cL_law 2416 = .ok (.iaload, 1) := by decide +kernel
theorem dL_law_2417 : decode cL_law 2417 = .ok (.aload_n 0, 1) := by decide +kernel
theorem dL_law_2418 : decode cL_law 2418 = .ok (.iload_n 3, 1) := by decide +kernel
theorem dL_law_2419 : decode cL_law 2419 = .ok (.iconst 5, 1) := by decide +kernel
theorem dL_law_2420 : decode cL_law 2420 = .ok (.iadd, 1) := by decide +kernel
theorem dL_law_2421 : decode cL_law 2421 = .ok (.iaload, 1) := by decide +kernel
theorem dL_law_2422 : decode cL_law 2422 = .ok (.invokevirtual 271, 3) := by decide +kernel
theorem dL_law_2425 : decode cL_law 2425 = .ok (.pop, 1) := by decide +kernel
theorem dL_law_2426 : decode cL_law 2426 = .ok (.aload_n 2, 1) := by decide +kernel
theorem dL_law_2427 : decode cL_law 2427 = .ok (.aload_n 0, 1) := by decide +kernel
theorem dL_law_2428 : decode cL_law 2428 = .ok (.iload_n 3, 1) := by decide +kernel
theorem dL_law_2429 : decode cL_law 2429 = .ok (.iconst 1, 1) := by decide +kernel
theorem dL_law_2430 : decode cL_law 2430 = .ok (.iadd, 1) := by decide +kernel
theorem dL_law_2431 : decode cL_law 2431 = .ok (.iaload, 1) := by decide +kernel
theorem dL_law_2432 : decode cL_law 2432 = .ok (.aload_n 0, 1) := by decide +kernel
theorem dL_law_2433 : decode cL_law 2433 = .ok (.iload_n 3, 1) := by decide +kernel
theorem dL_law_2434 : decode cL_law 2434 = .ok (.iconst 2, 1) := by decide +kernel
theorem dL_law_2435 : decode cL_law 2435 = .ok (.iadd, 1) := by decide +kernel
theorem dL_law_2436 : decode cL_law 2436 = .ok (.iaload, 1) := by decide +kernel
theorem dL_law_2437 : decode cL_law 2437 = .ok (.aload_n 0, 1) := by decide +kernel
theorem dL_law_2438 : decode cL_law 2438 = .ok (.iload_n 3, 1) := by decide +kernel
theorem dL_law_2439 : decode cL_law 2439 = .ok (.iconst 3, 1) := by decide +kernel
theorem dL_law_2440 : decode cL_law 2440 = .ok (.iadd, 1) := by decide +kernel
theorem dL_law_2441 : decode cL_law 2441 = .ok (.iaload, 1) := by decide +kernel
theorem dL_law_2442 : decode cL_law 2442 = .ok (.aload_n 0, 1) := by decide +kernel
theorem dL_law_2443 : decode cL_law 2443 = .ok (.iload_n 3, 1) := by decide +kernel
theorem dL_law_2444 : decode cL_law 2444 = .ok (.iconst 4, 1) := by decide +kernel
theorem dL_law_2445 : decode cL_law 2445 = .ok (.iadd, 1) := by decide +kernel
theorem dL_law_2446 : decode cL_law 2446 = .ok (.iaload, 1) := by decide +kernel
theorem dL_law_2447 : decode cL_law 2447 = .ok (.aload_n 0, 1) := by decide +kernel
theorem dL_law_2448 : decode cL_law 2448 = .ok (.iload_n 3, 1) := by decide +kernel
theorem dL_law_2449 : decode cL_law 2449 = .ok (.iconst 5, 1) := by decide +kernel
theorem dL_law_2450 : decode cL_law 2450 = .ok (.iadd, 1) := by decide +kernel
theorem dL_law_2451 : decode cL_law 2451 = .ok (.iaload, 1) := by decide +kernel
theorem dL_law_2452 : decode cL_law 2452 = .ok (.invokevirtual 274, 3) := by decide +kernel
theorem dL_law_2455 : decode cL_law 2455 = .ok (.pop, 1) := by decide +kernel
theorem dL_law_2456 : decode cL_law 2456 = .ok (.goto 3, 3) := by decide +kernel
