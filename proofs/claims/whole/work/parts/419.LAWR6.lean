/-! THE LAW: rows 6 (written by gen/glaw.py) -/
theorem dL_law_1994 : decode cL_law 1994 = .ok (.invokevirtual 162, 3) := by decide +kernel
theorem dL_law_1997 : decode cL_law 1997 = .ok (.if_icmp .eq 377, 3) := by decide +kernel
theorem dL_law_2000 : decode cL_law 2000 = .ok (.iconst 0, 1) := by decide +kernel
theorem dL_law_2001 : decode cL_law 2001 = .ok (.ireturn, 1) := by decide +kernel
theorem dL_law_2002 : decode cL_law 2002 = .ok (.aload_n 1, 1) := by decide +kernel
theorem dL_law_2003 : decode cL_law 2003 = .ok (.aload_n 0, 1) := by decide +kernel
theorem dL_law_2004 : decode cL_law 2004 = .ok (.iload 4, 2) := by decide +kernel
theorem dL_law_2006 : decode cL_law 2006 = .ok (.iconst 1, 1) := by decide +kernel
theorem dL_law_2007 : decode cL_law 2007 = .ok (.iadd, 1) := by decide +kernel
theorem dL_law_2008 : decode cL_law 2008 = .ok (.iaload, 1) := by decide +kernel
theorem dL_law_2009 : decode cL_law 2009 = .ok (.aload_n 0, 1) := by decide +kernel
theorem dL_law_2010 : decode cL_law 2010 = .ok (.iload 4, 2) := by decide +kernel
theorem dL_law_2012 : decode cL_law 2012 = .ok (.iconst 2, 1) := by decide +kernel
theorem dL_law_2013 : decode cL_law 2013 = .ok (.iadd, 1) := by decide +kernel
theorem dL_law_2014 : decode cL_law 2014 = .ok (.iaload, 1) := by decide +kernel
theorem dL_law_2015 : decode cL_law 2015 = .ok (.aload_n 0, 1) := by decide +kernel
theorem dL_law_2016 : decode cL_law 2016 = .ok (.iload 4, 2) := by decide +kernel
theorem dL_law_2018 : decode cL_law 2018 = .ok (.iconst 3, 1) := by decide +kernel
theorem dL_law_2019 : decode cL_law 2019 = .ok (.iadd, 1) := by decide +kernel
theorem dL_law_2020 : decode cL_law 2020 = .ok (.iaload, 1) := by decide +kernel
theorem dL_law_2021 : decode cL_law 2021 = .ok (.ifCond .eq 7, 3) := by decide +kernel
theorem dL_law_2024 : decode cL_law 2024 = .ok (.iconst 1, 1) := by decide +kernel
theorem dL_law_2025 : decode cL_law 2025 = .ok (.goto 4, 3) := by decide +kernel
theorem dL_law_2028 : decode cL_law 2028 = .ok (.iconst 0, 1) := by decide +kernel
theorem dL_law_2029 : decode cL_law 2029 = .ok (.invokevirtual 163, 3) := by decide +kernel
theorem dL_law_2032 : decode cL_law 2032 = .ok (.aload_n 2, 1) := by decide +kernel
theorem dL_law_2033 : decode cL_law 2033 = .ok (.aload_n 0, 1) := by decide +kernel
theorem dL_law_2034 : decode cL_law 2034 = .ok (.iload 4, 2) := by decide +kernel
theorem dL_law_2036 : decode cL_law 2036 = .ok (.iconst 1, 1) := by decide +kernel
theorem dL_law_2037 : decode cL_law 2037 = .ok (.iadd, 1) := by decide +kernel
theorem dL_law_2038 : decode cL_law 2038 = .ok (.iaload, 1) := by decide +kernel
theorem dL_law_2039 : decode cL_law 2039 = .ok (.aload_n 0, 1) := by decide +kernel
theorem dL_law_2040 : decode cL_law 2040 = .ok (.iload 4, 2) := by decide +kernel
theorem dL_law_2042 : decode cL_law 2042 = .ok (.iconst 2, 1) := by decide +kernel
theorem dL_law_2043 : decode cL_law 2043 = .ok (.iadd, 1) := by decide +kernel
theorem dL_law_2044 : decode cL_law 2044 = .ok (.iaload, 1) := by decide +kernel
theorem dL_law_2045 : decode cL_law 2045 = .ok (.aload_n 0, 1) := by decide +kernel
theorem dL_law_2046 : decode cL_law 2046 = .ok (.iload 4, 2) := by decide +kernel
theorem dL_law_2048 : decode cL_law 2048 = .ok (.iconst 3, 1) := by decide +kernel
theorem dL_law_2049 : decode cL_law 2049 = .ok (.iadd, 1) := by decide +kernel
theorem dL_law_2050 : decode cL_law 2050 = .ok (.iaload, 1) := by decide +kernel
theorem dL_law_2051 : decode cL_law 2051 = .ok (.ifCond .eq 7, 3) := by decide +kernel
theorem dL_law_2054 : decode cL_law 2054 = .ok (.iconst 1, 1) := by decide +kernel
theorem dL_law_2055 : decode cL_law 2055 = .ok (.goto 4, 3) := by decide +kernel
theorem dL_law_2058 : decode cL_law 2058 = .ok (.iconst 0, 1) := by decide +kernel
theorem dL_law_2059 : decode cL_law 2059 = .ok (.invokevirtual 167, 3) := by decide +kernel
theorem dL_law_2062 : decode cL_law 2062 = .ok (.if_icmp .eq 312, 3) := by decide +kernel
theorem dL_law_2065 : decode cL_law 2065 = .ok (.iconst 0, 1) := by decide +kernel
theorem dL_law_2066 : decode cL_law 2066 = .ok (.ireturn, 1) := by decide +kernel
theorem dL_law_2067 : decode cL_law 2067 = .ok (.aload_n 1, 1) := by decide +kernel
theorem dL_law_2068 : decode cL_law 2068 = .ok (.aload_n 0, 1) := by decide +kernel
theorem dL_law_2069 : decode cL_law 2069 = .ok (.iload 4, 2) := by decide +kernel
theorem dL_law_2071 : decode cL_law 2071 = .ok (.iconst 1, 1) := by decide +kernel
theorem dL_law_2072 : decode cL_law 2072 = .ok (.iadd, 1) := by decide +kernel
theorem dL_law_2073 : decode cL_law 2073 = .ok (.iaload, 1) := by decide +kernel
theorem dL_law_2074 : decode cL_law 2074 = .ok (.invokevirtual 168, 3) := by decide +kernel
theorem dL_law_2077 : decode cL_law 2077 = .ok (.aload_n 2, 1) := by decide +kernel
theorem dL_law_2078 : decode cL_law 2078 = .ok (.aload_n 0, 1) := by decide +kernel
theorem dL_law_2079 : decode cL_law 2079 = .ok (.iload 4, 2) := by decide +kernel
theorem dL_law_2081 : decode cL_law 2081 = .ok (.iconst 1, 1) := by decide +kernel
theorem dL_law_2082 : decode cL_law 2082 = .ok (.iadd, 1) := by decide +kernel
theorem dL_law_2083 : decode cL_law 2083 = .ok (.iaload, 1) := by decide +kernel
theorem dL_law_2084 : decode cL_law 2084 = .ok (.invokevirtual 172, 3) := by decide +kernel
theorem dL_law_2087 : decode cL_law 2087 = .ok (.if_icmp .eq 287, 3) := by decide +kernel
theorem dL_law_2090 : decode cL_law 2090 = .ok (.iconst 0, 1) := by decide +kernel
theorem dL_law_2091 : decode cL_law 2091 = .ok (.ireturn, 1) := by decide +kernel
theorem dL_law_2092 : decode cL_law 2092 = .ok (.aload_n 1, 1) := by decide +kernel
theorem dL_law_2093 : decode cL_law 2093 = .ok (.aload_n 0, 1) := by decide +kernel
theorem dL_law_2094 : decode cL_law 2094 = .ok (.iload 4, 2) := by decide +kernel
theorem dL_law_2096 : decode cL_law 2096 = .ok (.iconst 1, 1) := by decide +kernel
theorem dL_law_2097 : decode cL_law 2097 = .ok (.iadd, 1) := by decide +kernel
theorem dL_law_2098 : decode cL_law 2098 = .ok (.iaload, 1) := by decide +kernel
theorem dL_law_2099 : decode cL_law 2099 = .ok (.invokevirtual 173, 3) := by decide +kernel
theorem dL_law_2102 : decode cL_law 2102 = .ok (.aload_n 2, 1) := by decide +kernel
theorem dL_law_2103 : decode cL_law 2103 = .ok (.aload_n 0, 1) := by decide +kernel
theorem dL_law_2104 : decode cL_law 2104 = .ok (.iload 4, 2) := by decide +kernel
theorem dL_law_2106 : decode cL_law 2106 = .ok (.iconst 1, 1) := by decide +kernel
theorem dL_law_2107 : decode cL_law 2107 = .ok (.iadd, 1) := by decide +kernel
theorem dL_law_2108 : decode cL_law 2108 = .ok (.iaload, 1) := by decide +kernel
theorem dL_law_2109 : decode cL_law 2109 = .ok (.invokevirtual 176, 3) := by decide +kernel
theorem dL_law_2112 : decode cL_law 2112 = .ok (.if_icmp .eq 262, 3) := by decide +kernel
theorem dL_law_2115 : decode cL_law 2115 = .ok (.iconst 0, 1) := by decide +kernel
theorem dL_law_2116 : decode cL_law 2116 = .ok (.ireturn, 1) := by decide +kernel
theorem dL_law_2117 : decode cL_law 2117 = .ok (.aload_n 1, 1) := by decide +kernel
theorem dL_law_2118 : decode cL_law 2118 = .ok (.aload_n 0, 1) := by decide +kernel
theorem dL_law_2119 : decode cL_law 2119 = .ok (.iload 4, 2) := by decide +kernel
theorem dL_law_2121 : decode cL_law 2121 = .ok (.iconst 1, 1) := by decide +kernel
theorem dL_law_2122 : decode cL_law 2122 = .ok (.iadd, 1) := by decide +kernel
theorem dL_law_2123 : decode cL_law 2123 = .ok (.iaload, 1) := by decide +kernel
theorem dL_law_2124 : decode cL_law 2124 = .ok (.aload_n 0, 1) := by decide +kernel
theorem dL_law_2125 : decode cL_law 2125 = .ok (.iload 4, 2) := by decide +kernel
theorem dL_law_2127 : decode cL_law 2127 = .ok (.iconst 2, 1) := by decide +kernel
theorem dL_law_2128 : decode cL_law 2128 = .ok (.iadd, 1) := by decide +kernel
theorem dL_law_2129 : decode cL_law 2129 = .ok (.iaload, 1) := by decide +kernel
theorem dL_law_2130 : decode cL_law 2130 = .ok (.aload_n 0, 1) := by decide +kernel
theorem dL_law_2131 : decode cL_law 2131 = .ok (.iload 4, 2) := by decide +kernel
theorem dL_law_2133 : decode cL_law 2133 = .ok (.iconst 3, 1) := by decide +kernel
theorem dL_law_2134 : decode cL_law 2134 = .ok (.iadd, 1) := by decide +kernel
theorem dL_law_2135 : decode cL_law 2135 = .ok (.iaload, 1) := by decide +kernel
theorem dL_law_2136 : decode cL_law 2136 = .ok (.aload_n 0, 1) := by decide +kernel
theorem dL_law_2137 : decode cL_law 2137 = .ok (.iload 4, 2) := by decide +kernel
theorem dL_law_2139 : decode cL_law 2139 = .ok (.iconst 4, 1) := by decide +kernel
theorem dL_law_2140 : decode cL_law 2140 = .ok (.iadd, 1) := by decide +kernel
theorem dL_law_2141 : decode cL_law 2141 = .ok (.iaload, 1) := by decide +kernel
theorem dL_law_2142 : decode cL_law 2142 = .ok (.aload_n 0, 1) := by decide +kernel
theorem dL_law_2143 : decode cL_law 2143 = .ok (.iload 4, 2) := by decide +kernel
theorem dL_law_2145 : decode cL_law 2145 = .ok (.iconst 5, 1) := by decide +kernel
theorem dL_law_2146 : decode cL_law 2146 = .ok (.iadd, 1) := by decide +kernel
theorem dL_law_2147 : decode cL_law 2147 = .ok (.iaload, 1) := by decide +kernel
theorem dL_law_2148 : decode cL_law 2148 = .ok (.aload_n 0, 1) := by decide +kernel
theorem dL_law_2149 : decode cL_law 2149 = .ok (.iload 4, 2) := by decide +kernel
theorem dL_law_2151 : decode cL_law 2151 = .ok (.bipush 6, 2) := by decide +kernel
theorem dL_law_2153 : decode cL_law 2153 = .ok (.iadd, 1) := by decide +kernel
theorem dL_law_2154 : decode cL_law 2154 = .ok (.iaload, 1) := by decide +kernel
theorem dL_law_2155 : decode cL_law 2155 = .ok (.invokevirtual 177, 3) := by decide +kernel
theorem dL_law_2158 : decode cL_law 2158 = .ok (.aload_n 2, 1) := by decide +kernel
theorem dL_law_2159 : decode cL_law 2159 = .ok (.aload_n 0, 1) := by decide +kernel
theorem dL_law_2160 : decode cL_law 2160 = .ok (.iload 4, 2) := by decide +kernel
theorem dL_law_2162 : decode cL_law 2162 = .ok (.iconst 1, 1) := by decide +kernel
theorem dL_law_2163 : decode cL_law 2163 = .ok (.iadd, 1) := by decide +kernel
theorem dL_law_2164 : decode cL_law 2164 = .ok (.iaload, 1) := by decide +kernel
theorem dL_law_2165 : decode cL_law 2165 = .ok (.aload_n 0, 1) := by decide +kernel
theorem dL_law_2166 : decode cL_law 2166 = .ok (.iload 4, 2) := by decide +kernel
theorem dL_law_2168 : decode cL_law 2168 = .ok (.iconst 2, 1) := by decide +kernel
theorem dL_law_2169 : decode cL_law 2169 = .ok (.iadd, 1) := by decide +kernel
theorem dL_law_2170 : decode cL_law 2170 = .ok (.iaload, 1) := by decide +kernel
theorem dL_law_2171 : decode cL_law 2171 = .ok (.aload_n 0, 1) := by decide +kernel
theorem dL_law_2172 : decode cL_law 2172 = .ok (.iload 4, 2) := by decide +kernel
theorem dL_law_2174 : decode cL_law 2174 = .ok (.iconst 3, 1) := by decide +kernel
theorem dL_law_2175 : decode cL_law 2175 = .ok (.iadd, 1) := by decide +kernel
theorem dL_law_2176 : decode cL_law 2176 = .ok (.iaload, 1) := by decide +kernel
theorem dL_law_2177 : decode cL_law 2177 = .ok (.aload_n 0, 1) := by decide +kernel
theorem dL_law_2178 : decode cL_law 2178 = .ok (.iload 4, 2) := by decide +kernel
theorem dL_law_2180 : decode cL_law 2180 = .ok (.iconst 4, 1) := by decide +kernel
theorem dL_law_2181 : decode cL_law 2181 = .ok (.iadd, 1) := by decide +kernel
theorem dL_law_2182 : decode cL_law 2182 = .ok (.iaload, 1) := by decide +kernel
theorem dL_law_2183 : decode cL_law 2183 = .ok (.aload_n 0, 1) := by decide +kernel
theorem dL_law_2184 : decode cL_law 2184 = .ok (.iload 4, 2) := by decide +kernel
theorem dL_law_2186 : decode cL_law 2186 = .ok (.iconst 5, 1) := by decide +kernel
theorem dL_law_2187 : decode cL_law 2187 = .ok (.iadd, 1) := by decide +kernel
theorem dL_law_2188 : decode cL_law 2188 = .ok (.iaload, 1) := by decide +kernel
theorem dL_law_2189 : decode cL_law 2189 = .ok (.aload_n 0, 1) := by decide +kernel
theorem dL_law_2190 : decode cL_law 2190 = .ok (.iload 4, 2) := by decide +kernel
theorem dL_law_2192 : decode cL_law 2192 = .ok (.bipush 6, 2) := by decide +kernel
theorem dL_law_2194 : decode cL_law 2194 = .ok (.iadd, 1) := by decide +kernel
theorem dL_law_2195 : decode cL_law 2195 = .ok (.iaload, 1) := by decide +kernel
theorem dL_law_2196 : decode cL_law 2196 = .ok (.invokevirtual 180, 3) := by decide +kernel
theorem dL_law_2199 : decode cL_law 2199 = .ok (.if_icmp .eq 175, 3) := by decide +kernel
theorem dL_law_2202 : decode cL_law 2202 = .ok (.iconst 0, 1) := by decide +kernel
theorem dL_law_2203 : decode cL_law 2203 = .ok (.ireturn, 1) := by decide +kernel
theorem dL_law_2204 : decode cL_law 2204 = .ok (.aload_n 1, 1) := by decide +kernel
theorem dL_law_2205 : decode cL_law 2205 = .ok (.aload_n 0, 1) := by decide +kernel
theorem dL_law_2206 : decode cL_law 2206 = .ok (.iload 4, 2) := by decide +kernel
theorem dL_law_2208 : decode cL_law 2208 = .ok (.iconst 1, 1) := by decide +kernel
theorem dL_law_2209 : decode cL_law 2209 = .ok (.iadd, 1) := by decide +kernel
theorem dL_law_2210 : decode cL_law 2210 = .ok (.iaload, 1) := by decide +kernel
theorem dL_law_2211 : decode cL_law 2211 = .ok (.invokevirtual 181, 3) := by decide +kernel
theorem dL_law_2214 : decode cL_law 2214 = .ok (.aload_n 2, 1) := by decide +kernel
theorem dL_law_2215 : decode cL_law 2215 = .ok (.aload_n 0, 1) := by decide +kernel
theorem dL_law_2216 : decode cL_law 2216 = .ok (.iload 4, 2) := by decide +kernel
theorem dL_law_2218 : decode cL_law 2218 = .ok (.iconst 1, 1) := by decide +kernel
theorem dL_law_2219 : decode cL_law 2219 = .ok (.iadd, 1) := by decide +kernel
theorem dL_law_2220 : decode cL_law 2220 = .ok (.iaload, 1) := by decide +kernel
theorem dL_law_2221 : decode cL_law 2221 = .ok (.invokevirtual 184, 3) := by decide +kernel
theorem dL_law_2224 : decode cL_law 2224 = .ok (.if_icmp .eq 150, 3) := by decide +kernel
theorem dL_law_2227 : decode cL_law 2227 = .ok (.iconst 0, 1) := by decide +kernel
theorem dL_law_2228 : decode cL_law 2228 = .ok (.ireturn, 1) := by decide +kernel
theorem dL_law_2229 : decode cL_law 2229 = .ok (.aload_n 1, 1) := by decide +kernel
theorem dL_law_2230 : decode cL_law 2230 = .ok (.invokevirtual 185, 3) := by decide +kernel
theorem dL_law_2233 : decode cL_law 2233 = .ok (.aload_n 2, 1) := by decide +kernel
theorem dL_law_2234 : decode cL_law 2234 = .ok (.invokevirtual 189, 3) := by decide +kernel
theorem dL_law_2237 : decode cL_law 2237 = .ok (.if_icmp .eq 137, 3) := by decide +kernel
theorem dL_law_2240 : decode cL_law 2240 = .ok (.iconst 0, 1) := by decide +kernel
theorem dL_law_2241 : decode cL_law 2241 = .ok (.ireturn, 1) := by decide +kernel
theorem dL_law_2242 : decode cL_law 2242 = .ok (.aload_n 1, 1) := by decide +kernel
theorem dL_law_2243 : decode cL_law 2243 = .ok (.invokevirtual 190, 3) := by decide +kernel
theorem dL_law_2246 : decode cL_law 2246 = .ok (.aload_n 2, 1) := by decide +kernel
theorem dL_law_2247 : decode cL_law 2247 = .ok (.invokevirtual 193, 3) := by decide +kernel
theorem dL_law_2250 : decode cL_law 2250 = .ok (.if_icmp .eq 124, 3) := by decide +kernel
theorem dL_law_2253 : decode cL_law 2253 = .ok (.iconst 0, 1) := by decide +kernel
theorem dL_law_2254 : decode cL_law 2254 = .ok (.ireturn, 1) := by decide +kernel
theorem dL_law_2255 : decode cL_law 2255 = .ok (.aload_n 1, 1) := by decide +kernel
theorem dL_law_2256 : decode cL_law 2256 = .ok (.aload_n 0, 1) := by decide +kernel
theorem dL_law_2257 : decode cL_law 2257 = .ok (.iload 4, 2) := by decide +kernel
theorem dL_law_2259 : decode cL_law 2259 = .ok (.iconst 1, 1) := by decide +kernel
theorem dL_law_2260 : decode cL_law 2260 = .ok (.iadd, 1) := by decide +kernel
theorem dL_law_2261 : decode cL_law 2261 = .ok (.iaload, 1) := by decide +kernel
theorem dL_law_2262 : decode cL_law 2262 = .ok (.invokevirtual 194, 3) := by decide +kernel
theorem dL_law_2265 : decode cL_law 2265 = .ok (.aload_n 2, 1) := by decide +kernel
theorem dL_law_2266 : decode cL_law 2266 = .ok (.aload_n 0, 1) := by decide +kernel
theorem dL_law_2267 : decode cL_law 2267 = .ok (.iload 4, 2) := by decide +kernel
theorem dL_law_2269 : decode cL_law 2269 = .ok (.iconst 1, 1) := by decide +kernel
theorem dL_law_2270 : decode cL_law 2270 = .ok (.iadd, 1) := by decide +kernel
theorem dL_law_2271 : decode cL_law 2271 = .ok (.iaload, 1) := by decide +kernel
theorem dL_law_2272 : decode cL_law 2272 = .ok (.invokevirtual 197, 3) := by decide +kernel
theorem dL_law_2275 : decode cL_law 2275 = .ok (.if_icmp .eq 99, 3) := by decide +kernel
theorem dL_law_2278 : decode cL_law 2278 = .ok (.iconst 0, 1) := by decide +kernel
theorem dL_law_2279 : decode cL_law 2279 = .ok (.ireturn, 1) := by decide +kernel
theorem dL_law_2280 : decode cL_law 2280 = .ok (.aload_n 1, 1) := by decide +kernel
theorem dL_law_2281 : decode cL_law 2281 = .ok (.aload_n 0, 1) := by decide +kernel
theorem dL_law_2282 : decode cL_law 2282 = .ok (.iload 4, 2) := by decide +kernel
theorem dL_law_2284 : decode cL_law 2284 = .ok (.iconst 1, 1) := by decide +kernel
theorem dL_law_2285 : decode cL_law 2285 = .ok (.iadd, 1) := by decide +kernel
theorem dL_law_2286 : decode cL_law 2286 = .ok (.iaload, 1) := by decide +kernel
theorem dL_law_2287 : decode cL_law 2287 = .ok (.aload_n 3, 1) := by decide +kernel
theorem dL_law_2288 : decode cL_law 2288 = .ok (.invokestatic 198, 3) := by decide +kernel
theorem dL_law_2291 : decode cL_law 2291 = .ok (.istore 5, 2) := by decide +kernel
theorem dL_law_2293 : decode cL_law 2293 = .ok (.aload_n 2, 1) := by decide +kernel
theorem dL_law_2294 : decode cL_law 2294 = .ok (.aload_n 0, 1) := by decide +kernel
theorem dL_law_2295 : decode cL_law 2295 = .ok (.iload 4, 2) := by decide +kernel
theorem dL_law_2297 : decode cL_law 2297 = .ok (.iconst 1, 1) := by decide +kernel
theorem dL_law_2298 : decode cL_law 2298 = .ok (.iadd, 1) := by decide +kernel
theorem dL_law_2299 : decode cL_law 2299 = .ok (.iaload, 1) := by decide +kernel
theorem dL_law_2300 : decode cL_law 2300 = .ok (.invokevirtual 203, 3) := by decide +kernel
theorem dL_law_2303 : decode cL_law 2303 = .ok (.istore 6, 2) := by decide +kernel
theorem dL_law_2305 : decode cL_law 2305 = .ok (.aload_n 2, 1) := by decide +kernel
theorem dL_law_2306 : decode cL_law 2306 = .ok (.invokevirtual 204, 3) := by decide +kernel
theorem dL_law_2309 : decode cL_law 2309 = .ok (.iload 5, 2) := by decide +kernel
theorem dL_law_2311 : decode cL_law 2311 = .ok (.if_icmp .eq 5, 3) := by decide +kernel
theorem dL_law_2314 : decode cL_law 2314 = .ok (.iconst 0, 1) := by decide +kernel
theorem dL_law_2315 : decode cL_law 2315 = .ok (.ireturn, 1) := by decide +kernel
theorem dL_law_2316 : decode cL_law 2316 = .ok (.iload 5, 2) := by decide +kernel
theorem dL_law_2318 : decode cL_law 2318 = .ok (.ifCond .ne 15, 3) := by decide +kernel
theorem dL_law_2321 : decode cL_law 2321 = .ok (.aload_n 3, 1) := by decide +kernel
theorem dL_law_2322 : decode cL_law 2322 = .ok (.iconst 0, 1) := by decide +kernel
theorem dL_law_2323 : decode cL_law 2323 = .ok (.laload, 1) := by decide +kernel
theorem dL_law_2324 : decode cL_law 2324 = .ok (.iload 6, 2) := by decide +kernel
theorem dL_law_2326 : decode cL_law 2326 = .ok (.i2l, 1) := by decide +kernel
theorem dL_law_2327 : decode cL_law 2327 = .ok (.lcmp, 1) := by decide +kernel
theorem dL_law_2328 : decode cL_law 2328 = .ok (.ifCond .eq 5, 3) := by decide +kernel
theorem dL_law_2331 : decode cL_law 2331 = .ok (.iconst 0, 1) := by decide +kernel
theorem dL_law_2332 : decode cL_law 2332 = .ok (.ireturn, 1) := by decide +kernel
theorem dL_law_2333 : decode cL_law 2333 = .ok (.goto 41, 3) := by decide +kernel
theorem dL_law_2336 : decode cL_law 2336 = .ok (.aload_n 1, 1) := by decide +kernel
theorem dL_law_2337 : decode cL_law 2337 = .ok (.aload_n 0, 1) := by decide +kernel
theorem dL_law_2338 : decode cL_law 2338 = .ok (.iload 4, 2) := by decide +kernel
theorem dL_law_2340 : decode cL_law 2340 = .ok (.iconst 1, 1) := by decide +kernel
theorem dL_law_2341 : decode cL_law 2341 = .ok (.iadd, 1) := by decide +kernel
theorem dL_law_2342 : decode cL_law 2342 = .ok (.iaload, 1) := by decide +kernel
theorem dL_law_2343 : decode cL_law 2343 = .ok (.invokevirtual 207, 3) := by decide +kernel
theorem dL_law_2346 : decode cL_law 2346 = .ok (.aload_n 2, 1) := by decide +kernel
theorem dL_law_2347 : decode cL_law 2347 = .ok (.aload_n 0, 1) := by decide +kernel
theorem dL_law_2348 : decode cL_law 2348 = .ok (.iload 4, 2) := by decide +kernel
theorem dL_law_2350 : decode cL_law 2350 = .ok (.iconst 1, 1) := by decide +kernel
theorem dL_law_2351 : decode cL_law 2351 = .ok (.iadd, 1) := by decide +kernel
theorem dL_law_2352 : decode cL_law 2352 = .ok (.iaload, 1) := by decide +kernel
theorem dL_law_2353 : decode cL_law 2353 = .ok (.invokevirtual 210, 3) := by decide +kernel
theorem dL_law_2356 : decode cL_law 2356 = .ok (.if_icmp .eq 18, 3) := by decide +kernel
theorem dL_law_2359 : decode cL_law 2359 = .ok (.iconst 0, 1) := by decide +kernel
theorem dL_law_2360 : decode cL_law 2360 = .ok (.ireturn, 1) := by decide +kernel
theorem dL_law_2361 : decode cL_law 2361 = .ok (.aload_n 1, 1) := by decide +kernel
theorem dL_law_2362 : decode cL_law 2362 = .ok (.invokevirtual 211, 3) := by decide +kernel
theorem dL_law_2365 : decode cL_law 2365 = .ok (.aload_n 2, 1) := by decide +kernel
theorem dL_law_2366 : decode cL_law 2366 = .ok (.invokevirtual 214, 3) := by decide +kernel
theorem dL_law_2369 : decode cL_law 2369 = .ok (.if_icmp .eq 5, 3) := by decide +kernel
theorem dL_law_2372 : decode cL_law 2372 = .ok (.iconst 0, 1) := by decide +kernel
theorem dL_law_2373 : decode cL_law 2373 = .ok (.ireturn, 1) := by decide +kernel
theorem dL_law_2374 : decode cL_law 2374 = .ok (.iinc 4 9, 3) := by decide +kernel
theorem dL_law_2377 : decode cL_law 2377 = .ok (.goto (-2354), 3) := by decide +kernel
theorem dL_law_2380 : decode cL_law 2380 = .ok (.iconst 1, 1) := by decide +kernel
theorem dL_law_2381 : decode cL_law 2381 = .ok (.ireturn, 1) := by decide +kernel
section
variable {X : ab_X} {f cl sl : Nat} {σ : ab_S} {Q : Option ab_V → ab_S → Prop} {L st : List ab_V} {a b z v i j n x1 x2 x3 x4 x5 x6 x7 x8 : Int} {l0 l1 l2 l3 l4 l5 l6 : ab_V}
theorem rL_law_1994 (h : 6 + 1 ≤ f ∧ 0 ≤ cl ∧ 0 ≤ sl) : ab_Run X 288 1994 (f, cl, sl) L (ab_I x3 :: ab_I x2 :: ab_I x1 :: ab_R a :: st) σ Q ↔ ((ab_sh σ a).1 = 14 ∧ ab_cats st ≤ 8) ∧ ab_Do X 275 [ab_R a, ab_I x1, ab_I x2, ab_I x3] σ (fun r σ' => ab_Run X 288 1997 (f, cl, sl) L (ab_psh r st) σ' Q) := ab_r_callV (w := [ab_I x3, ab_I x2, ab_I x1]) (as := [ab_I x1, ab_I x2, ab_I x3]) (b1 := (6, 0, 0)) 0 (Or.inl rfl) (by decide) ko_L_law qM_14_162 (by decide) rfl rfl rfl rfl rfl h (Nat.le_of_ble_eq_true rfl) kc_L_law dL_law_1994
theorem rL_law_1997 : ab_Run X 288 1997 (f, cl, sl) L (ab_I b :: ab_I a :: st) σ Q ↔ (a = b → ab_Run X 288 2374 (f, cl, sl) L st σ Q) ∧ (¬ (a = b) → ab_Run X 288 2000 (f, cl, sl) L st σ Q) := ab_r_icmp_eq rfl kc_L_law dL_law_1997
theorem rL_law_2000 : ab_Run X 288 2000 (f, cl, sl) L st σ Q ↔ ab_Run X 288 2001 (f, cl, sl) L (ab_I 0 :: st) σ Q := ab_r_iconst (by decide) kc_L_law dL_law_2000
theorem rL_law_2001 : ab_Run X 288 2001 (f, cl, sl) L [ab_I v] σ Q ↔ (v = 0 ∨ v = 1) ∧ Q (some (ab_I v)) σ := ab_r_ireturnZ rfl kc_L_law dL_law_2001
theorem rL_law_2002 : ab_Run X 288 2002 (f, cl, sl) [l0, ab_R z, l2, l3, l4, l5, l6] st σ Q ↔ z ≠ 0 ∧ ab_Run X 288 2003 (f, cl, sl) [l0, ab_R z, l2, l3, l4, l5, l6] (ab_R z :: st) σ Q := ab_r_aload_n rfl kc_L_law dL_law_2002
theorem rL_law_2003 : ab_Run X 288 2003 (f, cl, sl) [ab_R z, l1, l2, l3, l4, l5, l6] st σ Q ↔ z ≠ 0 ∧ ab_Run X 288 2004 (f, cl, sl) [ab_R z, l1, l2, l3, l4, l5, l6] (ab_R z :: st) σ Q := ab_r_aload_n rfl kc_L_law dL_law_2003
theorem rL_law_2004 : ab_Run X 288 2004 (f, cl, sl) [l0, l1, l2, l3, ab_I z, l5, l6] st σ Q ↔ ab_Run X 288 2006 (f, cl, sl) [l0, l1, l2, l3, ab_I z, l5, l6] (ab_I z :: st) σ Q := ab_r_iload rfl kc_L_law dL_law_2004
theorem rL_law_2006 : ab_Run X 288 2006 (f, cl, sl) L st σ Q ↔ ab_Run X 288 2007 (f, cl, sl) L (ab_I 1 :: st) σ Q := ab_r_iconst (by decide) kc_L_law dL_law_2006
theorem rL_law_2007 : ab_Run X 288 2007 (f, cl, sl) L (ab_I b :: ab_I a :: st) σ Q ↔ ab_Run X 288 2008 (f, cl, sl) L (ab_I (ab_w32 (a + b)) :: st) σ Q := ab_r_iadd kc_L_law dL_law_2007
theorem rL_law_2008 : ab_Run X 288 2008 (f, cl, sl) L (ab_I i :: ab_R a :: st) σ Q ↔ (a = -1 ∧ 0 ≤ i ∧ i < X.1) ∧ ab_Run X 288 2009 (f, cl, sl) L (ab_I (X.2 i) :: st) σ Q := ab_r_ialoadX rfl kc_L_law dL_law_2008
theorem rL_law_2009 : ab_Run X 288 2009 (f, cl, sl) [ab_R z, l1, l2, l3, l4, l5, l6] st σ Q ↔ z ≠ 0 ∧ ab_Run X 288 2010 (f, cl, sl) [ab_R z, l1, l2, l3, l4, l5, l6] (ab_R z :: st) σ Q := ab_r_aload_n rfl kc_L_law dL_law_2009
theorem rL_law_2010 : ab_Run X 288 2010 (f, cl, sl) [l0, l1, l2, l3, ab_I z, l5, l6] st σ Q ↔ ab_Run X 288 2012 (f, cl, sl) [l0, l1, l2, l3, ab_I z, l5, l6] (ab_I z :: st) σ Q := ab_r_iload rfl kc_L_law dL_law_2010
theorem rL_law_2012 : ab_Run X 288 2012 (f, cl, sl) L st σ Q ↔ ab_Run X 288 2013 (f, cl, sl) L (ab_I 2 :: st) σ Q := ab_r_iconst (by decide) kc_L_law dL_law_2012
theorem rL_law_2013 : ab_Run X 288 2013 (f, cl, sl) L (ab_I b :: ab_I a :: st) σ Q ↔ ab_Run X 288 2014 (f, cl, sl) L (ab_I (ab_w32 (a + b)) :: st) σ Q := ab_r_iadd kc_L_law dL_law_2013
theorem rL_law_2014 : ab_Run X 288 2014 (f, cl, sl) L (ab_I i :: ab_R a :: st) σ Q ↔ (a = -1 ∧ 0 ≤ i ∧ i < X.1) ∧ ab_Run X 288 2015 (f, cl, sl) L (ab_I (X.2 i) :: st) σ Q := ab_r_ialoadX rfl kc_L_law dL_law_2014
theorem rL_law_2015 : ab_Run X 288 2015 (f, cl, sl) [ab_R z, l1, l2, l3, l4, l5, l6] st σ Q ↔ z ≠ 0 ∧ ab_Run X 288 2016 (f, cl, sl) [ab_R z, l1, l2, l3, l4, l5, l6] (ab_R z :: st) σ Q := ab_r_aload_n rfl kc_L_law dL_law_2015
theorem rL_law_2016 : ab_Run X 288 2016 (f, cl, sl) [l0, l1, l2, l3, ab_I z, l5, l6] st σ Q ↔ ab_Run X 288 2018 (f, cl, sl) [l0, l1, l2, l3, ab_I z, l5, l6] (ab_I z :: st) σ Q := ab_r_iload rfl kc_L_law dL_law_2016
theorem rL_law_2018 : ab_Run X 288 2018 (f, cl, sl) L st σ Q ↔ ab_Run X 288 2019 (f, cl, sl) L (ab_I 3 :: st) σ Q := ab_r_iconst (by decide) kc_L_law dL_law_2018
theorem rL_law_2019 : ab_Run X 288 2019 (f, cl, sl) L (ab_I b :: ab_I a :: st) σ Q ↔ ab_Run X 288 2020 (f, cl, sl) L (ab_I (ab_w32 (a + b)) :: st) σ Q := ab_r_iadd kc_L_law dL_law_2019
theorem rL_law_2020 : ab_Run X 288 2020 (f, cl, sl) L (ab_I i :: ab_R a :: st) σ Q ↔ (a = -1 ∧ 0 ≤ i ∧ i < X.1) ∧ ab_Run X 288 2021 (f, cl, sl) L (ab_I (X.2 i) :: st) σ Q := ab_r_ialoadX rfl kc_L_law dL_law_2020
theorem rL_law_2021 : ab_Run X 288 2021 (f, cl, sl) L (ab_I a :: st) σ Q ↔ (a = 0 → ab_Run X 288 2028 (f, cl, sl) L st σ Q) ∧ (¬ (a = 0) → ab_Run X 288 2024 (f, cl, sl) L st σ Q) := ab_r_if_eq rfl kc_L_law dL_law_2021
theorem rL_law_2024 : ab_Run X 288 2024 (f, cl, sl) L st σ Q ↔ ab_Run X 288 2025 (f, cl, sl) L (ab_I 1 :: st) σ Q := ab_r_iconst (by decide) kc_L_law dL_law_2024
theorem rL_law_2025 : ab_Run X 288 2025 (f, cl, sl) L st σ Q ↔ ab_Run X 288 2029 (f, cl, sl) L st σ Q := ab_r_goto rfl kc_L_law dL_law_2025
theorem rL_law_2028 : ab_Run X 288 2028 (f, cl, sl) L st σ Q ↔ ab_Run X 288 2029 (f, cl, sl) L (ab_I 0 :: st) σ Q := ab_r_iconst (by decide) kc_L_law dL_law_2028
theorem rL_law_2029 (h : 6 + 1 ≤ f ∧ 0 ≤ cl ∧ 0 ≤ sl) : ab_Run X 288 2029 (f, cl, sl) L (ab_I x3 :: ab_I x2 :: ab_I x1 :: ab_R a :: st) σ Q ↔ ((ab_sh σ a).1 = 12 ∧ ab_cats st ≤ 8) ∧ ab_Do X 113 [ab_R a, ab_I x1, ab_I x2, ab_I x3] σ (fun r σ' => ab_Run X 288 2032 (f, cl, sl) L (ab_psh r st) σ' Q) := ab_r_callV (w := [ab_I x3, ab_I x2, ab_I x1]) (as := [ab_I x1, ab_I x2, ab_I x3]) (b1 := (6, 0, 0)) 0 (Or.inl rfl) (by decide) ko_L_law qM_14_163 (by decide) rfl rfl rfl rfl rfl h (Nat.le_of_ble_eq_true rfl) kc_L_law dL_law_2029
theorem rL_law_2032 : ab_Run X 288 2032 (f, cl, sl) [l0, l1, ab_R z, l3, l4, l5, l6] st σ Q ↔ z ≠ 0 ∧ ab_Run X 288 2033 (f, cl, sl) [l0, l1, ab_R z, l3, l4, l5, l6] (ab_R z :: st) σ Q := ab_r_aload_n rfl kc_L_law dL_law_2032
theorem rL_law_2033 : ab_Run X 288 2033 (f, cl, sl) [ab_R z, l1, l2, l3, l4, l5, l6] st σ Q ↔ z ≠ 0 ∧ ab_Run X 288 2034 (f, cl, sl) [ab_R z, l1, l2, l3, l4, l5, l6] (ab_R z :: st) σ Q := ab_r_aload_n rfl kc_L_law dL_law_2033
theorem rL_law_2034 : ab_Run X 288 2034 (f, cl, sl) [l0, l1, l2, l3, ab_I z, l5, l6] st σ Q ↔ ab_Run X 288 2036 (f, cl, sl) [l0, l1, l2, l3, ab_I z, l5, l6] (ab_I z :: st) σ Q := ab_r_iload rfl kc_L_law dL_law_2034
theorem rL_law_2036 : ab_Run X 288 2036 (f, cl, sl) L st σ Q ↔ ab_Run X 288 2037 (f, cl, sl) L (ab_I 1 :: st) σ Q := ab_r_iconst (by decide) kc_L_law dL_law_2036
theorem rL_law_2037 : ab_Run X 288 2037 (f, cl, sl) L (ab_I b :: ab_I a :: st) σ Q ↔ ab_Run X 288 2038 (f, cl, sl) L (ab_I (ab_w32 (a + b)) :: st) σ Q := ab_r_iadd kc_L_law dL_law_2037
theorem rL_law_2038 : ab_Run X 288 2038 (f, cl, sl) L (ab_I i :: ab_R a :: st) σ Q ↔ (a = -1 ∧ 0 ≤ i ∧ i < X.1) ∧ ab_Run X 288 2039 (f, cl, sl) L (ab_I (X.2 i) :: st) σ Q := ab_r_ialoadX rfl kc_L_law dL_law_2038
theorem rL_law_2039 : ab_Run X 288 2039 (f, cl, sl) [ab_R z, l1, l2, l3, l4, l5, l6] st σ Q ↔ z ≠ 0 ∧ ab_Run X 288 2040 (f, cl, sl) [ab_R z, l1, l2, l3, l4, l5, l6] (ab_R z :: st) σ Q := ab_r_aload_n rfl kc_L_law dL_law_2039
theorem rL_law_2040 : ab_Run X 288 2040 (f, cl, sl) [l0, l1, l2, l3, ab_I z, l5, l6] st σ Q ↔ ab_Run X 288 2042 (f, cl, sl) [l0, l1, l2, l3, ab_I z, l5, l6] (ab_I z :: st) σ Q := ab_r_iload rfl kc_L_law dL_law_2040
theorem rL_law_2042 : ab_Run X 288 2042 (f, cl, sl) L st σ Q ↔ ab_Run X 288 2043 (f, cl, sl) L (ab_I 2 :: st) σ Q := ab_r_iconst (by decide) kc_L_law dL_law_2042
theorem rL_law_2043 : ab_Run X 288 2043 (f, cl, sl) L (ab_I b :: ab_I a :: st) σ Q ↔ ab_Run X 288 2044 (f, cl, sl) L (ab_I (ab_w32 (a + b)) :: st) σ Q := ab_r_iadd kc_L_law dL_law_2043
theorem rL_law_2044 : ab_Run X 288 2044 (f, cl, sl) L (ab_I i :: ab_R a :: st) σ Q ↔ (a = -1 ∧ 0 ≤ i ∧ i < X.1) ∧ ab_Run X 288 2045 (f, cl, sl) L (ab_I (X.2 i) :: st) σ Q := ab_r_ialoadX rfl kc_L_law dL_law_2044
theorem rL_law_2045 : ab_Run X 288 2045 (f, cl, sl) [ab_R z, l1, l2, l3, l4, l5, l6] st σ Q ↔ z ≠ 0 ∧ ab_Run X 288 2046 (f, cl, sl) [ab_R z, l1, l2, l3, l4, l5, l6] (ab_R z :: st) σ Q := ab_r_aload_n rfl kc_L_law dL_law_2045
theorem rL_law_2046 : ab_Run X 288 2046 (f, cl, sl) [l0, l1, l2, l3, ab_I z, l5, l6] st σ Q ↔ ab_Run X 288 2048 (f, cl, sl) [l0, l1, l2, l3, ab_I z, l5, l6] (ab_I z :: st) σ Q := ab_r_iload rfl kc_L_law dL_law_2046
theorem rL_law_2048 : ab_Run X 288 2048 (f, cl, sl) L st σ Q ↔ ab_Run X 288 2049 (f, cl, sl) L (ab_I 3 :: st) σ Q := ab_r_iconst (by decide) kc_L_law dL_law_2048
theorem rL_law_2049 : ab_Run X 288 2049 (f, cl, sl) L (ab_I b :: ab_I a :: st) σ Q ↔ ab_Run X 288 2050 (f, cl, sl) L (ab_I (ab_w32 (a + b)) :: st) σ Q := ab_r_iadd kc_L_law dL_law_2049
theorem rL_law_2050 : ab_Run X 288 2050 (f, cl, sl) L (ab_I i :: ab_R a :: st) σ Q ↔ (a = -1 ∧ 0 ≤ i ∧ i < X.1) ∧ ab_Run X 288 2051 (f, cl, sl) L (ab_I (X.2 i) :: st) σ Q := ab_r_ialoadX rfl kc_L_law dL_law_2050
theorem rL_law_2051 : ab_Run X 288 2051 (f, cl, sl) L (ab_I a :: st) σ Q ↔ (a = 0 → ab_Run X 288 2058 (f, cl, sl) L st σ Q) ∧ (¬ (a = 0) → ab_Run X 288 2054 (f, cl, sl) L st σ Q) := ab_r_if_eq rfl kc_L_law dL_law_2051
theorem rL_law_2054 : ab_Run X 288 2054 (f, cl, sl) L st σ Q ↔ ab_Run X 288 2055 (f, cl, sl) L (ab_I 1 :: st) σ Q := ab_r_iconst (by decide) kc_L_law dL_law_2054
theorem rL_law_2055 : ab_Run X 288 2055 (f, cl, sl) L st σ Q ↔ ab_Run X 288 2059 (f, cl, sl) L st σ Q := ab_r_goto rfl kc_L_law dL_law_2055
theorem rL_law_2058 : ab_Run X 288 2058 (f, cl, sl) L st σ Q ↔ ab_Run X 288 2059 (f, cl, sl) L (ab_I 0 :: st) σ Q := ab_r_iconst (by decide) kc_L_law dL_law_2058
theorem rL_law_2059 (h : 6 + 1 ≤ f ∧ 0 ≤ cl ∧ 0 ≤ sl) : ab_Run X 288 2059 (f, cl, sl) L (ab_I x3 :: ab_I x2 :: ab_I x1 :: ab_R a :: st) σ Q ↔ ((ab_sh σ a).1 = 14 ∧ ab_cats st ≤ 8) ∧ ab_Do X 276 [ab_R a, ab_I x1, ab_I x2, ab_I x3] σ (fun r σ' => ab_Run X 288 2062 (f, cl, sl) L (ab_psh r st) σ' Q) := ab_r_callV (w := [ab_I x3, ab_I x2, ab_I x1]) (as := [ab_I x1, ab_I x2, ab_I x3]) (b1 := (6, 0, 0)) 0 (Or.inl rfl) (by decide) ko_L_law qM_14_167 (by decide) rfl rfl rfl rfl rfl h (Nat.le_of_ble_eq_true rfl) kc_L_law dL_law_2059
theorem rL_law_2062 : ab_Run X 288 2062 (f, cl, sl) L (ab_I b :: ab_I a :: st) σ Q ↔ (a = b → ab_Run X 288 2374 (f, cl, sl) L st σ Q) ∧ (¬ (a = b) → ab_Run X 288 2065 (f, cl, sl) L st σ Q) := ab_r_icmp_eq rfl kc_L_law dL_law_2062
theorem rL_law_2065 : ab_Run X 288 2065 (f, cl, sl) L st σ Q ↔ ab_Run X 288 2066 (f, cl, sl) L (ab_I 0 :: st) σ Q := ab_r_iconst (by decide) kc_L_law dL_law_2065
theorem rL_law_2066 : ab_Run X 288 2066 (f, cl, sl) L [ab_I v] σ Q ↔ (v = 0 ∨ v = 1) ∧ Q (some (ab_I v)) σ := ab_r_ireturnZ rfl kc_L_law dL_law_2066
theorem rL_law_2067 : ab_Run X 288 2067 (f, cl, sl) [l0, ab_R z, l2, l3, l4, l5, l6] st σ Q ↔ z ≠ 0 ∧ ab_Run X 288 2068 (f, cl, sl) [l0, ab_R z, l2, l3, l4, l5, l6] (ab_R z :: st) σ Q := ab_r_aload_n rfl kc_L_law dL_law_2067
theorem rL_law_2068 : ab_Run X 288 2068 (f, cl, sl) [ab_R z, l1, l2, l3, l4, l5, l6] st σ Q ↔ z ≠ 0 ∧ ab_Run X 288 2069 (f, cl, sl) [ab_R z, l1, l2, l3, l4, l5, l6] (ab_R z :: st) σ Q := ab_r_aload_n rfl kc_L_law dL_law_2068
theorem rL_law_2069 : ab_Run X 288 2069 (f, cl, sl) [l0, l1, l2, l3, ab_I z, l5, l6] st σ Q ↔ ab_Run X 288 2071 (f, cl, sl) [l0, l1, l2, l3, ab_I z, l5, l6] (ab_I z :: st) σ Q := ab_r_iload rfl kc_L_law dL_law_2069
theorem rL_law_2071 : ab_Run X 288 2071 (f, cl, sl) L st σ Q ↔ ab_Run X 288 2072 (f, cl, sl) L (ab_I 1 :: st) σ Q := ab_r_iconst (by decide) kc_L_law dL_law_2071
theorem rL_law_2072 : ab_Run X 288 2072 (f, cl, sl) L (ab_I b :: ab_I a :: st) σ Q ↔ ab_Run X 288 2073 (f, cl, sl) L (ab_I (ab_w32 (a + b)) :: st) σ Q := ab_r_iadd kc_L_law dL_law_2072
theorem rL_law_2073 : ab_Run X 288 2073 (f, cl, sl) L (ab_I i :: ab_R a :: st) σ Q ↔ (a = -1 ∧ 0 ≤ i ∧ i < X.1) ∧ ab_Run X 288 2074 (f, cl, sl) L (ab_I (X.2 i) :: st) σ Q := ab_r_ialoadX rfl kc_L_law dL_law_2073
theorem rL_law_2074 (h : 2 + 1 ≤ f ∧ 0 ≤ cl ∧ 0 ≤ sl) : ab_Run X 288 2074 (f, cl, sl) L (ab_I x1 :: ab_R a :: st) σ Q ↔ ((ab_sh σ a).1 = 12 ∧ ab_cats st ≤ 8) ∧ ab_Do X 114 [ab_R a, ab_I x1] σ (fun r σ' => ab_Run X 288 2077 (f, cl, sl) L (ab_psh r st) σ' Q) := ab_r_callV (w := [ab_I x1]) (as := [ab_I x1]) (b1 := (2, 0, 0)) 0 (Or.inl rfl) (by decide) ko_L_law qM_14_168 (by decide) rfl rfl rfl rfl rfl h (Nat.le_of_ble_eq_true rfl) kc_L_law dL_law_2074
theorem rL_law_2077 : ab_Run X 288 2077 (f, cl, sl) [l0, l1, ab_R z, l3, l4, l5, l6] st σ Q ↔ z ≠ 0 ∧ ab_Run X 288 2078 (f, cl, sl) [l0, l1, ab_R z, l3, l4, l5, l6] (ab_R z :: st) σ Q := ab_r_aload_n rfl kc_L_law dL_law_2077
theorem rL_law_2078 : ab_Run X 288 2078 (f, cl, sl) [ab_R z, l1, l2, l3, l4, l5, l6] st σ Q ↔ z ≠ 0 ∧ ab_Run X 288 2079 (f, cl, sl) [ab_R z, l1, l2, l3, l4, l5, l6] (ab_R z :: st) σ Q := ab_r_aload_n rfl kc_L_law dL_law_2078
theorem rL_law_2079 : ab_Run X 288 2079 (f, cl, sl) [l0, l1, l2, l3, ab_I z, l5, l6] st σ Q ↔ ab_Run X 288 2081 (f, cl, sl) [l0, l1, l2, l3, ab_I z, l5, l6] (ab_I z :: st) σ Q := ab_r_iload rfl kc_L_law dL_law_2079
theorem rL_law_2081 : ab_Run X 288 2081 (f, cl, sl) L st σ Q ↔ ab_Run X 288 2082 (f, cl, sl) L (ab_I 1 :: st) σ Q := ab_r_iconst (by decide) kc_L_law dL_law_2081
theorem rL_law_2082 : ab_Run X 288 2082 (f, cl, sl) L (ab_I b :: ab_I a :: st) σ Q ↔ ab_Run X 288 2083 (f, cl, sl) L (ab_I (ab_w32 (a + b)) :: st) σ Q := ab_r_iadd kc_L_law dL_law_2082
theorem rL_law_2083 : ab_Run X 288 2083 (f, cl, sl) L (ab_I i :: ab_R a :: st) σ Q ↔ (a = -1 ∧ 0 ≤ i ∧ i < X.1) ∧ ab_Run X 288 2084 (f, cl, sl) L (ab_I (X.2 i) :: st) σ Q := ab_r_ialoadX rfl kc_L_law dL_law_2083
theorem rL_law_2084 (h : 2 + 1 ≤ f ∧ 0 ≤ cl ∧ 0 ≤ sl) : ab_Run X 288 2084 (f, cl, sl) L (ab_I x1 :: ab_R a :: st) σ Q ↔ ((ab_sh σ a).1 = 14 ∧ ab_cats st ≤ 8) ∧ ab_Do X 278 [ab_R a, ab_I x1] σ (fun r σ' => ab_Run X 288 2087 (f, cl, sl) L (ab_psh r st) σ' Q) := ab_r_callV (w := [ab_I x1]) (as := [ab_I x1]) (b1 := (2, 0, 0)) 0 (Or.inl rfl) (by decide) ko_L_law qM_14_172 (by decide) rfl rfl rfl rfl rfl h (Nat.le_of_ble_eq_true rfl) kc_L_law dL_law_2084
theorem rL_law_2087 : ab_Run X 288 2087 (f, cl, sl) L (ab_I b :: ab_I a :: st) σ Q ↔ (a = b → ab_Run X 288 2374 (f, cl, sl) L st σ Q) ∧ (¬ (a = b) → ab_Run X 288 2090 (f, cl, sl) L st σ Q) := ab_r_icmp_eq rfl kc_L_law dL_law_2087
theorem rL_law_2090 : ab_Run X 288 2090 (f, cl, sl) L st σ Q ↔ ab_Run X 288 2091 (f, cl, sl) L (ab_I 0 :: st) σ Q := ab_r_iconst (by decide) kc_L_law dL_law_2090
theorem rL_law_2091 : ab_Run X 288 2091 (f, cl, sl) L [ab_I v] σ Q ↔ (v = 0 ∨ v = 1) ∧ Q (some (ab_I v)) σ := ab_r_ireturnZ rfl kc_L_law dL_law_2091
theorem rL_law_2092 : ab_Run X 288 2092 (f, cl, sl) [l0, ab_R z, l2, l3, l4, l5, l6] st σ Q ↔ z ≠ 0 ∧ ab_Run X 288 2093 (f, cl, sl) [l0, ab_R z, l2, l3, l4, l5, l6] (ab_R z :: st) σ Q := ab_r_aload_n rfl kc_L_law dL_law_2092
theorem rL_law_2093 : ab_Run X 288 2093 (f, cl, sl) [ab_R z, l1, l2, l3, l4, l5, l6] st σ Q ↔ z ≠ 0 ∧ ab_Run X 288 2094 (f, cl, sl) [ab_R z, l1, l2, l3, l4, l5, l6] (ab_R z :: st) σ Q := ab_r_aload_n rfl kc_L_law dL_law_2093
theorem rL_law_2094 : ab_Run X 288 2094 (f, cl, sl) [l0, l1, l2, l3, ab_I z, l5, l6] st σ Q ↔ ab_Run X 288 2096 (f, cl, sl) [l0, l1, l2, l3, ab_I z, l5, l6] (ab_I z :: st) σ Q := ab_r_iload rfl kc_L_law dL_law_2094
theorem rL_law_2096 : ab_Run X 288 2096 (f, cl, sl) L st σ Q ↔ ab_Run X 288 2097 (f, cl, sl) L (ab_I 1 :: st) σ Q := ab_r_iconst (by decide) kc_L_law dL_law_2096
theorem rL_law_2097 : ab_Run X 288 2097 (f, cl, sl) L (ab_I b :: ab_I a :: st) σ Q ↔ ab_Run X 288 2098 (f, cl, sl) L (ab_I (ab_w32 (a + b)) :: st) σ Q := ab_r_iadd kc_L_law dL_law_2097
theorem rL_law_2098 : ab_Run X 288 2098 (f, cl, sl) L (ab_I i :: ab_R a :: st) σ Q ↔ (a = -1 ∧ 0 ≤ i ∧ i < X.1) ∧ ab_Run X 288 2099 (f, cl, sl) L (ab_I (X.2 i) :: st) σ Q := ab_r_ialoadX rfl kc_L_law dL_law_2098
theorem rL_law_2099 (h : 2 + 1 ≤ f ∧ 0 ≤ cl ∧ 0 ≤ sl) : ab_Run X 288 2099 (f, cl, sl) L (ab_I x1 :: ab_R a :: st) σ Q ↔ ((ab_sh σ a).1 = 12 ∧ ab_cats st ≤ 8) ∧ ab_Do X 115 [ab_R a, ab_I x1] σ (fun r σ' => ab_Run X 288 2102 (f, cl, sl) L (ab_psh r st) σ' Q) := ab_r_callV (w := [ab_I x1]) (as := [ab_I x1]) (b1 := (2, 0, 0)) 0 (Or.inl rfl) (by decide) ko_L_law qM_14_173 (by decide) rfl rfl rfl rfl rfl h (Nat.le_of_ble_eq_true rfl) kc_L_law dL_law_2099
theorem rL_law_2102 : ab_Run X 288 2102 (f, cl, sl) [l0, l1, ab_R z, l3, l4, l5, l6] st σ Q ↔ z ≠ 0 ∧ ab_Run X 288 2103 (f, cl, sl) [l0, l1, ab_R z, l3, l4, l5, l6] (ab_R z :: st) σ Q := ab_r_aload_n rfl kc_L_law dL_law_2102
theorem rL_law_2103 : ab_Run X 288 2103 (f, cl, sl) [ab_R z, l1, l2, l3, l4, l5, l6] st σ Q ↔ z ≠ 0 ∧ ab_Run X 288 2104 (f, cl, sl) [ab_R z, l1, l2, l3, l4, l5, l6] (ab_R z :: st) σ Q := ab_r_aload_n rfl kc_L_law dL_law_2103
theorem rL_law_2104 : ab_Run X 288 2104 (f, cl, sl) [l0, l1, l2, l3, ab_I z, l5, l6] st σ Q ↔ ab_Run X 288 2106 (f, cl, sl) [l0, l1, l2, l3, ab_I z, l5, l6] (ab_I z :: st) σ Q := ab_r_iload rfl kc_L_law dL_law_2104
theorem rL_law_2106 : ab_Run X 288 2106 (f, cl, sl) L st σ Q ↔ ab_Run X 288 2107 (f, cl, sl) L (ab_I 1 :: st) σ Q := ab_r_iconst (by decide) kc_L_law dL_law_2106
theorem rL_law_2107 : ab_Run X 288 2107 (f, cl, sl) L (ab_I b :: ab_I a :: st) σ Q ↔ ab_Run X 288 2108 (f, cl, sl) L (ab_I (ab_w32 (a + b)) :: st) σ Q := ab_r_iadd kc_L_law dL_law_2107
theorem rL_law_2108 : ab_Run X 288 2108 (f, cl, sl) L (ab_I i :: ab_R a :: st) σ Q ↔ (a = -1 ∧ 0 ≤ i ∧ i < X.1) ∧ ab_Run X 288 2109 (f, cl, sl) L (ab_I (X.2 i) :: st) σ Q := ab_r_ialoadX rfl kc_L_law dL_law_2108
theorem rL_law_2109 (h : 2 + 1 ≤ f ∧ 0 ≤ cl ∧ 0 ≤ sl) : ab_Run X 288 2109 (f, cl, sl) L (ab_I x1 :: ab_R a :: st) σ Q ↔ ((ab_sh σ a).1 = 14 ∧ ab_cats st ≤ 8) ∧ ab_Do X 279 [ab_R a, ab_I x1] σ (fun r σ' => ab_Run X 288 2112 (f, cl, sl) L (ab_psh r st) σ' Q) := ab_r_callV (w := [ab_I x1]) (as := [ab_I x1]) (b1 := (2, 0, 0)) 0 (Or.inl rfl) (by decide) ko_L_law qM_14_176 (by decide) rfl rfl rfl rfl rfl h (Nat.le_of_ble_eq_true rfl) kc_L_law dL_law_2109
theorem rL_law_2112 : ab_Run X 288 2112 (f, cl, sl) L (ab_I b :: ab_I a :: st) σ Q ↔ (a = b → ab_Run X 288 2374 (f, cl, sl) L st σ Q) ∧ (¬ (a = b) → ab_Run X 288 2115 (f, cl, sl) L st σ Q) := ab_r_icmp_eq rfl kc_L_law dL_law_2112
theorem rL_law_2115 : ab_Run X 288 2115 (f, cl, sl) L st σ Q ↔ ab_Run X 288 2116 (f, cl, sl) L (ab_I 0 :: st) σ Q := ab_r_iconst (by decide) kc_L_law dL_law_2115
theorem rL_law_2116 : ab_Run X 288 2116 (f, cl, sl) L [ab_I v] σ Q ↔ (v = 0 ∨ v = 1) ∧ Q (some (ab_I v)) σ := ab_r_ireturnZ rfl kc_L_law dL_law_2116
theorem rL_law_2117 : ab_Run X 288 2117 (f, cl, sl) [l0, ab_R z, l2, l3, l4, l5, l6] st σ Q ↔ z ≠ 0 ∧ ab_Run X 288 2118 (f, cl, sl) [l0, ab_R z, l2, l3, l4, l5, l6] (ab_R z :: st) σ Q := ab_r_aload_n rfl kc_L_law dL_law_2117
theorem rL_law_2118 : ab_Run X 288 2118 (f, cl, sl) [ab_R z, l1, l2, l3, l4, l5, l6] st σ Q ↔ z ≠ 0 ∧ ab_Run X 288 2119 (f, cl, sl) [ab_R z, l1, l2, l3, l4, l5, l6] (ab_R z :: st) σ Q := ab_r_aload_n rfl kc_L_law dL_law_2118
theorem rL_law_2119 : ab_Run X 288 2119 (f, cl, sl) [l0, l1, l2, l3, ab_I z, l5, l6] st σ Q ↔ ab_Run X 288 2121 (f, cl, sl) [l0, l1, l2, l3, ab_I z, l5, l6] (ab_I z :: st) σ Q := ab_r_iload rfl kc_L_law dL_law_2119
theorem rL_law_2121 : ab_Run X 288 2121 (f, cl, sl) L st σ Q ↔ ab_Run X 288 2122 (f, cl, sl) L (ab_I 1 :: st) σ Q := ab_r_iconst (by decide) kc_L_law dL_law_2121
theorem rL_law_2122 : ab_Run X 288 2122 (f, cl, sl) L (ab_I b :: ab_I a :: st) σ Q ↔ ab_Run X 288 2123 (f, cl, sl) L (ab_I (ab_w32 (a + b)) :: st) σ Q := ab_r_iadd kc_L_law dL_law_2122
theorem rL_law_2123 : ab_Run X 288 2123 (f, cl, sl) L (ab_I i :: ab_R a :: st) σ Q ↔ (a = -1 ∧ 0 ≤ i ∧ i < X.1) ∧ ab_Run X 288 2124 (f, cl, sl) L (ab_I (X.2 i) :: st) σ Q := ab_r_ialoadX rfl kc_L_law dL_law_2123
theorem rL_law_2124 : ab_Run X 288 2124 (f, cl, sl) [ab_R z, l1, l2, l3, l4, l5, l6] st σ Q ↔ z ≠ 0 ∧ ab_Run X 288 2125 (f, cl, sl) [ab_R z, l1, l2, l3, l4, l5, l6] (ab_R z :: st) σ Q := ab_r_aload_n rfl kc_L_law dL_law_2124
theorem rL_law_2125 : ab_Run X 288 2125 (f, cl, sl) [l0, l1, l2, l3, ab_I z, l5, l6] st σ Q ↔ ab_Run X 288 2127 (f, cl, sl) [l0, l1, l2, l3, ab_I z, l5, l6] (ab_I z :: st) σ Q := ab_r_iload rfl kc_L_law dL_law_2125
theorem rL_law_2127 : ab_Run X 288 2127 (f, cl, sl) L st σ Q ↔ ab_Run X 288 2128 (f, cl, sl) L (ab_I 2 :: st) σ Q := ab_r_iconst (by decide) kc_L_law dL_law_2127
theorem rL_law_2128 : ab_Run X 288 2128 (f, cl, sl) L (ab_I b :: ab_I a :: st) σ Q ↔ ab_Run X 288 2129 (f, cl, sl) L (ab_I (ab_w32 (a + b)) :: st) σ Q := ab_r_iadd kc_L_law dL_law_2128
theorem rL_law_2129 : ab_Run X 288 2129 (f, cl, sl) L (ab_I i :: ab_R a :: st) σ Q ↔ (a = -1 ∧ 0 ≤ i ∧ i < X.1) ∧ ab_Run X 288 2130 (f, cl, sl) L (ab_I (X.2 i) :: st) σ Q := ab_r_ialoadX rfl kc_L_law dL_law_2129
theorem rL_law_2130 : ab_Run X 288 2130 (f, cl, sl) [ab_R z, l1, l2, l3, l4, l5, l6] st σ Q ↔ z ≠ 0 ∧ ab_Run X 288 2131 (f, cl, sl) [ab_R z, l1, l2, l3, l4, l5, l6] (ab_R z :: st) σ Q := ab_r_aload_n rfl kc_L_law dL_law_2130
theorem rL_law_2131 : ab_Run X 288 2131 (f, cl, sl) [l0, l1, l2, l3, ab_I z, l5, l6] st σ Q ↔ ab_Run X 288 2133 (f, cl, sl) [l0, l1, l2, l3, ab_I z, l5, l6] (ab_I z :: st) σ Q := ab_r_iload rfl kc_L_law dL_law_2131
theorem rL_law_2133 : ab_Run X 288 2133 (f, cl, sl) L st σ Q ↔ ab_Run X 288 2134 (f, cl, sl) L (ab_I 3 :: st) σ Q := ab_r_iconst (by decide) kc_L_law dL_law_2133
theorem rL_law_2134 : ab_Run X 288 2134 (f, cl, sl) L (ab_I b :: ab_I a :: st) σ Q ↔ ab_Run X 288 2135 (f, cl, sl) L (ab_I (ab_w32 (a + b)) :: st) σ Q := ab_r_iadd kc_L_law dL_law_2134
theorem rL_law_2135 : ab_Run X 288 2135 (f, cl, sl) L (ab_I i :: ab_R a :: st) σ Q ↔ (a = -1 ∧ 0 ≤ i ∧ i < X.1) ∧ ab_Run X 288 2136 (f, cl, sl) L (ab_I (X.2 i) :: st) σ Q := ab_r_ialoadX rfl kc_L_law dL_law_2135
theorem rL_law_2136 : ab_Run X 288 2136 (f, cl, sl) [ab_R z, l1, l2, l3, l4, l5, l6] st σ Q ↔ z ≠ 0 ∧ ab_Run X 288 2137 (f, cl, sl) [ab_R z, l1, l2, l3, l4, l5, l6] (ab_R z :: st) σ Q := ab_r_aload_n rfl kc_L_law dL_law_2136
theorem rL_law_2137 : ab_Run X 288 2137 (f, cl, sl) [l0, l1, l2, l3, ab_I z, l5, l6] st σ Q ↔ ab_Run X 288 2139 (f, cl, sl) [l0, l1, l2, l3, ab_I z, l5, l6] (ab_I z :: st) σ Q := ab_r_iload rfl kc_L_law dL_law_2137
theorem rL_law_2139 : ab_Run X 288 2139 (f, cl, sl) L st σ Q ↔ ab_Run X 288 2140 (f, cl, sl) L (ab_I 4 :: st) σ Q := ab_r_iconst (by decide) kc_L_law dL_law_2139
theorem rL_law_2140 : ab_Run X 288 2140 (f, cl, sl) L (ab_I b :: ab_I a :: st) σ Q ↔ ab_Run X 288 2141 (f, cl, sl) L (ab_I (ab_w32 (a + b)) :: st) σ Q := ab_r_iadd kc_L_law dL_law_2140
theorem rL_law_2141 : ab_Run X 288 2141 (f, cl, sl) L (ab_I i :: ab_R a :: st) σ Q ↔ (a = -1 ∧ 0 ≤ i ∧ i < X.1) ∧ ab_Run X 288 2142 (f, cl, sl) L (ab_I (X.2 i) :: st) σ Q := ab_r_ialoadX rfl kc_L_law dL_law_2141
theorem rL_law_2142 : ab_Run X 288 2142 (f, cl, sl) [ab_R z, l1, l2, l3, l4, l5, l6] st σ Q ↔ z ≠ 0 ∧ ab_Run X 288 2143 (f, cl, sl) [ab_R z, l1, l2, l3, l4, l5, l6] (ab_R z :: st) σ Q := ab_r_aload_n rfl kc_L_law dL_law_2142
theorem rL_law_2143 : ab_Run X 288 2143 (f, cl, sl) [l0, l1, l2, l3, ab_I z, l5, l6] st σ Q ↔ ab_Run X 288 2145 (f, cl, sl) [l0, l1, l2, l3, ab_I z, l5, l6] (ab_I z :: st) σ Q := ab_r_iload rfl kc_L_law dL_law_2143
theorem rL_law_2145 : ab_Run X 288 2145 (f, cl, sl) L st σ Q ↔ ab_Run X 288 2146 (f, cl, sl) L (ab_I 5 :: st) σ Q := ab_r_iconst (by decide) kc_L_law dL_law_2145
theorem rL_law_2146 : ab_Run X 288 2146 (f, cl, sl) L (ab_I b :: ab_I a :: st) σ Q ↔ ab_Run X 288 2147 (f, cl, sl) L (ab_I (ab_w32 (a + b)) :: st) σ Q := ab_r_iadd kc_L_law dL_law_2146
theorem rL_law_2147 : ab_Run X 288 2147 (f, cl, sl) L (ab_I i :: ab_R a :: st) σ Q ↔ (a = -1 ∧ 0 ≤ i ∧ i < X.1) ∧ ab_Run X 288 2148 (f, cl, sl) L (ab_I (X.2 i) :: st) σ Q := ab_r_ialoadX rfl kc_L_law dL_law_2147
theorem rL_law_2148 : ab_Run X 288 2148 (f, cl, sl) [ab_R z, l1, l2, l3, l4, l5, l6] st σ Q ↔ z ≠ 0 ∧ ab_Run X 288 2149 (f, cl, sl) [ab_R z, l1, l2, l3, l4, l5, l6] (ab_R z :: st) σ Q := ab_r_aload_n rfl kc_L_law dL_law_2148
theorem rL_law_2149 : ab_Run X 288 2149 (f, cl, sl) [l0, l1, l2, l3, ab_I z, l5, l6] st σ Q ↔ ab_Run X 288 2151 (f, cl, sl) [l0, l1, l2, l3, ab_I z, l5, l6] (ab_I z :: st) σ Q := ab_r_iload rfl kc_L_law dL_law_2149
theorem rL_law_2151 : ab_Run X 288 2151 (f, cl, sl) L st σ Q ↔ ab_Run X 288 2153 (f, cl, sl) L (ab_I 6 :: st) σ Q := ab_r_bipush (by decide) kc_L_law dL_law_2151
theorem rL_law_2153 : ab_Run X 288 2153 (f, cl, sl) L (ab_I b :: ab_I a :: st) σ Q ↔ ab_Run X 288 2154 (f, cl, sl) L (ab_I (ab_w32 (a + b)) :: st) σ Q := ab_r_iadd kc_L_law dL_law_2153
theorem rL_law_2154 : ab_Run X 288 2154 (f, cl, sl) L (ab_I i :: ab_R a :: st) σ Q ↔ (a = -1 ∧ 0 ≤ i ∧ i < X.1) ∧ ab_Run X 288 2155 (f, cl, sl) L (ab_I (X.2 i) :: st) σ Q := ab_r_ialoadX rfl kc_L_law dL_law_2154
theorem rL_law_2155 (h : 4 + 1 ≤ f ∧ 0 ≤ cl ∧ 0 ≤ sl) : ab_Run X 288 2155 (f, cl, sl) L (ab_I x6 :: ab_I x5 :: ab_I x4 :: ab_I x3 :: ab_I x2 :: ab_I x1 :: ab_R a :: st) σ Q ↔ ((ab_sh σ a).1 = 12 ∧ ab_cats st ≤ 8) ∧ ab_Do X 116 [ab_R a, ab_I x1, ab_I x2, ab_I x3, ab_I x4, ab_I x5, ab_I x6] σ (fun r σ' => ab_Run X 288 2158 (f, cl, sl) L (ab_psh r st) σ' Q) := ab_r_callV (w := [ab_I x6, ab_I x5, ab_I x4, ab_I x3, ab_I x2, ab_I x1]) (as := [ab_I x1, ab_I x2, ab_I x3, ab_I x4, ab_I x5, ab_I x6]) (b1 := (4, 0, 0)) 0 (Or.inl rfl) (by decide) ko_L_law qM_14_177 (by decide) rfl rfl rfl rfl rfl h (Nat.le_of_ble_eq_true rfl) kc_L_law dL_law_2155
theorem rL_law_2158 : ab_Run X 288 2158 (f, cl, sl) [l0, l1, ab_R z, l3, l4, l5, l6] st σ Q ↔ z ≠ 0 ∧ ab_Run X 288 2159 (f, cl, sl) [l0, l1, ab_R z, l3, l4, l5, l6] (ab_R z :: st) σ Q := ab_r_aload_n rfl kc_L_law dL_law_2158
theorem rL_law_2159 : ab_Run X 288 2159 (f, cl, sl) [ab_R z, l1, l2, l3, l4, l5, l6] st σ Q ↔ z ≠ 0 ∧ ab_Run X 288 2160 (f, cl, sl) [ab_R z, l1, l2, l3, l4, l5, l6] (ab_R z :: st) σ Q := ab_r_aload_n rfl kc_L_law dL_law_2159
theorem rL_law_2160 : ab_Run X 288 2160 (f, cl, sl) [l0, l1, l2, l3, ab_I z, l5, l6] st σ Q ↔ ab_Run X 288 2162 (f, cl, sl) [l0, l1, l2, l3, ab_I z, l5, l6] (ab_I z :: st) σ Q := ab_r_iload rfl kc_L_law dL_law_2160
theorem rL_law_2162 : ab_Run X 288 2162 (f, cl, sl) L st σ Q ↔ ab_Run X 288 2163 (f, cl, sl) L (ab_I 1 :: st) σ Q := ab_r_iconst (by decide) kc_L_law dL_law_2162
theorem rL_law_2163 : ab_Run X 288 2163 (f, cl, sl) L (ab_I b :: ab_I a :: st) σ Q ↔ ab_Run X 288 2164 (f, cl, sl) L (ab_I (ab_w32 (a + b)) :: st) σ Q := ab_r_iadd kc_L_law dL_law_2163
theorem rL_law_2164 : ab_Run X 288 2164 (f, cl, sl) L (ab_I i :: ab_R a :: st) σ Q ↔ (a = -1 ∧ 0 ≤ i ∧ i < X.1) ∧ ab_Run X 288 2165 (f, cl, sl) L (ab_I (X.2 i) :: st) σ Q := ab_r_ialoadX rfl kc_L_law dL_law_2164
theorem rL_law_2165 : ab_Run X 288 2165 (f, cl, sl) [ab_R z, l1, l2, l3, l4, l5, l6] st σ Q ↔ z ≠ 0 ∧ ab_Run X 288 2166 (f, cl, sl) [ab_R z, l1, l2, l3, l4, l5, l6] (ab_R z :: st) σ Q := ab_r_aload_n rfl kc_L_law dL_law_2165
theorem rL_law_2166 : ab_Run X 288 2166 (f, cl, sl) [l0, l1, l2, l3, ab_I z, l5, l6] st σ Q ↔ ab_Run X 288 2168 (f, cl, sl) [l0, l1, l2, l3, ab_I z, l5, l6] (ab_I z :: st) σ Q := ab_r_iload rfl kc_L_law dL_law_2166
theorem rL_law_2168 : ab_Run X 288 2168 (f, cl, sl) L st σ Q ↔ ab_Run X 288 2169 (f, cl, sl) L (ab_I 2 :: st) σ Q := ab_r_iconst (by decide) kc_L_law dL_law_2168
theorem rL_law_2169 : ab_Run X 288 2169 (f, cl, sl) L (ab_I b :: ab_I a :: st) σ Q ↔ ab_Run X 288 2170 (f, cl, sl) L (ab_I (ab_w32 (a + b)) :: st) σ Q := ab_r_iadd kc_L_law dL_law_2169
theorem rL_law_2170 : ab_Run X 288 2170 (f, cl, sl) L (ab_I i :: ab_R a :: st) σ Q ↔ (a = -1 ∧ 0 ≤ i ∧ i < X.1) ∧ ab_Run X 288 2171 (f, cl, sl) L (ab_I (X.2 i) :: st) σ Q := ab_r_ialoadX rfl kc_L_law dL_law_2170
theorem rL_law_2171 : ab_Run X 288 2171 (f, cl, sl) [ab_R z, l1, l2, l3, l4, l5, l6] st σ Q ↔ z ≠ 0 ∧ ab_Run X 288 2172 (f, cl, sl) [ab_R z, l1, l2, l3, l4, l5, l6] (ab_R z :: st) σ Q := ab_r_aload_n rfl kc_L_law dL_law_2171
theorem rL_law_2172 : ab_Run X 288 2172 (f, cl, sl) [l0, l1, l2, l3, ab_I z, l5, l6] st σ Q ↔ ab_Run X 288 2174 (f, cl, sl) [l0, l1, l2, l3, ab_I z, l5, l6] (ab_I z :: st) σ Q := ab_r_iload rfl kc_L_law dL_law_2172
theorem rL_law_2174 : ab_Run X 288 2174 (f, cl, sl) L st σ Q ↔ ab_Run X 288 2175 (f, cl, sl) L (ab_I 3 :: st) σ Q := ab_r_iconst (by decide) kc_L_law dL_law_2174
theorem rL_law_2175 : ab_Run X 288 2175 (f, cl, sl) L (ab_I b :: ab_I a :: st) σ Q ↔ ab_Run X 288 2176 (f, cl, sl) L (ab_I (ab_w32 (a + b)) :: st) σ Q := ab_r_iadd kc_L_law dL_law_2175
theorem rL_law_2176 : ab_Run X 288 2176 (f, cl, sl) L (ab_I i :: ab_R a :: st) σ Q ↔ (a = -1 ∧ 0 ≤ i ∧ i < X.1) ∧ ab_Run X 288 2177 (f, cl, sl) L (ab_I (X.2 i) :: st) σ Q := ab_r_ialoadX rfl kc_L_law dL_law_2176
theorem rL_law_2177 : ab_Run X 288 2177 (f, cl, sl) [ab_R z, l1, l2, l3, l4, l5, l6] st σ Q ↔ z ≠ 0 ∧ ab_Run X 288 2178 (f, cl, sl) [ab_R z, l1, l2, l3, l4, l5, l6] (ab_R z :: st) σ Q := ab_r_aload_n rfl kc_L_law dL_law_2177
theorem rL_law_2178 : ab_Run X 288 2178 (f, cl, sl) [l0, l1, l2, l3, ab_I z, l5, l6] st σ Q ↔ ab_Run X 288 2180 (f, cl, sl) [l0, l1, l2, l3, ab_I z, l5, l6] (ab_I z :: st) σ Q := ab_r_iload rfl kc_L_law dL_law_2178
theorem rL_law_2180 : ab_Run X 288 2180 (f, cl, sl) L st σ Q ↔ ab_Run X 288 2181 (f, cl, sl) L (ab_I 4 :: st) σ Q := ab_r_iconst (by decide) kc_L_law dL_law_2180
theorem rL_law_2181 : ab_Run X 288 2181 (f, cl, sl) L (ab_I b :: ab_I a :: st) σ Q ↔ ab_Run X 288 2182 (f, cl, sl) L (ab_I (ab_w32 (a + b)) :: st) σ Q := ab_r_iadd kc_L_law dL_law_2181
theorem rL_law_2182 : ab_Run X 288 2182 (f, cl, sl) L (ab_I i :: ab_R a :: st) σ Q ↔ (a = -1 ∧ 0 ≤ i ∧ i < X.1) ∧ ab_Run X 288 2183 (f, cl, sl) L (ab_I (X.2 i) :: st) σ Q := ab_r_ialoadX rfl kc_L_law dL_law_2182
theorem rL_law_2183 : ab_Run X 288 2183 (f, cl, sl) [ab_R z, l1, l2, l3, l4, l5, l6] st σ Q ↔ z ≠ 0 ∧ ab_Run X 288 2184 (f, cl, sl) [ab_R z, l1, l2, l3, l4, l5, l6] (ab_R z :: st) σ Q := ab_r_aload_n rfl kc_L_law dL_law_2183
theorem rL_law_2184 : ab_Run X 288 2184 (f, cl, sl) [l0, l1, l2, l3, ab_I z, l5, l6] st σ Q ↔ ab_Run X 288 2186 (f, cl, sl) [l0, l1, l2, l3, ab_I z, l5, l6] (ab_I z :: st) σ Q := ab_r_iload rfl kc_L_law dL_law_2184
theorem rL_law_2186 : ab_Run X 288 2186 (f, cl, sl) L st σ Q ↔ ab_Run X 288 2187 (f, cl, sl) L (ab_I 5 :: st) σ Q := ab_r_iconst (by decide) kc_L_law dL_law_2186
theorem rL_law_2187 : ab_Run X 288 2187 (f, cl, sl) L (ab_I b :: ab_I a :: st) σ Q ↔ ab_Run X 288 2188 (f, cl, sl) L (ab_I (ab_w32 (a + b)) :: st) σ Q := ab_r_iadd kc_L_law dL_law_2187
theorem rL_law_2188 : ab_Run X 288 2188 (f, cl, sl) L (ab_I i :: ab_R a :: st) σ Q ↔ (a = -1 ∧ 0 ≤ i ∧ i < X.1) ∧ ab_Run X 288 2189 (f, cl, sl) L (ab_I (X.2 i) :: st) σ Q := ab_r_ialoadX rfl kc_L_law dL_law_2188
theorem rL_law_2189 : ab_Run X 288 2189 (f, cl, sl) [ab_R z, l1, l2, l3, l4, l5, l6] st σ Q ↔ z ≠ 0 ∧ ab_Run X 288 2190 (f, cl, sl) [ab_R z, l1, l2, l3, l4, l5, l6] (ab_R z :: st) σ Q := ab_r_aload_n rfl kc_L_law dL_law_2189
theorem rL_law_2190 : ab_Run X 288 2190 (f, cl, sl) [l0, l1, l2, l3, ab_I z, l5, l6] st σ Q ↔ ab_Run X 288 2192 (f, cl, sl) [l0, l1, l2, l3, ab_I z, l5, l6] (ab_I z :: st) σ Q := ab_r_iload rfl kc_L_law dL_law_2190
theorem rL_law_2192 : ab_Run X 288 2192 (f, cl, sl) L st σ Q ↔ ab_Run X 288 2194 (f, cl, sl) L (ab_I 6 :: st) σ Q := ab_r_bipush (by decide) kc_L_law dL_law_2192
theorem rL_law_2194 : ab_Run X 288 2194 (f, cl, sl) L (ab_I b :: ab_I a :: st) σ Q ↔ ab_Run X 288 2195 (f, cl, sl) L (ab_I (ab_w32 (a + b)) :: st) σ Q := ab_r_iadd kc_L_law dL_law_2194
theorem rL_law_2195 : ab_Run X 288 2195 (f, cl, sl) L (ab_I i :: ab_R a :: st) σ Q ↔ (a = -1 ∧ 0 ≤ i ∧ i < X.1) ∧ ab_Run X 288 2196 (f, cl, sl) L (ab_I (X.2 i) :: st) σ Q := ab_r_ialoadX rfl kc_L_law dL_law_2195
theorem rL_law_2196 (h : 5 + 1 ≤ f ∧ 0 ≤ cl ∧ 0 ≤ sl) : ab_Run X 288 2196 (f, cl, sl) L (ab_I x6 :: ab_I x5 :: ab_I x4 :: ab_I x3 :: ab_I x2 :: ab_I x1 :: ab_R a :: st) σ Q ↔ ((ab_sh σ a).1 = 14 ∧ ab_cats st ≤ 8) ∧ ab_Do X 280 [ab_R a, ab_I x1, ab_I x2, ab_I x3, ab_I x4, ab_I x5, ab_I x6] σ (fun r σ' => ab_Run X 288 2199 (f, cl, sl) L (ab_psh r st) σ' Q) := ab_r_callV (w := [ab_I x6, ab_I x5, ab_I x4, ab_I x3, ab_I x2, ab_I x1]) (as := [ab_I x1, ab_I x2, ab_I x3, ab_I x4, ab_I x5, ab_I x6]) (b1 := (5, 0, 0)) 0 (Or.inl rfl) (by decide) ko_L_law qM_14_180 (by decide) rfl rfl rfl rfl rfl h (Nat.le_of_ble_eq_true rfl) kc_L_law dL_law_2196
theorem rL_law_2199 : ab_Run X 288 2199 (f, cl, sl) L (ab_I b :: ab_I a :: st) σ Q ↔ (a = b → ab_Run X 288 2374 (f, cl, sl) L st σ Q) ∧ (¬ (a = b) → ab_Run X 288 2202 (f, cl, sl) L st σ Q) := ab_r_icmp_eq rfl kc_L_law dL_law_2199
theorem rL_law_2202 : ab_Run X 288 2202 (f, cl, sl) L st σ Q ↔ ab_Run X 288 2203 (f, cl, sl) L (ab_I 0 :: st) σ Q := ab_r_iconst (by decide) kc_L_law dL_law_2202
theorem rL_law_2203 : ab_Run X 288 2203 (f, cl, sl) L [ab_I v] σ Q ↔ (v = 0 ∨ v = 1) ∧ Q (some (ab_I v)) σ := ab_r_ireturnZ rfl kc_L_law dL_law_2203
theorem rL_law_2204 : ab_Run X 288 2204 (f, cl, sl) [l0, ab_R z, l2, l3, l4, l5, l6] st σ Q ↔ z ≠ 0 ∧ ab_Run X 288 2205 (f, cl, sl) [l0, ab_R z, l2, l3, l4, l5, l6] (ab_R z :: st) σ Q := ab_r_aload_n rfl kc_L_law dL_law_2204
theorem rL_law_2205 : ab_Run X 288 2205 (f, cl, sl) [ab_R z, l1, l2, l3, l4, l5, l6] st σ Q ↔ z ≠ 0 ∧ ab_Run X 288 2206 (f, cl, sl) [ab_R z, l1, l2, l3, l4, l5, l6] (ab_R z :: st) σ Q := ab_r_aload_n rfl kc_L_law dL_law_2205
theorem rL_law_2206 : ab_Run X 288 2206 (f, cl, sl) [l0, l1, l2, l3, ab_I z, l5, l6] st σ Q ↔ ab_Run X 288 2208 (f, cl, sl) [l0, l1, l2, l3, ab_I z, l5, l6] (ab_I z :: st) σ Q := ab_r_iload rfl kc_L_law dL_law_2206
theorem rL_law_2208 : ab_Run X 288 2208 (f, cl, sl) L st σ Q ↔ ab_Run X 288 2209 (f, cl, sl) L (ab_I 1 :: st) σ Q := ab_r_iconst (by decide) kc_L_law dL_law_2208
theorem rL_law_2209 : ab_Run X 288 2209 (f, cl, sl) L (ab_I b :: ab_I a :: st) σ Q ↔ ab_Run X 288 2210 (f, cl, sl) L (ab_I (ab_w32 (a + b)) :: st) σ Q := ab_r_iadd kc_L_law dL_law_2209
theorem rL_law_2210 : ab_Run X 288 2210 (f, cl, sl) L (ab_I i :: ab_R a :: st) σ Q ↔ (a = -1 ∧ 0 ≤ i ∧ i < X.1) ∧ ab_Run X 288 2211 (f, cl, sl) L (ab_I (X.2 i) :: st) σ Q := ab_r_ialoadX rfl kc_L_law dL_law_2210
theorem rL_law_2211 (h : 1 + 1 ≤ f ∧ 0 ≤ cl ∧ 0 ≤ sl) : ab_Run X 288 2211 (f, cl, sl) L (ab_I x1 :: ab_R a :: st) σ Q ↔ ((ab_sh σ a).1 = 12 ∧ ab_cats st ≤ 8) ∧ ab_Do X 117 [ab_R a, ab_I x1] σ (fun r σ' => ab_Run X 288 2214 (f, cl, sl) L (ab_psh r st) σ' Q) := ab_r_callV (w := [ab_I x1]) (as := [ab_I x1]) (b1 := (1, 0, 0)) 0 (Or.inl rfl) (by decide) ko_L_law qM_14_181 (by decide) rfl rfl rfl rfl rfl h (Nat.le_of_ble_eq_true rfl) kc_L_law dL_law_2211
theorem rL_law_2214 : ab_Run X 288 2214 (f, cl, sl) [l0, l1, ab_R z, l3, l4, l5, l6] st σ Q ↔ z ≠ 0 ∧ ab_Run X 288 2215 (f, cl, sl) [l0, l1, ab_R z, l3, l4, l5, l6] (ab_R z :: st) σ Q := ab_r_aload_n rfl kc_L_law dL_law_2214
theorem rL_law_2215 : ab_Run X 288 2215 (f, cl, sl) [ab_R z, l1, l2, l3, l4, l5, l6] st σ Q ↔ z ≠ 0 ∧ ab_Run X 288 2216 (f, cl, sl) [ab_R z, l1, l2, l3, l4, l5, l6] (ab_R z :: st) σ Q := ab_r_aload_n rfl kc_L_law dL_law_2215
theorem rL_law_2216 : ab_Run X 288 2216 (f, cl, sl) [l0, l1, l2, l3, ab_I z, l5, l6] st σ Q ↔ ab_Run X 288 2218 (f, cl, sl) [l0, l1, l2, l3, ab_I z, l5, l6] (ab_I z :: st) σ Q := ab_r_iload rfl kc_L_law dL_law_2216
theorem rL_law_2218 : ab_Run X 288 2218 (f, cl, sl) L st σ Q ↔ ab_Run X 288 2219 (f, cl, sl) L (ab_I 1 :: st) σ Q := ab_r_iconst (by decide) kc_L_law dL_law_2218
theorem rL_law_2219 : ab_Run X 288 2219 (f, cl, sl) L (ab_I b :: ab_I a :: st) σ Q ↔ ab_Run X 288 2220 (f, cl, sl) L (ab_I (ab_w32 (a + b)) :: st) σ Q := ab_r_iadd kc_L_law dL_law_2219
theorem rL_law_2220 : ab_Run X 288 2220 (f, cl, sl) L (ab_I i :: ab_R a :: st) σ Q ↔ (a = -1 ∧ 0 ≤ i ∧ i < X.1) ∧ ab_Run X 288 2221 (f, cl, sl) L (ab_I (X.2 i) :: st) σ Q := ab_r_ialoadX rfl kc_L_law dL_law_2220
theorem rL_law_2221 (h : 2 + 1 ≤ f ∧ 0 ≤ cl ∧ 0 ≤ sl) : ab_Run X 288 2221 (f, cl, sl) L (ab_I x1 :: ab_R a :: st) σ Q ↔ ((ab_sh σ a).1 = 14 ∧ ab_cats st ≤ 8) ∧ ab_Do X 281 [ab_R a, ab_I x1] σ (fun r σ' => ab_Run X 288 2224 (f, cl, sl) L (ab_psh r st) σ' Q) := ab_r_callV (w := [ab_I x1]) (as := [ab_I x1]) (b1 := (2, 0, 0)) 0 (Or.inl rfl) (by decide) ko_L_law qM_14_184 (by decide) rfl rfl rfl rfl rfl h (Nat.le_of_ble_eq_true rfl) kc_L_law dL_law_2221
theorem rL_law_2224 : ab_Run X 288 2224 (f, cl, sl) L (ab_I b :: ab_I a :: st) σ Q ↔ (a = b → ab_Run X 288 2374 (f, cl, sl) L st σ Q) ∧ (¬ (a = b) → ab_Run X 288 2227 (f, cl, sl) L st σ Q) := ab_r_icmp_eq rfl kc_L_law dL_law_2224
theorem rL_law_2227 : ab_Run X 288 2227 (f, cl, sl) L st σ Q ↔ ab_Run X 288 2228 (f, cl, sl) L (ab_I 0 :: st) σ Q := ab_r_iconst (by decide) kc_L_law dL_law_2227
theorem rL_law_2228 : ab_Run X 288 2228 (f, cl, sl) L [ab_I v] σ Q ↔ (v = 0 ∨ v = 1) ∧ Q (some (ab_I v)) σ := ab_r_ireturnZ rfl kc_L_law dL_law_2228
theorem rL_law_2229 : ab_Run X 288 2229 (f, cl, sl) [l0, ab_R z, l2, l3, l4, l5, l6] st σ Q ↔ z ≠ 0 ∧ ab_Run X 288 2230 (f, cl, sl) [l0, ab_R z, l2, l3, l4, l5, l6] (ab_R z :: st) σ Q := ab_r_aload_n rfl kc_L_law dL_law_2229
theorem rL_law_2230 (h : 2 + 1 ≤ f ∧ 0 ≤ cl ∧ 0 ≤ sl) : ab_Run X 288 2230 (f, cl, sl) L (ab_R a :: st) σ Q ↔ ((ab_sh σ a).1 = 12 ∧ ab_cats st ≤ 8) ∧ ab_Do X 118 [ab_R a] σ (fun r σ' => ab_Run X 288 2233 (f, cl, sl) L (ab_psh r st) σ' Q) := ab_r_callV (w := []) (as := []) (b1 := (2, 0, 0)) 0 (Or.inl rfl) (by decide) ko_L_law qM_14_185 (by decide) rfl rfl rfl rfl rfl h (Nat.le_of_ble_eq_true rfl) kc_L_law dL_law_2230
theorem rL_law_2233 : ab_Run X 288 2233 (f, cl, sl) [l0, l1, ab_R z, l3, l4, l5, l6] st σ Q ↔ z ≠ 0 ∧ ab_Run X 288 2234 (f, cl, sl) [l0, l1, ab_R z, l3, l4, l5, l6] (ab_R z :: st) σ Q := ab_r_aload_n rfl kc_L_law dL_law_2233
theorem rL_law_2234 (h : 2 + 1 ≤ f ∧ 0 ≤ cl ∧ 0 ≤ sl) : ab_Run X 288 2234 (f, cl, sl) L (ab_R a :: st) σ Q ↔ ((ab_sh σ a).1 = 14 ∧ ab_cats st ≤ 8) ∧ ab_Do X 282 [ab_R a] σ (fun r σ' => ab_Run X 288 2237 (f, cl, sl) L (ab_psh r st) σ' Q) := ab_r_callV (w := []) (as := []) (b1 := (2, 0, 0)) 0 (Or.inl rfl) (by decide) ko_L_law qM_14_189 (by decide) rfl rfl rfl rfl rfl h (Nat.le_of_ble_eq_true rfl) kc_L_law dL_law_2234
theorem rL_law_2237 : ab_Run X 288 2237 (f, cl, sl) L (ab_I b :: ab_I a :: st) σ Q ↔ (a = b → ab_Run X 288 2374 (f, cl, sl) L st σ Q) ∧ (¬ (a = b) → ab_Run X 288 2240 (f, cl, sl) L st σ Q) := ab_r_icmp_eq rfl kc_L_law dL_law_2237
theorem rL_law_2240 : ab_Run X 288 2240 (f, cl, sl) L st σ Q ↔ ab_Run X 288 2241 (f, cl, sl) L (ab_I 0 :: st) σ Q := ab_r_iconst (by decide) kc_L_law dL_law_2240
theorem rL_law_2241 : ab_Run X 288 2241 (f, cl, sl) L [ab_I v] σ Q ↔ (v = 0 ∨ v = 1) ∧ Q (some (ab_I v)) σ := ab_r_ireturnZ rfl kc_L_law dL_law_2241
theorem rL_law_2242 : ab_Run X 288 2242 (f, cl, sl) [l0, ab_R z, l2, l3, l4, l5, l6] st σ Q ↔ z ≠ 0 ∧ ab_Run X 288 2243 (f, cl, sl) [l0, ab_R z, l2, l3, l4, l5, l6] (ab_R z :: st) σ Q := ab_r_aload_n rfl kc_L_law dL_law_2242
theorem rL_law_2243 (h : 2 + 1 ≤ f ∧ 0 ≤ cl ∧ 0 ≤ sl) : ab_Run X 288 2243 (f, cl, sl) L (ab_R a :: st) σ Q ↔ ((ab_sh σ a).1 = 12 ∧ ab_cats st ≤ 8) ∧ ab_Do X 119 [ab_R a] σ (fun r σ' => ab_Run X 288 2246 (f, cl, sl) L (ab_psh r st) σ' Q) := ab_r_callV (w := []) (as := []) (b1 := (2, 0, 0)) 0 (Or.inl rfl) (by decide) ko_L_law qM_14_190 (by decide) rfl rfl rfl rfl rfl h (Nat.le_of_ble_eq_true rfl) kc_L_law dL_law_2243
theorem rL_law_2246 : ab_Run X 288 2246 (f, cl, sl) [l0, l1, ab_R z, l3, l4, l5, l6] st σ Q ↔ z ≠ 0 ∧ ab_Run X 288 2247 (f, cl, sl) [l0, l1, ab_R z, l3, l4, l5, l6] (ab_R z :: st) σ Q := ab_r_aload_n rfl kc_L_law dL_law_2246
theorem rL_law_2247 (h : 1 + 1 ≤ f ∧ 0 ≤ cl ∧ 0 ≤ sl) : ab_Run X 288 2247 (f, cl, sl) L (ab_R a :: st) σ Q ↔ ((ab_sh σ a).1 = 14 ∧ ab_cats st ≤ 8) ∧ ab_Do X 283 [ab_R a] σ (fun r σ' => ab_Run X 288 2250 (f, cl, sl) L (ab_psh r st) σ' Q) := ab_r_callV (w := []) (as := []) (b1 := (1, 0, 0)) 0 (Or.inl rfl) (by decide) ko_L_law qM_14_193 (by decide) rfl rfl rfl rfl rfl h (Nat.le_of_ble_eq_true rfl) kc_L_law dL_law_2247
theorem rL_law_2250 : ab_Run X 288 2250 (f, cl, sl) L (ab_I b :: ab_I a :: st) σ Q ↔ (a = b → ab_Run X 288 2374 (f, cl, sl) L st σ Q) ∧ (¬ (a = b) → ab_Run X 288 2253 (f, cl, sl) L st σ Q) := ab_r_icmp_eq rfl kc_L_law dL_law_2250
theorem rL_law_2253 : ab_Run X 288 2253 (f, cl, sl) L st σ Q ↔ ab_Run X 288 2254 (f, cl, sl) L (ab_I 0 :: st) σ Q := ab_r_iconst (by decide) kc_L_law dL_law_2253
theorem rL_law_2254 : ab_Run X 288 2254 (f, cl, sl) L [ab_I v] σ Q ↔ (v = 0 ∨ v = 1) ∧ Q (some (ab_I v)) σ := ab_r_ireturnZ rfl kc_L_law dL_law_2254
theorem rL_law_2255 : ab_Run X 288 2255 (f, cl, sl) [l0, ab_R z, l2, l3, l4, l5, l6] st σ Q ↔ z ≠ 0 ∧ ab_Run X 288 2256 (f, cl, sl) [l0, ab_R z, l2, l3, l4, l5, l6] (ab_R z :: st) σ Q := ab_r_aload_n rfl kc_L_law dL_law_2255
theorem rL_law_2256 : ab_Run X 288 2256 (f, cl, sl) [ab_R z, l1, l2, l3, l4, l5, l6] st σ Q ↔ z ≠ 0 ∧ ab_Run X 288 2257 (f, cl, sl) [ab_R z, l1, l2, l3, l4, l5, l6] (ab_R z :: st) σ Q := ab_r_aload_n rfl kc_L_law dL_law_2256
theorem rL_law_2257 : ab_Run X 288 2257 (f, cl, sl) [l0, l1, l2, l3, ab_I z, l5, l6] st σ Q ↔ ab_Run X 288 2259 (f, cl, sl) [l0, l1, l2, l3, ab_I z, l5, l6] (ab_I z :: st) σ Q := ab_r_iload rfl kc_L_law dL_law_2257
theorem rL_law_2259 : ab_Run X 288 2259 (f, cl, sl) L st σ Q ↔ ab_Run X 288 2260 (f, cl, sl) L (ab_I 1 :: st) σ Q := ab_r_iconst (by decide) kc_L_law dL_law_2259
theorem rL_law_2260 : ab_Run X 288 2260 (f, cl, sl) L (ab_I b :: ab_I a :: st) σ Q ↔ ab_Run X 288 2261 (f, cl, sl) L (ab_I (ab_w32 (a + b)) :: st) σ Q := ab_r_iadd kc_L_law dL_law_2260
theorem rL_law_2261 : ab_Run X 288 2261 (f, cl, sl) L (ab_I i :: ab_R a :: st) σ Q ↔ (a = -1 ∧ 0 ≤ i ∧ i < X.1) ∧ ab_Run X 288 2262 (f, cl, sl) L (ab_I (X.2 i) :: st) σ Q := ab_r_ialoadX rfl kc_L_law dL_law_2261
theorem rL_law_2262 (h : 2 + 1 ≤ f ∧ 0 ≤ cl ∧ 0 ≤ sl) : ab_Run X 288 2262 (f, cl, sl) L (ab_I x1 :: ab_R a :: st) σ Q ↔ ((ab_sh σ a).1 = 12 ∧ ab_cats st ≤ 8) ∧ ab_Do X 120 [ab_R a, ab_I x1] σ (fun r σ' => ab_Run X 288 2265 (f, cl, sl) L (ab_psh r st) σ' Q) := ab_r_callV (w := [ab_I x1]) (as := [ab_I x1]) (b1 := (2, 0, 0)) 0 (Or.inl rfl) (by decide) ko_L_law qM_14_194 (by decide) rfl rfl rfl rfl rfl h (Nat.le_of_ble_eq_true rfl) kc_L_law dL_law_2262
theorem rL_law_2265 : ab_Run X 288 2265 (f, cl, sl) [l0, l1, ab_R z, l3, l4, l5, l6] st σ Q ↔ z ≠ 0 ∧ ab_Run X 288 2266 (f, cl, sl) [l0, l1, ab_R z, l3, l4, l5, l6] (ab_R z :: st) σ Q := ab_r_aload_n rfl kc_L_law dL_law_2265
theorem rL_law_2266 : ab_Run X 288 2266 (f, cl, sl) [ab_R z, l1, l2, l3, l4, l5, l6] st σ Q ↔ z ≠ 0 ∧ ab_Run X 288 2267 (f, cl, sl) [ab_R z, l1, l2, l3, l4, l5, l6] (ab_R z :: st) σ Q := ab_r_aload_n rfl kc_L_law dL_law_2266
theorem rL_law_2267 : ab_Run X 288 2267 (f, cl, sl) [l0, l1, l2, l3, ab_I z, l5, l6] st σ Q ↔ ab_Run X 288 2269 (f, cl, sl) [l0, l1, l2, l3, ab_I z, l5, l6] (ab_I z :: st) σ Q := ab_r_iload rfl kc_L_law dL_law_2267
theorem rL_law_2269 : ab_Run X 288 2269 (f, cl, sl) L st σ Q ↔ ab_Run X 288 2270 (f, cl, sl) L (ab_I 1 :: st) σ Q := ab_r_iconst (by decide) kc_L_law dL_law_2269
theorem rL_law_2270 : ab_Run X 288 2270 (f, cl, sl) L (ab_I b :: ab_I a :: st) σ Q ↔ ab_Run X 288 2271 (f, cl, sl) L (ab_I (ab_w32 (a + b)) :: st) σ Q := ab_r_iadd kc_L_law dL_law_2270
theorem rL_law_2271 : ab_Run X 288 2271 (f, cl, sl) L (ab_I i :: ab_R a :: st) σ Q ↔ (a = -1 ∧ 0 ≤ i ∧ i < X.1) ∧ ab_Run X 288 2272 (f, cl, sl) L (ab_I (X.2 i) :: st) σ Q := ab_r_ialoadX rfl kc_L_law dL_law_2271
theorem rL_law_2272 (h : 2 + 1 ≤ f ∧ 0 ≤ cl ∧ 0 ≤ sl) : ab_Run X 288 2272 (f, cl, sl) L (ab_I x1 :: ab_R a :: st) σ Q ↔ ((ab_sh σ a).1 = 14 ∧ ab_cats st ≤ 8) ∧ ab_Do X 284 [ab_R a, ab_I x1] σ (fun r σ' => ab_Run X 288 2275 (f, cl, sl) L (ab_psh r st) σ' Q) := ab_r_callV (w := [ab_I x1]) (as := [ab_I x1]) (b1 := (2, 0, 0)) 0 (Or.inl rfl) (by decide) ko_L_law qM_14_197 (by decide) rfl rfl rfl rfl rfl h (Nat.le_of_ble_eq_true rfl) kc_L_law dL_law_2272
theorem rL_law_2275 : ab_Run X 288 2275 (f, cl, sl) L (ab_I b :: ab_I a :: st) σ Q ↔ (a = b → ab_Run X 288 2374 (f, cl, sl) L st σ Q) ∧ (¬ (a = b) → ab_Run X 288 2278 (f, cl, sl) L st σ Q) := ab_r_icmp_eq rfl kc_L_law dL_law_2275
theorem rL_law_2278 : ab_Run X 288 2278 (f, cl, sl) L st σ Q ↔ ab_Run X 288 2279 (f, cl, sl) L (ab_I 0 :: st) σ Q := ab_r_iconst (by decide) kc_L_law dL_law_2278
theorem rL_law_2279 : ab_Run X 288 2279 (f, cl, sl) L [ab_I v] σ Q ↔ (v = 0 ∨ v = 1) ∧ Q (some (ab_I v)) σ := ab_r_ireturnZ rfl kc_L_law dL_law_2279
theorem rL_law_2280 : ab_Run X 288 2280 (f, cl, sl) [l0, ab_R z, l2, l3, l4, l5, l6] st σ Q ↔ z ≠ 0 ∧ ab_Run X 288 2281 (f, cl, sl) [l0, ab_R z, l2, l3, l4, l5, l6] (ab_R z :: st) σ Q := ab_r_aload_n rfl kc_L_law dL_law_2280
theorem rL_law_2281 : ab_Run X 288 2281 (f, cl, sl) [ab_R z, l1, l2, l3, l4, l5, l6] st σ Q ↔ z ≠ 0 ∧ ab_Run X 288 2282 (f, cl, sl) [ab_R z, l1, l2, l3, l4, l5, l6] (ab_R z :: st) σ Q := ab_r_aload_n rfl kc_L_law dL_law_2281
theorem rL_law_2282 : ab_Run X 288 2282 (f, cl, sl) [l0, l1, l2, l3, ab_I z, l5, l6] st σ Q ↔ ab_Run X 288 2284 (f, cl, sl) [l0, l1, l2, l3, ab_I z, l5, l6] (ab_I z :: st) σ Q := ab_r_iload rfl kc_L_law dL_law_2282
theorem rL_law_2284 : ab_Run X 288 2284 (f, cl, sl) L st σ Q ↔ ab_Run X 288 2285 (f, cl, sl) L (ab_I 1 :: st) σ Q := ab_r_iconst (by decide) kc_L_law dL_law_2284
theorem rL_law_2285 : ab_Run X 288 2285 (f, cl, sl) L (ab_I b :: ab_I a :: st) σ Q ↔ ab_Run X 288 2286 (f, cl, sl) L (ab_I (ab_w32 (a + b)) :: st) σ Q := ab_r_iadd kc_L_law dL_law_2285
theorem rL_law_2286 : ab_Run X 288 2286 (f, cl, sl) L (ab_I i :: ab_R a :: st) σ Q ↔ (a = -1 ∧ 0 ≤ i ∧ i < X.1) ∧ ab_Run X 288 2287 (f, cl, sl) L (ab_I (X.2 i) :: st) σ Q := ab_r_ialoadX rfl kc_L_law dL_law_2286
theorem rL_law_2287 : ab_Run X 288 2287 (f, cl, sl) [l0, l1, l2, ab_R z, l4, l5, l6] st σ Q ↔ z ≠ 0 ∧ ab_Run X 288 2288 (f, cl, sl) [l0, l1, l2, ab_R z, l4, l5, l6] (ab_R z :: st) σ Q := ab_r_aload_n rfl kc_L_law dL_law_2287
theorem rL_law_2288 {x out : Int} (hl : ab_ledc σ x out) (hb : 30 ≤ f ∧ 1 ≤ cl ∧ 6 ≤ sl) (hst : ab_cats st ≤ 8) : ab_Run X 288 2288 (f, cl, sl) L (ab_R out :: ab_I i :: ab_R x :: st) σ Q ↔ (match ab_ledf σ x i with
    | some b => ab_Run X 288 2291 (f, cl - 1, sl - 6) L (ab_I 0 :: st) (ab_wr σ out 0 b) Q
    | none => ab_Run X 288 2291 (f, cl - 1, sl - 6) L (ab_I 1 :: st) (ab_new σ 50 0) Q) := ab_r_led (by decide) ko_L_law qM_14_198 kc_L_law dL_law_2288 hl hb hst
theorem rL_law_2291 : ab_Run X 288 2291 (f, cl, sl) [l0, l1, l2, l3, l4, l5, l6] (ab_I z :: st) σ Q ↔ (!ab_isJ l4) = true ∧ ab_Run X 288 2293 (f, cl, sl) [l0, l1, l2, l3, l4, ab_I z, l6] st σ Q := ab_r_istore (Nat.le_of_ble_eq_true rfl) kc_L_law dL_law_2291
theorem rL_law_2293 : ab_Run X 288 2293 (f, cl, sl) [l0, l1, ab_R z, l3, l4, l5, l6] st σ Q ↔ z ≠ 0 ∧ ab_Run X 288 2294 (f, cl, sl) [l0, l1, ab_R z, l3, l4, l5, l6] (ab_R z :: st) σ Q := ab_r_aload_n rfl kc_L_law dL_law_2293
theorem rL_law_2294 : ab_Run X 288 2294 (f, cl, sl) [ab_R z, l1, l2, l3, l4, l5, l6] st σ Q ↔ z ≠ 0 ∧ ab_Run X 288 2295 (f, cl, sl) [ab_R z, l1, l2, l3, l4, l5, l6] (ab_R z :: st) σ Q := ab_r_aload_n rfl kc_L_law dL_law_2294
theorem rL_law_2295 : ab_Run X 288 2295 (f, cl, sl) [l0, l1, l2, l3, ab_I z, l5, l6] st σ Q ↔ ab_Run X 288 2297 (f, cl, sl) [l0, l1, l2, l3, ab_I z, l5, l6] (ab_I z :: st) σ Q := ab_r_iload rfl kc_L_law dL_law_2295
theorem rL_law_2297 : ab_Run X 288 2297 (f, cl, sl) L st σ Q ↔ ab_Run X 288 2298 (f, cl, sl) L (ab_I 1 :: st) σ Q := ab_r_iconst (by decide) kc_L_law dL_law_2297
theorem rL_law_2298 : ab_Run X 288 2298 (f, cl, sl) L (ab_I b :: ab_I a :: st) σ Q ↔ ab_Run X 288 2299 (f, cl, sl) L (ab_I (ab_w32 (a + b)) :: st) σ Q := ab_r_iadd kc_L_law dL_law_2298
theorem rL_law_2299 : ab_Run X 288 2299 (f, cl, sl) L (ab_I i :: ab_R a :: st) σ Q ↔ (a = -1 ∧ 0 ≤ i ∧ i < X.1) ∧ ab_Run X 288 2300 (f, cl, sl) L (ab_I (X.2 i) :: st) σ Q := ab_r_ialoadX rfl kc_L_law dL_law_2299
theorem rL_law_2300 (h : 1 + 1 ≤ f ∧ 0 ≤ cl ∧ 0 ≤ sl) : ab_Run X 288 2300 (f, cl, sl) L (ab_I x1 :: ab_R a :: st) σ Q ↔ ((ab_sh σ a).1 = 14 ∧ ab_cats st ≤ 8) ∧ ab_Do X 285 [ab_R a, ab_I x1] σ (fun r σ' => ab_Run X 288 2303 (f, cl, sl) L (ab_psh r st) σ' Q) := ab_r_callV (w := [ab_I x1]) (as := [ab_I x1]) (b1 := (1, 0, 0)) 0 (Or.inl rfl) (by decide) ko_L_law qM_14_203 (by decide) rfl rfl rfl rfl rfl h (Nat.le_of_ble_eq_true rfl) kc_L_law dL_law_2300
theorem rL_law_2303 : ab_Run X 288 2303 (f, cl, sl) [l0, l1, l2, l3, l4, l5, l6] (ab_I z :: st) σ Q ↔ (!ab_isJ l5) = true ∧ ab_Run X 288 2305 (f, cl, sl) [l0, l1, l2, l3, l4, l5, ab_I z] st σ Q := ab_r_istore (Nat.le_of_ble_eq_true rfl) kc_L_law dL_law_2303
theorem rL_law_2305 : ab_Run X 288 2305 (f, cl, sl) [l0, l1, ab_R z, l3, l4, l5, l6] st σ Q ↔ z ≠ 0 ∧ ab_Run X 288 2306 (f, cl, sl) [l0, l1, ab_R z, l3, l4, l5, l6] (ab_R z :: st) σ Q := ab_r_aload_n rfl kc_L_law dL_law_2305
theorem rL_law_2306 (h : 0 + 1 ≤ f ∧ 0 ≤ cl ∧ 0 ≤ sl) : ab_Run X 288 2306 (f, cl, sl) L (ab_R a :: st) σ Q ↔ ((ab_sh σ a).1 = 14 ∧ ab_cats st ≤ 8) ∧ ab_Do X 158 [ab_R a] σ (fun r σ' => ab_Run X 288 2309 (f, cl, sl) L (ab_psh r st) σ' Q) := ab_r_callV (w := []) (as := []) (b1 := (0, 0, 0)) 0 (Or.inl rfl) (by decide) ko_L_law qM_14_204 (by decide) rfl rfl rfl rfl rfl h (Nat.le_of_ble_eq_true rfl) kc_L_law dL_law_2306
theorem rL_law_2309 : ab_Run X 288 2309 (f, cl, sl) [l0, l1, l2, l3, l4, ab_I z, l6] st σ Q ↔ ab_Run X 288 2311 (f, cl, sl) [l0, l1, l2, l3, l4, ab_I z, l6] (ab_I z :: st) σ Q := ab_r_iload rfl kc_L_law dL_law_2309
theorem rL_law_2311 : ab_Run X 288 2311 (f, cl, sl) L (ab_I b :: ab_I a :: st) σ Q ↔ (a = b → ab_Run X 288 2316 (f, cl, sl) L st σ Q) ∧ (¬ (a = b) → ab_Run X 288 2314 (f, cl, sl) L st σ Q) := ab_r_icmp_eq rfl kc_L_law dL_law_2311
theorem rL_law_2314 : ab_Run X 288 2314 (f, cl, sl) L st σ Q ↔ ab_Run X 288 2315 (f, cl, sl) L (ab_I 0 :: st) σ Q := ab_r_iconst (by decide) kc_L_law dL_law_2314
theorem rL_law_2315 : ab_Run X 288 2315 (f, cl, sl) L [ab_I v] σ Q ↔ (v = 0 ∨ v = 1) ∧ Q (some (ab_I v)) σ := ab_r_ireturnZ rfl kc_L_law dL_law_2315
theorem rL_law_2316 : ab_Run X 288 2316 (f, cl, sl) [l0, l1, l2, l3, l4, ab_I z, l6] st σ Q ↔ ab_Run X 288 2318 (f, cl, sl) [l0, l1, l2, l3, l4, ab_I z, l6] (ab_I z :: st) σ Q := ab_r_iload rfl kc_L_law dL_law_2316
theorem rL_law_2318 : ab_Run X 288 2318 (f, cl, sl) L (ab_I a :: st) σ Q ↔ (¬ a = 0 → ab_Run X 288 2333 (f, cl, sl) L st σ Q) ∧ (¬ (¬ a = 0) → ab_Run X 288 2321 (f, cl, sl) L st σ Q) := ab_r_if_ne rfl kc_L_law dL_law_2318
theorem rL_law_2321 : ab_Run X 288 2321 (f, cl, sl) [l0, l1, l2, ab_R z, l4, l5, l6] st σ Q ↔ z ≠ 0 ∧ ab_Run X 288 2322 (f, cl, sl) [l0, l1, l2, ab_R z, l4, l5, l6] (ab_R z :: st) σ Q := ab_r_aload_n rfl kc_L_law dL_law_2321
theorem rL_law_2322 : ab_Run X 288 2322 (f, cl, sl) L st σ Q ↔ ab_Run X 288 2323 (f, cl, sl) L (ab_I 0 :: st) σ Q := ab_r_iconst (by decide) kc_L_law dL_law_2322
theorem rL_law_2323 : ab_Run X 288 2323 (f, cl, sl) L (ab_I i :: ab_R a :: st) σ Q ↔ ((ab_sh σ a).1 = 22 ∧ 0 ≤ i ∧ i < (ab_sh σ a).2) ∧ ab_Run X 288 2324 (f, cl, sl) L (ab_J (ab_rd σ a i) :: st) σ Q := ab_r_laload kc_L_law dL_law_2323
theorem rL_law_2324 : ab_Run X 288 2324 (f, cl, sl) [l0, l1, l2, l3, l4, l5, ab_I z] st σ Q ↔ ab_Run X 288 2326 (f, cl, sl) [l0, l1, l2, l3, l4, l5, ab_I z] (ab_I z :: st) σ Q := ab_r_iload rfl kc_L_law dL_law_2324
theorem rL_law_2326 : ab_Run X 288 2326 (f, cl, sl) L (ab_I a :: st) σ Q ↔ ab_Run X 288 2327 (f, cl, sl) L (ab_J a :: st) σ Q := ab_r_i2l kc_L_law dL_law_2326
theorem rL_law_2327 : ab_Run X 288 2327 (f, cl, sl) L (ab_J b :: ab_J a :: st) σ Q ↔ ab_Run X 288 2328 (f, cl, sl) L (ab_I (if b < a then 1 else if a = b then 0 else -1) :: st) σ Q := ab_r_lcmp kc_L_law dL_law_2327
theorem rL_law_2328 : ab_Run X 288 2328 (f, cl, sl) L (ab_I a :: st) σ Q ↔ (a = 0 → ab_Run X 288 2333 (f, cl, sl) L st σ Q) ∧ (¬ (a = 0) → ab_Run X 288 2331 (f, cl, sl) L st σ Q) := ab_r_if_eq rfl kc_L_law dL_law_2328
theorem rL_law_2331 : ab_Run X 288 2331 (f, cl, sl) L st σ Q ↔ ab_Run X 288 2332 (f, cl, sl) L (ab_I 0 :: st) σ Q := ab_r_iconst (by decide) kc_L_law dL_law_2331
theorem rL_law_2332 : ab_Run X 288 2332 (f, cl, sl) L [ab_I v] σ Q ↔ (v = 0 ∨ v = 1) ∧ Q (some (ab_I v)) σ := ab_r_ireturnZ rfl kc_L_law dL_law_2332
theorem rL_law_2333 : ab_Run X 288 2333 (f, cl, sl) L st σ Q ↔ ab_Run X 288 2374 (f, cl, sl) L st σ Q := ab_r_goto rfl kc_L_law dL_law_2333
theorem rL_law_2336 : ab_Run X 288 2336 (f, cl, sl) [l0, ab_R z, l2, l3, l4, l5, l6] st σ Q ↔ z ≠ 0 ∧ ab_Run X 288 2337 (f, cl, sl) [l0, ab_R z, l2, l3, l4, l5, l6] (ab_R z :: st) σ Q := ab_r_aload_n rfl kc_L_law dL_law_2336
theorem rL_law_2337 : ab_Run X 288 2337 (f, cl, sl) [ab_R z, l1, l2, l3, l4, l5, l6] st σ Q ↔ z ≠ 0 ∧ ab_Run X 288 2338 (f, cl, sl) [ab_R z, l1, l2, l3, l4, l5, l6] (ab_R z :: st) σ Q := ab_r_aload_n rfl kc_L_law dL_law_2337
theorem rL_law_2338 : ab_Run X 288 2338 (f, cl, sl) [l0, l1, l2, l3, ab_I z, l5, l6] st σ Q ↔ ab_Run X 288 2340 (f, cl, sl) [l0, l1, l2, l3, ab_I z, l5, l6] (ab_I z :: st) σ Q := ab_r_iload rfl kc_L_law dL_law_2338
theorem rL_law_2340 : ab_Run X 288 2340 (f, cl, sl) L st σ Q ↔ ab_Run X 288 2341 (f, cl, sl) L (ab_I 1 :: st) σ Q := ab_r_iconst (by decide) kc_L_law dL_law_2340
theorem rL_law_2341 : ab_Run X 288 2341 (f, cl, sl) L (ab_I b :: ab_I a :: st) σ Q ↔ ab_Run X 288 2342 (f, cl, sl) L (ab_I (ab_w32 (a + b)) :: st) σ Q := ab_r_iadd kc_L_law dL_law_2341
theorem rL_law_2342 : ab_Run X 288 2342 (f, cl, sl) L (ab_I i :: ab_R a :: st) σ Q ↔ (a = -1 ∧ 0 ≤ i ∧ i < X.1) ∧ ab_Run X 288 2343 (f, cl, sl) L (ab_I (X.2 i) :: st) σ Q := ab_r_ialoadX rfl kc_L_law dL_law_2342
theorem rL_law_2343 (h : 0 + 1 ≤ f ∧ 0 ≤ cl ∧ 0 ≤ sl) : ab_Run X 288 2343 (f, cl, sl) L (ab_I x1 :: ab_R a :: st) σ Q ↔ ((ab_sh σ a).1 = 12 ∧ ab_cats st ≤ 8) ∧ ab_Do X 122 [ab_R a, ab_I x1] σ (fun r σ' => ab_Run X 288 2346 (f, cl, sl) L (ab_psh r st) σ' Q) := ab_r_callV (w := [ab_I x1]) (as := [ab_I x1]) (b1 := (0, 0, 0)) 0 (Or.inl rfl) (by decide) ko_L_law qM_14_207 (by decide) rfl rfl rfl rfl rfl h (Nat.le_of_ble_eq_true rfl) kc_L_law dL_law_2343
theorem rL_law_2346 : ab_Run X 288 2346 (f, cl, sl) [l0, l1, ab_R z, l3, l4, l5, l6] st σ Q ↔ z ≠ 0 ∧ ab_Run X 288 2347 (f, cl, sl) [l0, l1, ab_R z, l3, l4, l5, l6] (ab_R z :: st) σ Q := ab_r_aload_n rfl kc_L_law dL_law_2346
theorem rL_law_2347 : ab_Run X 288 2347 (f, cl, sl) [ab_R z, l1, l2, l3, l4, l5, l6] st σ Q ↔ z ≠ 0 ∧ ab_Run X 288 2348 (f, cl, sl) [ab_R z, l1, l2, l3, l4, l5, l6] (ab_R z :: st) σ Q := ab_r_aload_n rfl kc_L_law dL_law_2347
theorem rL_law_2348 : ab_Run X 288 2348 (f, cl, sl) [l0, l1, l2, l3, ab_I z, l5, l6] st σ Q ↔ ab_Run X 288 2350 (f, cl, sl) [l0, l1, l2, l3, ab_I z, l5, l6] (ab_I z :: st) σ Q := ab_r_iload rfl kc_L_law dL_law_2348
theorem rL_law_2350 : ab_Run X 288 2350 (f, cl, sl) L st σ Q ↔ ab_Run X 288 2351 (f, cl, sl) L (ab_I 1 :: st) σ Q := ab_r_iconst (by decide) kc_L_law dL_law_2350
theorem rL_law_2351 : ab_Run X 288 2351 (f, cl, sl) L (ab_I b :: ab_I a :: st) σ Q ↔ ab_Run X 288 2352 (f, cl, sl) L (ab_I (ab_w32 (a + b)) :: st) σ Q := ab_r_iadd kc_L_law dL_law_2351
theorem rL_law_2352 : ab_Run X 288 2352 (f, cl, sl) L (ab_I i :: ab_R a :: st) σ Q ↔ (a = -1 ∧ 0 ≤ i ∧ i < X.1) ∧ ab_Run X 288 2353 (f, cl, sl) L (ab_I (X.2 i) :: st) σ Q := ab_r_ialoadX rfl kc_L_law dL_law_2352
theorem rL_law_2353 (h : 1 + 1 ≤ f ∧ 0 ≤ cl ∧ 0 ≤ sl) : ab_Run X 288 2353 (f, cl, sl) L (ab_I x1 :: ab_R a :: st) σ Q ↔ ((ab_sh σ a).1 = 14 ∧ ab_cats st ≤ 8) ∧ ab_Do X 286 [ab_R a, ab_I x1] σ (fun r σ' => ab_Run X 288 2356 (f, cl, sl) L (ab_psh r st) σ' Q) := ab_r_callV (w := [ab_I x1]) (as := [ab_I x1]) (b1 := (1, 0, 0)) 0 (Or.inl rfl) (by decide) ko_L_law qM_14_210 (by decide) rfl rfl rfl rfl rfl h (Nat.le_of_ble_eq_true rfl) kc_L_law dL_law_2353
theorem rL_law_2356 : ab_Run X 288 2356 (f, cl, sl) L (ab_I b :: ab_I a :: st) σ Q ↔ (a = b → ab_Run X 288 2374 (f, cl, sl) L st σ Q) ∧ (¬ (a = b) → ab_Run X 288 2359 (f, cl, sl) L st σ Q) := ab_r_icmp_eq rfl kc_L_law dL_law_2356
theorem rL_law_2359 : ab_Run X 288 2359 (f, cl, sl) L st σ Q ↔ ab_Run X 288 2360 (f, cl, sl) L (ab_I 0 :: st) σ Q := ab_r_iconst (by decide) kc_L_law dL_law_2359
theorem rL_law_2360 : ab_Run X 288 2360 (f, cl, sl) L [ab_I v] σ Q ↔ (v = 0 ∨ v = 1) ∧ Q (some (ab_I v)) σ := ab_r_ireturnZ rfl kc_L_law dL_law_2360
theorem rL_law_2361 : ab_Run X 288 2361 (f, cl, sl) [l0, ab_R z, l2, l3, l4, l5, l6] st σ Q ↔ z ≠ 0 ∧ ab_Run X 288 2362 (f, cl, sl) [l0, ab_R z, l2, l3, l4, l5, l6] (ab_R z :: st) σ Q := ab_r_aload_n rfl kc_L_law dL_law_2361
theorem rL_law_2362 (h : 0 + 1 ≤ f ∧ 0 ≤ cl ∧ 0 ≤ sl) : ab_Run X 288 2362 (f, cl, sl) L (ab_R a :: st) σ Q ↔ ((ab_sh σ a).1 = 12 ∧ ab_cats st ≤ 8) ∧ ab_Do X 123 [ab_R a] σ (fun r σ' => ab_Run X 288 2365 (f, cl, sl) L (ab_psh r st) σ' Q) := ab_r_callV (w := []) (as := []) (b1 := (0, 0, 0)) 0 (Or.inl rfl) (by decide) ko_L_law qM_14_211 (by decide) rfl rfl rfl rfl rfl h (Nat.le_of_ble_eq_true rfl) kc_L_law dL_law_2362
theorem rL_law_2365 : ab_Run X 288 2365 (f, cl, sl) [l0, l1, ab_R z, l3, l4, l5, l6] st σ Q ↔ z ≠ 0 ∧ ab_Run X 288 2366 (f, cl, sl) [l0, l1, ab_R z, l3, l4, l5, l6] (ab_R z :: st) σ Q := ab_r_aload_n rfl kc_L_law dL_law_2365
theorem rL_law_2366 (h : 0 + 1 ≤ f ∧ 0 ≤ cl ∧ 0 ≤ sl) : ab_Run X 288 2366 (f, cl, sl) L (ab_R a :: st) σ Q ↔ ((ab_sh σ a).1 = 14 ∧ ab_cats st ≤ 8) ∧ ab_Do X 287 [ab_R a] σ (fun r σ' => ab_Run X 288 2369 (f, cl, sl) L (ab_psh r st) σ' Q) := ab_r_callV (w := []) (as := []) (b1 := (0, 0, 0)) 0 (Or.inl rfl) (by decide) ko_L_law qM_14_214 (by decide) rfl rfl rfl rfl rfl h (Nat.le_of_ble_eq_true rfl) kc_L_law dL_law_2366
theorem rL_law_2369 : ab_Run X 288 2369 (f, cl, sl) L (ab_I b :: ab_I a :: st) σ Q ↔ (a = b → ab_Run X 288 2374 (f, cl, sl) L st σ Q) ∧ (¬ (a = b) → ab_Run X 288 2372 (f, cl, sl) L st σ Q) := ab_r_icmp_eq rfl kc_L_law dL_law_2369
theorem rL_law_2372 : ab_Run X 288 2372 (f, cl, sl) L st σ Q ↔ ab_Run X 288 2373 (f, cl, sl) L (ab_I 0 :: st) σ Q := ab_r_iconst (by decide) kc_L_law dL_law_2372
theorem rL_law_2373 : ab_Run X 288 2373 (f, cl, sl) L [ab_I v] σ Q ↔ (v = 0 ∨ v = 1) ∧ Q (some (ab_I v)) σ := ab_r_ireturnZ rfl kc_L_law dL_law_2373
theorem rL_law_2374 : ab_Run X 288 2374 (f, cl, sl) [l0, l1, l2, l3, ab_I z, l5, l6] st σ Q ↔ (!ab_isJ l3) = true ∧ ab_Run X 288 2377 (f, cl, sl) [l0, l1, l2, l3, ab_I (ab_w32 (z + 9)), l5, l6] st σ Q := ab_r_iinc rfl (by decide) kc_L_law dL_law_2374
theorem rL_law_2377 : ab_Run X 288 2377 (f, cl, sl) L st σ Q ↔ ab_Run X 288 23 (f, cl, sl) L st σ Q := ab_r_goto rfl kc_L_law dL_law_2377
theorem rL_law_2380 : ab_Run X 288 2380 (f, cl, sl) L st σ Q ↔ ab_Run X 288 2381 (f, cl, sl) L (ab_I 1 :: st) σ Q := ab_r_iconst (by decide) kc_L_law dL_law_2380
theorem rL_law_2381 : ab_Run X 288 2381 (f, cl, sl) L [ab_I v] σ Q ↔ (v = 0 ∨ v = 1) ∧ Q (some (ab_I v)) σ := ab_r_ireturnZ rfl kc_L_law dL_law_2381
end
