theorem dL_law_2020 : decode cL_law 2020 = .ok (.if_icmp .eq 607, 3) := by decide +kernel
theorem dL_law_2023 : decode cL_law 2023 = .ok (.iconst 0, 1) := by decide +kernel
theorem dL_law_2024 : decode cL_law 2024 = .ok (.ireturn, 1) := by decide +kernel
theorem dL_law_2025 : decode cL_law 2025 = .ok (.aload_n 1, 1) := by decide +kernel
theorem dL_law_2026 : decode cL_law 2026 = .ok (.aload_n 0, 1) := by decide +kernel
theorem dL_law_2027 : decode cL_law 2027 = .ok (.iload 5, 2) := by decide +kernel
theorem dL_law_2029 : decode cL_law 2029 = .ok (.iconst 1, 1) := by decide +kernel
theorem dL_law_2030 : decode cL_law 2030 = .ok (.iadd, 1) := by decide +kernel
theorem dL_law_2031 : decode cL_law 2031 = .ok (.iaload, 1) := by decide +kernel
theorem dL_law_2032 : decode cL_law 2032 = .ok (.aload_n 3, 1) := by decide +kernel
theorem dL_law_2033 : decode cL_law 2033 = .ok (.invokestatic 248, 3) := by decide +kernel
theorem dL_law_2036 : decode cL_law 2036 = .ok (.istore 6, 2) := by decide +kernel
theorem dL_law_2038 : decode cL_law 2038 = .ok (.aload_n 2, 1) := by decide +kernel
theorem dL_law_2039 : decode cL_law 2039 = .ok (.aload_n 0, 1) := by decide +kernel
theorem dL_law_2040 : decode cL_law 2040 = .ok (.iload 5, 2) := by decide +kernel
theorem dL_law_2042 : decode cL_law 2042 = .ok (.iconst 1, 1) := by decide +kernel
theorem dL_law_2043 : decode cL_law 2043 = .ok (.iadd, 1) := by decide +kernel
theorem dL_law_2044 : decode cL_law 2044 = .ok (.iaload, 1) := by decide +kernel
theorem dL_law_2045 : decode cL_law 2045 = .ok (.invokevirtual 250, 3) := by decide +kernel
theorem dL_law_2048 : decode cL_law 2048 = .ok (.lstore 7, 2) := by decide +kernel
theorem dL_law_2050 : decode cL_law 2050 = .ok (.aload_n 2, 1) := by decide +kernel
theorem dL_law_2051 : decode cL_law 2051 = .ok (.invokevirtual 148, 3) := by decide +kernel
theorem dL_law_2054 : decode cL_law 2054 = .ok (.iload 6, 2) := by decide +kernel
theorem dL_law_2056 : decode cL_law 2056 = .ok (.if_icmp .eq 5, 3) := by decide +kernel
theorem dL_law_2059 : decode cL_law 2059 = .ok (.iconst 0, 1) := by decide +kernel
theorem dL_law_2060 : decode cL_law 2060 = .ok (.ireturn, 1) := by decide +kernel
theorem dL_law_2061 : decode cL_law 2061 = .ok (.iload 6, 2) := by decide +kernel
theorem dL_law_2063 : decode cL_law 2063 = .ok (.ifCond .ne 14, 3) := by decide +kernel
theorem dL_law_2066 : decode cL_law 2066 = .ok (.aload_n 3, 1) := by decide +kernel
theorem dL_law_2067 : decode cL_law 2067 = .ok (.iconst 0, 1) := by decide +kernel
theorem dL_law_2068 : decode cL_law 2068 = .ok (.laload, 1) := by decide +kernel
theorem dL_law_2069 : decode cL_law 2069 = .ok (.lload 7, 2) := by decide +kernel
theorem dL_law_2071 : decode cL_law 2071 = .ok (.lcmp, 1) := by decide +kernel
theorem dL_law_2072 : decode cL_law 2072 = .ok (.ifCond .eq 5, 3) := by decide +kernel
theorem dL_law_2075 : decode cL_law 2075 = .ok (.iconst 0, 1) := by decide +kernel
theorem dL_law_2076 : decode cL_law 2076 = .ok (.ireturn, 1) := by decide +kernel
theorem dL_law_2077 : decode cL_law 2077 = .ok (.goto 550, 3) := by decide +kernel
theorem dL_law_2080 : decode cL_law 2080 = .ok (.aload_n 1, 1) := by decide +kernel
theorem dL_law_2081 : decode cL_law 2081 = .ok (.aload_n 0, 1) := by decide +kernel
theorem dL_law_2082 : decode cL_law 2082 = .ok (.iload 5, 2) := by decide +kernel
theorem dL_law_2084 : decode cL_law 2084 = .ok (.iconst 1, 1) := by decide +kernel
theorem dL_law_2085 : decode cL_law 2085 = .ok (.iadd, 1) := by decide +kernel
theorem dL_law_2086 : decode cL_law 2086 = .ok (.iaload, 1) := by decide +kernel
theorem dL_law_2087 : decode cL_law 2087 = .ok (.aload_n 3, 1) := by decide +kernel
theorem dL_law_2088 : decode cL_law 2088 = .ok (.invokestatic 251, 3) := by decide +kernel
theorem dL_law_2091 : decode cL_law 2091 = .ok (.istore 6, 2) := by decide +kernel
theorem dL_law_2093 : decode cL_law 2093 = .ok (.aload_n 2, 1) := by decide +kernel
theorem dL_law_2094 : decode cL_law 2094 = .ok (.aload_n 0, 1) := by decide +kernel
theorem dL_law_2095 : decode cL_law 2095 = .ok (.iload 5, 2) := by decide +kernel
theorem dL_law_2097 : decode cL_law 2097 = .ok (.iconst 1, 1) := by decide +kernel
theorem dL_law_2098 : decode cL_law 2098 = .ok (.iadd, 1) := by decide +kernel
theorem dL_law_2099 : decode cL_law 2099 = .ok (.iaload, 1) := by decide +kernel
theorem dL_law_2100 : decode cL_law 2100 = .ok (.invokevirtual 253, 3) := by decide +kernel
theorem dL_law_2103 : decode cL_law 2103 = .ok (.lstore 7, 2) := by decide +kernel
theorem dL_law_2105 : decode cL_law 2105 = .ok (.aload_n 2, 1) := by decide +kernel
theorem dL_law_2106 : decode cL_law 2106 = .ok (.invokevirtual 148, 3) := by decide +kernel
theorem dL_law_2109 : decode cL_law 2109 = .ok (.iload 6, 2) := by decide +kernel
theorem dL_law_2111 : decode cL_law 2111 = .ok (.if_icmp .eq 5, 3) := by decide +kernel
theorem dL_law_2114 : decode cL_law 2114 = .ok (.iconst 0, 1) := by decide +kernel
theorem dL_law_2115 : decode cL_law 2115 = .ok (.ireturn, 1) := by decide +kernel
theorem dL_law_2116 : decode cL_law 2116 = .ok (.iload 6, 2) := by decide +kernel
theorem dL_law_2118 : decode cL_law 2118 = .ok (.ifCond .ne 14, 3) := by decide +kernel
theorem dL_law_2121 : decode cL_law 2121 = .ok (.aload_n 3, 1) := by decide +kernel
theorem dL_law_2122 : decode cL_law 2122 = .ok (.iconst 0, 1) := by decide +kernel
theorem dL_law_2123 : decode cL_law 2123 = .ok (.laload, 1) := by decide +kernel
theorem dL_law_2124 : decode cL_law 2124 = .ok (.lload 7, 2) := by decide +kernel
theorem dL_law_2126 : decode cL_law 2126 = .ok (.lcmp, 1) := by decide +kernel
theorem dL_law_2127 : decode cL_law 2127 = .ok (.ifCond .eq 5, 3) := by decide +kernel
theorem dL_law_2130 : decode cL_law 2130 = .ok (.iconst 0, 1) := by decide +kernel
theorem dL_law_2131 : decode cL_law 2131 = .ok (.ireturn, 1) := by decide +kernel
theorem dL_law_2132 : decode cL_law 2132 = .ok (.goto 495, 3) := by decide +kernel
theorem dL_law_2135 : decode cL_law 2135 = .ok (.aload_n 1, 1) := by decide +kernel
theorem dL_law_2136 : decode cL_law 2136 = .ok (.aload_n 0, 1) := by decide +kernel
theorem dL_law_2137 : decode cL_law 2137 = .ok (.iload 5, 2) := by decide +kernel
theorem dL_law_2139 : decode cL_law 2139 = .ok (.iconst 1, 1) := by decide +kernel
theorem dL_law_2140 : decode cL_law 2140 = .ok (.iadd, 1) := by decide +kernel
theorem dL_law_2141 : decode cL_law 2141 = .ok (.iaload, 1) := by decide +kernel
theorem dL_law_2142 : decode cL_law 2142 = .ok (.aload_n 0, 1) := by decide +kernel
theorem dL_law_2143 : decode cL_law 2143 = .ok (.iload 5, 2) := by decide +kernel
theorem dL_law_2145 : decode cL_law 2145 = .ok (.iconst 2, 1) := by decide +kernel
theorem dL_law_2146 : decode cL_law 2146 = .ok (.iadd, 1) := by decide +kernel
theorem dL_law_2147 : decode cL_law 2147 = .ok (.iaload, 1) := by decide +kernel
theorem dL_law_2148 : decode cL_law 2148 = .ok (.aload_n 3, 1) := by decide +kernel
theorem dL_law_2149 : decode cL_law 2149 = .ok (.invokestatic 254, 3) := by decide +kernel
theorem dL_law_2152 : decode cL_law 2152 = .ok (.istore 6, 2) := by decide +kernel
theorem dL_law_2154 : decode cL_law 2154 = .ok (.aload_n 2, 1) := by decide +kernel
theorem dL_law_2155 : decode cL_law 2155 = .ok (.aload_n 0, 1) := by decide +kernel
theorem dL_law_2156 : decode cL_law 2156 = .ok (.iload 5, 2) := by decide +kernel
theorem dL_law_2158 : decode cL_law 2158 = .ok (.iconst 1, 1) := by decide +kernel
theorem dL_law_2159 : decode cL_law 2159 = .ok (.iadd, 1) := by decide +kernel
theorem dL_law_2160 : decode cL_law 2160 = .ok (.iaload, 1) := by decide +kernel
theorem dL_law_2161 : decode cL_law 2161 = .ok (.aload_n 0, 1) := by decide +kernel
theorem dL_law_2162 : decode cL_law 2162 = .ok (.iload 5, 2) := by decide +kernel
theorem dL_law_2164 : decode cL_law 2164 = .ok (.iconst 2, 1) := by decide +kernel
theorem dL_law_2165 : decode cL_law 2165 = .ok (.iadd, 1) := by decide +kernel
theorem dL_law_2166 : decode cL_law 2166 = .ok (.iaload, 1) := by decide +kernel
theorem dL_law_2167 : decode cL_law 2167 = .ok (.invokevirtual 256, 3) := by decide +kernel
theorem dL_law_2170 : decode cL_law 2170 = .ok (.istore 7, 2) := by decide +kernel
theorem dL_law_2172 : decode cL_law 2172 = .ok (.aload_n 2, 1) := by decide +kernel
theorem dL_law_2173 : decode cL_law 2173 = .ok (.invokevirtual 148, 3) := by decide +kernel
theorem dL_law_2176 : decode cL_law 2176 = .ok (.iload 6, 2) := by decide +kernel
theorem dL_law_2178 : decode cL_law 2178 = .ok (.if_icmp .eq 5, 3) := by decide +kernel
theorem dL_law_2181 : decode cL_law 2181 = .ok (.iconst 0, 1) := by decide +kernel
theorem dL_law_2182 : decode cL_law 2182 = .ok (.ireturn, 1) := by decide +kernel
theorem dL_law_2183 : decode cL_law 2183 = .ok (.iload 6, 2) := by decide +kernel
theorem dL_law_2185 : decode cL_law 2185 = .ok (.ifCond .ne 15, 3) := by decide +kernel
theorem dL_law_2188 : decode cL_law 2188 = .ok (.aload_n 3, 1) := by decide +kernel
theorem dL_law_2189 : decode cL_law 2189 = .ok (.iconst 0, 1) := by decide +kernel
theorem dL_law_2190 : decode cL_law 2190 = .ok (.laload, 1) := by decide +kernel
theorem dL_law_2191 : decode cL_law 2191 = .ok (.iload 7, 2) := by decide +kernel
theorem dL_law_2193 : decode cL_law 2193 = .ok (.i2l, 1) := by decide +kernel
theorem dL_law_2194 : decode cL_law 2194 = .ok (.lcmp, 1) := by decide +kernel
theorem dL_law_2195 : decode cL_law 2195 = .ok (.ifCond .eq 5, 3) := by decide +kernel
theorem dL_law_2198 : decode cL_law 2198 = .ok (.iconst 0, 1) := by decide +kernel
theorem dL_law_2199 : decode cL_law 2199 = .ok (.ireturn, 1) := by decide +kernel
theorem dL_law_2200 : decode cL_law 2200 = .ok (.goto 427, 3) := by decide +kernel
theorem dL_law_2203 : decode cL_law 2203 = .ok (.aload_n 1, 1) := by decide +kernel
theorem dL_law_2204 : decode cL_law 2204 = .ok (.aload_n 0, 1) := by decide +kernel
theorem dL_law_2205 : decode cL_law 2205 = .ok (.iload 5, 2) := by decide +kernel
theorem dL_law_2207 : decode cL_law 2207 = .ok (.iconst 1, 1) := by decide +kernel
theorem dL_law_2208 : decode cL_law 2208 = .ok (.iadd, 1) := by decide +kernel
theorem dL_law_2209 : decode cL_law 2209 = .ok (.iaload, 1) := by decide +kernel
theorem dL_law_2210 : decode cL_law 2210 = .ok (.aload_n 0, 1) := by decide +kernel
theorem dL_law_2211 : decode cL_law 2211 = .ok (.iload 5, 2) := by decide +kernel
theorem dL_law_2213 : decode cL_law 2213 = .ok (.iconst 2, 1) := by decide +kernel
theorem dL_law_2214 : decode cL_law 2214 = .ok (.iadd, 1) := by decide +kernel
theorem dL_law_2215 : decode cL_law 2215 = .ok (.iaload, 1) := by decide +kernel
theorem dL_law_2216 : decode cL_law 2216 = .ok (.aload_n 0, 1) := by decide +kernel
theorem dL_law_2217 : decode cL_law 2217 = .ok (.iload 5, 2) := by decide +kernel
theorem dL_law_2219 : decode cL_law 2219 = .ok (.iconst 3, 1) := by decide +kernel
theorem dL_law_2220 : decode cL_law 2220 = .ok (.iadd, 1) := by decide +kernel
theorem dL_law_2221 : decode cL_law 2221 = .ok (.iaload, 1) := by decide +kernel
theorem dL_law_2222 : decode cL_law 2222 = .ok (.aload_n 3, 1) := by decide +kernel
theorem dL_law_2223 : decode cL_law 2223 = .ok (.invokestatic 257, 3) := by decide +kernel
theorem dL_law_2226 : decode cL_law 2226 = .ok (.istore 6, 2) := by decide +kernel
theorem dL_law_2228 : decode cL_law 2228 = .ok (.aload_n 2, 1) := by decide +kernel
theorem dL_law_2229 : decode cL_law 2229 = .ok (.aload_n 0, 1) := by decide +kernel
theorem dL_law_2230 : decode cL_law 2230 = .ok (.iload 5, 2) := by decide +kernel
theorem dL_law_2232 : decode cL_law 2232 = .ok (.iconst 1, 1) := by decide +kernel
theorem dL_law_2233 : decode cL_law 2233 = .ok (.iadd, 1) := by decide +kernel
theorem dL_law_2234 : decode cL_law 2234 = .ok (.iaload, 1) := by decide +kernel
theorem dL_law_2235 : decode cL_law 2235 = .ok (.aload_n 0, 1) := by decide +kernel
theorem dL_law_2236 : decode cL_law 2236 = .ok (.iload 5, 2) := by decide +kernel
theorem dL_law_2238 : decode cL_law 2238 = .ok (.iconst 2, 1) := by decide +kernel
theorem dL_law_2239 : decode cL_law 2239 = .ok (.iadd, 1) := by decide +kernel
theorem dL_law_2240 : decode cL_law 2240 = .ok (.iaload, 1) := by decide +kernel
theorem dL_law_2241 : decode cL_law 2241 = .ok (.aload_n 0, 1) := by decide +kernel
theorem dL_law_2242 : decode cL_law 2242 = .ok (.iload 5, 2) := by decide +kernel
theorem dL_law_2244 : decode cL_law 2244 = .ok (.iconst 3, 1) := by decide +kernel
theorem dL_law_2245 : decode cL_law 2245 = .ok (.iadd, 1) := by decide +kernel
theorem dL_law_2246 : decode cL_law 2246 = .ok (.iaload, 1) := by decide +kernel
theorem dL_law_2247 : decode cL_law 2247 = .ok (.invokevirtual 259, 3) := by decide +kernel
theorem dL_law_2250 : decode cL_law 2250 = .ok (.lstore 7, 2) := by decide +kernel
theorem dL_law_2252 : decode cL_law 2252 = .ok (.aload_n 2, 1) := by decide +kernel
theorem dL_law_2253 : decode cL_law 2253 = .ok (.invokevirtual 148, 3) := by decide +kernel
theorem dL_law_2256 : decode cL_law 2256 = .ok (.iload 6, 2) := by decide +kernel
theorem dL_law_2258 : decode cL_law 2258 = .ok (.if_icmp .eq 5, 3) := by decide +kernel
theorem dL_law_2261 : decode cL_law 2261 = .ok (.iconst 0, 1) := by decide +kernel
theorem dL_law_2262 : decode cL_law 2262 = .ok (.ireturn, 1) := by decide +kernel
theorem dL_law_2263 : decode cL_law 2263 = .ok (.iload 6, 2) := by decide +kernel
theorem dL_law_2265 : decode cL_law 2265 = .ok (.ifCond .ne 14, 3) := by decide +kernel
theorem dL_law_2268 : decode cL_law 2268 = .ok (.aload_n 3, 1) := by decide +kernel
theorem dL_law_2269 : decode cL_law 2269 = .ok (.iconst 0, 1) := by decide +kernel
theorem dL_law_2270 : decode cL_law 2270 = .ok (.laload, 1) := by decide +kernel
theorem dL_law_2271 : decode cL_law 2271 = .ok (.lload 7, 2) := by decide +kernel
theorem dL_law_2273 : decode cL_law 2273 = .ok (.lcmp, 1) := by decide +kernel
theorem dL_law_2274 : decode cL_law 2274 = .ok (.ifCond .eq 5, 3) := by decide +kernel
theorem dL_law_2277 : decode cL_law 2277 = .ok (.iconst 0, 1) := by decide +kernel
theorem dL_law_2278 : decode cL_law 2278 = .ok (.ireturn, 1) := by decide +kernel
theorem dL_law_2279 : decode cL_law 2279 = .ok (.goto 348, 3) := by decide +kernel
theorem dL_law_2282 : decode cL_law 2282 = .ok (.aload_n 1, 1) := by decide +kernel
theorem dL_law_2283 : decode cL_law 2283 = .ok (.aload_n 0, 1) := by decide +kernel
theorem dL_law_2284 : decode cL_law 2284 = .ok (.iload 5, 2) := by decide +kernel
theorem dL_law_2286 : decode cL_law 2286 = .ok (.iconst 1, 1) := by decide +kernel
theorem dL_law_2287 : decode cL_law 2287 = .ok (.iadd, 1) := by decide +kernel
theorem dL_law_2288 : decode cL_law 2288 = .ok (.iaload, 1) := by decide +kernel
theorem dL_law_2289 : decode cL_law 2289 = .ok (.aload_n 0, 1) := by decide +kernel
theorem dL_law_2290 : decode cL_law 2290 = .ok (.iload 5, 2) := by decide +kernel
theorem dL_law_2292 : decode cL_law 2292 = .ok (.iconst 2, 1) := by decide +kernel
theorem dL_law_2293 : decode cL_law 2293 = .ok (.iadd, 1) := by decide +kernel
theorem dL_law_2294 : decode cL_law 2294 = .ok (.iaload, 1) := by decide +kernel
theorem dL_law_2295 : decode cL_law 2295 = .ok (.aload_n 3, 1) := by decide +kernel
theorem dL_law_2296 : decode cL_law 2296 = .ok (.invokestatic 260, 3) := by decide +kernel
theorem dL_law_2299 : decode cL_law 2299 = .ok (.istore 6, 2) := by decide +kernel
theorem dL_law_2301 : decode cL_law 2301 = .ok (.aload_n 2, 1) := by decide +kernel
theorem dL_law_2302 : decode cL_law 2302 = .ok (.aload_n 0, 1) := by decide +kernel
theorem dL_law_2303 : decode cL_law 2303 = .ok (.iload 5, 2) := by decide +kernel
theorem dL_law_2305 : decode cL_law 2305 = .ok (.iconst 1, 1) := by decide +kernel
theorem dL_law_2306 : decode cL_law 2306 = .ok (.iadd, 1) := by decide +kernel
theorem dL_law_2307 : decode cL_law 2307 = .ok (.iaload, 1) := by decide +kernel
theorem dL_law_2308 : decode cL_law 2308 = .ok (.aload_n 0, 1) := by decide +kernel
theorem dL_law_2309 : decode cL_law 2309 = .ok (.iload 5, 2) := by decide +kernel
theorem dL_law_2311 : decode cL_law 2311 = .ok (.iconst 2, 1) := by decide +kernel
theorem dL_law_2312 : decode cL_law 2312 = .ok (.iadd, 1) := by decide +kernel
theorem dL_law_2313 : decode cL_law 2313 = .ok (.iaload, 1) := by decide +kernel
theorem dL_law_2314 : decode cL_law 2314 = .ok (.invokevirtual 262, 3) := by decide +kernel
theorem dL_law_2317 : decode cL_law 2317 = .ok (.lstore 7, 2) := by decide +kernel
theorem dL_law_2319 : decode cL_law 2319 = .ok (.aload_n 2, 1) := by decide +kernel
theorem dL_law_2320 : decode cL_law 2320 = .ok (.invokevirtual 148, 3) := by decide +kernel
theorem dL_law_2323 : decode cL_law 2323 = .ok (.iload 6, 2) := by decide +kernel
theorem dL_law_2325 : decode cL_law 2325 = .ok (.if_icmp .eq 5, 3) := by decide +kernel
theorem dL_law_2328 : decode cL_law 2328 = .ok (.iconst 0, 1) := by decide +kernel
theorem dL_law_2329 : decode cL_law 2329 = .ok (.ireturn, 1) := by decide +kernel
theorem dL_law_2330 : decode cL_law 2330 = .ok (.iload 6, 2) := by decide +kernel
theorem dL_law_2332 : decode cL_law 2332 = .ok (.ifCond .ne 14, 3) := by decide +kernel
theorem dL_law_2335 : decode cL_law 2335 = .ok (.aload_n 3, 1) := by decide +kernel
theorem dL_law_2336 : decode cL_law 2336 = .ok (.iconst 0, 1) := by decide +kernel
theorem dL_law_2337 : decode cL_law 2337 = .ok (.laload, 1) := by decide +kernel
theorem dL_law_2338 : decode cL_law 2338 = .ok (.lload 7, 2) := by decide +kernel
theorem dL_law_2340 : decode cL_law 2340 = .ok (.lcmp, 1) := by decide +kernel
theorem dL_law_2341 : decode cL_law 2341 = .ok (.ifCond .eq 5, 3) := by decide +kernel
theorem dL_law_2344 : decode cL_law 2344 = .ok (.iconst 0, 1) := by decide +kernel
theorem dL_law_2345 : decode cL_law 2345 = .ok (.ireturn, 1) := by decide +kernel
theorem dL_law_2346 : decode cL_law 2346 = .ok (.goto 281, 3) := by decide +kernel
theorem dL_law_2349 : decode cL_law 2349 = .ok (.aload_n 1, 1) := by decide +kernel
theorem dL_law_2350 : decode cL_law 2350 = .ok (.aload_n 0, 1) := by decide +kernel
theorem dL_law_2351 : decode cL_law 2351 = .ok (.iload 5, 2) := by decide +kernel
theorem dL_law_2353 : decode cL_law 2353 = .ok (.iconst 1, 1) := by decide +kernel
theorem dL_law_2354 : decode cL_law 2354 = .ok (.iadd, 1) := by decide +kernel
theorem dL_law_2355 : decode cL_law 2355 = .ok (.iaload, 1) := by decide +kernel
theorem dL_law_2356 : decode cL_law 2356 = .ok (.aload_n 0, 1) := by decide +kernel
theorem dL_law_2357 : decode cL_law 2357 = .ok (.iload 5, 2) := by decide +kernel
theorem dL_law_2359 : decode cL_law 2359 = .ok (.iconst 2, 1) := by decide +kernel
theorem dL_law_2360 : decode cL_law 2360 = .ok (.iadd, 1) := by decide +kernel
theorem dL_law_2361 : decode cL_law 2361 = .ok (.iaload, 1) := by decide +kernel
theorem dL_law_2362 : decode cL_law 2362 = .ok (.aload_n 3, 1) := by decide +kernel
theorem dL_law_2363 : decode cL_law 2363 = .ok (.invokestatic 263, 3) := by decide +kernel
theorem dL_law_2366 : decode cL_law 2366 = .ok (.istore 6, 2) := by decide +kernel
theorem dL_law_2368 : decode cL_law 2368 = .ok (.aload_n 2, 1) := by decide +kernel
theorem dL_law_2369 : decode cL_law 2369 = .ok (.aload_n 0, 1) := by decide +kernel
theorem dL_law_2370 : decode cL_law 2370 = .ok (.iload 5, 2) := by decide +kernel
theorem dL_law_2372 : decode cL_law 2372 = .ok (.iconst 1, 1) := by decide +kernel
theorem dL_law_2373 : decode cL_law 2373 = .ok (.iadd, 1) := by decide +kernel
theorem dL_law_2374 : decode cL_law 2374 = .ok (.iaload, 1) := by decide +kernel
theorem dL_law_2375 : decode cL_law 2375 = .ok (.aload_n 0, 1) := by decide +kernel
theorem dL_law_2376 : decode cL_law 2376 = .ok (.iload 5, 2) := by decide +kernel
theorem dL_law_2378 : decode cL_law 2378 = .ok (.iconst 2, 1) := by decide +kernel
theorem dL_law_2379 : decode cL_law 2379 = .ok (.iadd, 1) := by decide +kernel
theorem dL_law_2380 : decode cL_law 2380 = .ok (.iaload, 1) := by decide +kernel
theorem dL_law_2381 : decode cL_law 2381 = .ok (.invokevirtual 265, 3) := by decide +kernel
theorem dL_law_2384 : decode cL_law 2384 = .ok (.istore 7, 2) := by decide +kernel
theorem dL_law_2386 : decode cL_law 2386 = .ok (.aload_n 2, 1) := by decide +kernel
theorem dL_law_2387 : decode cL_law 2387 = .ok (.invokevirtual 148, 3) := by decide +kernel
theorem dL_law_2390 : decode cL_law 2390 = .ok (.iload 6, 2) := by decide +kernel
theorem dL_law_2392 : decode cL_law 2392 = .ok (.if_icmp .eq 5, 3) := by decide +kernel
theorem dL_law_2395 : decode cL_law 2395 = .ok (.iconst 0, 1) := by decide +kernel
theorem dL_law_2396 : decode cL_law 2396 = .ok (.ireturn, 1) := by decide +kernel
theorem dL_law_2397 : decode cL_law 2397 = .ok (.iload 6, 2) := by decide +kernel
theorem dL_law_2399 : decode cL_law 2399 = .ok (.ifCond .ne 15, 3) := by decide +kernel
theorem dL_law_2402 : decode cL_law 2402 = .ok (.aload_n 3, 1) := by decide +kernel
theorem dL_law_2403 : decode cL_law 2403 = .ok (.iconst 0, 1) := by decide +kernel
theorem dL_law_2404 : decode cL_law 2404 = .ok (.laload, 1) := by decide +kernel
theorem dL_law_2405 : decode cL_law 2405 = .ok (.iload 7, 2) := by decide +kernel
theorem dL_law_2407 : decode cL_law 2407 = .ok (.i2l, 1) := by decide +kernel
theorem dL_law_2408 : decode cL_law 2408 = .ok (.lcmp, 1) := by decide +kernel
theorem dL_law_2409 : decode cL_law 2409 = .ok (.ifCond .eq 5, 3) := by decide +kernel
theorem dL_law_2412 : decode cL_law 2412 = .ok (.iconst 0, 1) := by decide +kernel
theorem dL_law_2413 : decode cL_law 2413 = .ok (.ireturn, 1) := by decide +kernel
theorem dL_law_2414 : decode cL_law 2414 = .ok (.goto 213, 3) := by decide +kernel
theorem dL_law_2417 : decode cL_law 2417 = .ok (.aload_n 1, 1) := by decide +kernel
theorem dL_law_2418 : decode cL_law 2418 = .ok (.aload_n 0, 1) := by decide +kernel
theorem dL_law_2419 : decode cL_law 2419 = .ok (.iload 5, 2) := by decide +kernel
theorem dL_law_2421 : decode cL_law 2421 = .ok (.iconst 1, 1) := by decide +kernel
theorem dL_law_2422 : decode cL_law 2422 = .ok (.iadd, 1) := by decide +kernel
theorem dL_law_2423 : decode cL_law 2423 = .ok (.iaload, 1) := by decide +kernel
theorem dL_law_2424 : decode cL_law 2424 = .ok (.aload_n 0, 1) := by decide +kernel
theorem dL_law_2425 : decode cL_law 2425 = .ok (.iload 5, 2) := by decide +kernel
theorem dL_law_2427 : decode cL_law 2427 = .ok (.iconst 2, 1) := by decide +kernel
theorem dL_law_2428 : decode cL_law 2428 = .ok (.iadd, 1) := by decide +kernel
theorem dL_law_2429 : decode cL_law 2429 = .ok (.iaload, 1) := by decide +kernel
theorem dL_law_2430 : decode cL_law 2430 = .ok (.aload_n 0, 1) := by decide +kernel
theorem dL_law_2431 : decode cL_law 2431 = .ok (.iload 5, 2) := by decide +kernel
theorem dL_law_2433 : decode cL_law 2433 = .ok (.iconst 3, 1) := by decide +kernel
theorem dL_law_2434 : decode cL_law 2434 = .ok (.iadd, 1) := by decide +kernel
theorem dL_law_2435 : decode cL_law 2435 = .ok (.iaload, 1) := by decide +kernel
theorem dL_law_2436 : decode cL_law 2436 = .ok (.aload_n 3, 1) := by decide +kernel
theorem dL_law_2437 : decode cL_law 2437 = .ok (.invokestatic 266, 3) := by decide +kernel
theorem dL_law_2440 : decode cL_law 2440 = .ok (.istore 6, 2) := by decide +kernel
theorem dL_law_2442 : decode cL_law 2442 = .ok (.aload_n 2, 1) := by decide +kernel
theorem dL_law_2443 : decode cL_law 2443 = .ok (.aload_n 0, 1) := by decide +kernel
theorem dL_law_2444 : decode cL_law 2444 = .ok (.iload 5, 2) := by decide +kernel
theorem dL_law_2446 : decode cL_law 2446 = .ok (.iconst 1, 1) := by decide +kernel
theorem dL_law_2447 : decode cL_law 2447 = .ok (.iadd, 1) := by decide +kernel
theorem dL_law_2448 : decode cL_law 2448 = .ok (.iaload, 1) := by decide +kernel
theorem dL_law_2449 : decode cL_law 2449 = .ok (.aload_n 0, 1) := by decide +kernel
theorem dL_law_2450 : decode cL_law 2450 = .ok (.iload 5, 2) := by decide +kernel
theorem dL_law_2452 : decode cL_law 2452 = .ok (.iconst 2, 1) := by decide +kernel
theorem dL_law_2453 : decode cL_law 2453 = .ok (.iadd, 1) := by decide +kernel
theorem dL_law_2454 : decode cL_law 2454 = .ok (.iaload, 1) := by decide +kernel
theorem dL_law_2455 : decode cL_law 2455 = .ok (.aload_n 0, 1) := by decide +kernel
theorem dL_law_2456 : decode cL_law 2456 = .ok (.iload 5, 2) := by decide +kernel
theorem dL_law_2458 : decode cL_law 2458 = .ok (.iconst 3, 1) := by decide +kernel
theorem dL_law_2459 : decode cL_law 2459 = .ok (.iadd, 1) := by decide +kernel
theorem dL_law_2460 : decode cL_law 2460 = .ok (.iaload, 1) := by decide +kernel
theorem dL_law_2461 : decode cL_law 2461 = .ok (.invokevirtual 268, 3) := by decide +kernel
theorem dL_law_2464 : decode cL_law 2464 = .ok (.lstore 7, 2) := by decide +kernel
theorem dL_law_2466 : decode cL_law 2466 = .ok (.aload_n 2, 1) := by decide +kernel
theorem dL_law_2467 : decode cL_law 2467 = .ok (.invokevirtual 148, 3) := by decide +kernel
theorem dL_law_2470 : decode cL_law 2470 = .ok (.iload 6, 2) := by decide +kernel
theorem dL_law_2472 : decode cL_law 2472 = .ok (.if_icmp .eq 5, 3) := by decide +kernel
theorem dL_law_2475 : decode cL_law 2475 = .ok (.iconst 0, 1) := by decide +kernel
theorem dL_law_2476 : decode cL_law 2476 = .ok (.ireturn, 1) := by decide +kernel
theorem dL_law_2477 : decode cL_law 2477 = .ok (.iload 6, 2) := by decide +kernel
theorem dL_law_2479 : decode cL_law 2479 = .ok (.ifCond .ne 14, 3) := by decide +kernel
theorem dL_law_2482 : decode cL_law 2482 = .ok (.aload_n 3, 1) := by decide +kernel
theorem dL_law_2483 : decode cL_law 2483 = .ok (.iconst 0, 1) := by decide +kernel
theorem dL_law_2484 : decode cL_law 2484 = .ok (.laload, 1) := by decide +kernel
theorem dL_law_2485 : decode cL_law 2485 = .ok (.lload 7, 2) := by decide +kernel
theorem dL_law_2487 : decode cL_law 2487 = .ok (.lcmp, 1) := by decide +kernel
theorem dL_law_2488 : decode cL_law 2488 = .ok (.ifCond .eq 5, 3) := by decide +kernel
theorem dL_law_2491 : decode cL_law 2491 = .ok (.iconst 0, 1) := by decide +kernel
theorem dL_law_2492 : decode cL_law 2492 = .ok (.ireturn, 1) := by decide +kernel
theorem dL_law_2493 : decode cL_law 2493 = .ok (.goto 134, 3) := by decide +kernel
theorem dL_law_2496 : decode cL_law 2496 = .ok (.aload_n 1, 1) := by decide +kernel
theorem dL_law_2497 : decode cL_law 2497 = .ok (.aload 4, 2) := by decide +kernel
theorem dL_law_2499 : decode cL_law 2499 = .ok (.invokestatic 269, 3) := by decide +kernel
theorem dL_law_2502 : decode cL_law 2502 = .ok (.istore 6, 2) := by decide +kernel
theorem dL_law_2504 : decode cL_law 2504 = .ok (.aload_n 2, 1) := by decide +kernel
theorem dL_law_2505 : decode cL_law 2505 = .ok (.invokevirtual 272, 3) := by decide +kernel
theorem dL_law_2508 : decode cL_law 2508 = .ok (.fstore 7, 2) := by decide +kernel
theorem dL_law_2510 : decode cL_law 2510 = .ok (.aload_n 2, 1) := by decide +kernel
theorem dL_law_2511 : decode cL_law 2511 = .ok (.invokevirtual 148, 3) := by decide +kernel
theorem dL_law_2514 : decode cL_law 2514 = .ok (.iload 6, 2) := by decide +kernel
theorem dL_law_2516 : decode cL_law 2516 = .ok (.if_icmp .eq 5, 3) := by decide +kernel
theorem dL_law_2519 : decode cL_law 2519 = .ok (.iconst 0, 1) := by decide +kernel
theorem dL_law_2520 : decode cL_law 2520 = .ok (.ireturn, 1) := by decide +kernel
theorem dL_law_2521 : decode cL_law 2521 = .ok (.iload 6, 2) := by decide +kernel
theorem dL_law_2523 : decode cL_law 2523 = .ok (.ifCond .ne 36, 3) := by decide +kernel
theorem dL_law_2526 : decode cL_law 2526 = .ok (.aload 4, 2) := by decide +kernel
theorem dL_law_2528 : decode cL_law 2528 = .ok (.iconst 0, 1) := by decide +kernel
theorem dL_law_2529 : decode cL_law 2529 = .ok (.daload, 1) := by decide +kernel
theorem dL_law_2530 : decode cL_law 2530 = .ok (.fload 7, 2) := by decide +kernel
theorem dL_law_2532 : decode cL_law 2532 = .ok (.f2d, 1) := by decide +kernel
theorem dL_law_2533 : decode cL_law 2533 = .ok (.dcmp .l, 1) := by decide +kernel
theorem dL_law_2534 : decode cL_law 2534 = .ok (.ifCond .eq 25, 3) := by decide +kernel
theorem dL_law_2537 : decode cL_law 2537 = .ok (.aload 4, 2) := by decide +kernel
theorem dL_law_2539 : decode cL_law 2539 = .ok (.iconst 0, 1) := by decide +kernel
theorem dL_law_2540 : decode cL_law 2540 = .ok (.daload, 1) := by decide +kernel
theorem dL_law_2541 : decode cL_law 2541 = .ok (.aload 4, 2) := by decide +kernel
theorem dL_law_2543 : decode cL_law 2543 = .ok (.iconst 0, 1) := by decide +kernel
theorem dL_law_2544 : decode cL_law 2544 = .ok (.daload, 1) := by decide +kernel
theorem dL_law_2545 : decode cL_law 2545 = .ok (.dcmp .l, 1) := by decide +kernel
theorem dL_law_2546 : decode cL_law 2546 = .ok (.ifCond .eq 11, 3) := by decide +kernel
theorem dL_law_2549 : decode cL_law 2549 = .ok (.fload 7, 2) := by decide +kernel
theorem dL_law_2551 : decode cL_law 2551 = .ok (.fload 7, 2) := by decide +kernel
theorem dL_law_2553 : decode cL_law 2553 = .ok (.fcmp .l, 1) := by decide +kernel
theorem dL_law_2554 : decode cL_law 2554 = .ok (.ifCond .ne 5, 3) := by decide +kernel
theorem dL_law_2557 : decode cL_law 2557 = .ok (.iconst 0, 1) := by decide +kernel
theorem dL_law_2558 : decode cL_law 2558 = .ok (.ireturn, 1) := by decide +kernel
theorem dL_law_2559 : decode cL_law 2559 = .ok (.goto 68, 3) := by decide +kernel
theorem dL_law_2562 : decode cL_law 2562 = .ok (.aload_n 1, 1) := by decide +kernel
theorem dL_law_2563 : decode cL_law 2563 = .ok (.aload 4, 2) := by decide +kernel
theorem dL_law_2565 : decode cL_law 2565 = .ok (.invokestatic 273, 3) := by decide +kernel
theorem dL_law_2568 : decode cL_law 2568 = .ok (.istore 6, 2) := by decide +kernel
theorem dL_law_2570 : decode cL_law 2570 = .ok (.aload_n 2, 1) := by decide +kernel
theorem dL_law_2571 : decode cL_law 2571 = .ok (.invokevirtual 275, 3) := by decide +kernel
theorem dL_law_2574 : decode cL_law 2574 = .ok (.dstore 7, 2) := by decide +kernel
theorem dL_law_2576 : decode cL_law 2576 = .ok (.aload_n 2, 1) := by decide +kernel
theorem dL_law_2577 : decode cL_law 2577 = .ok (.invokevirtual 148, 3) := by decide +kernel
theorem dL_law_2580 : decode cL_law 2580 = .ok (.iload 6, 2) := by decide +kernel
theorem dL_law_2582 : decode cL_law 2582 = .ok (.if_icmp .eq 5, 3) := by decide +kernel
theorem dL_law_2585 : decode cL_law 2585 = .ok (.iconst 0, 1) := by decide +kernel
theorem dL_law_2586 : decode cL_law 2586 = .ok (.ireturn, 1) := by decide +kernel
theorem dL_law_2587 : decode cL_law 2587 = .ok (.iload 6, 2) := by decide +kernel
theorem dL_law_2589 : decode cL_law 2589 = .ok (.ifCond .ne 35, 3) := by decide +kernel
theorem dL_law_2592 : decode cL_law 2592 = .ok (.aload 4, 2) := by decide +kernel
theorem dL_law_2594 : decode cL_law 2594 = .ok (.iconst 0, 1) := by decide +kernel
theorem dL_law_2595 : decode cL_law 2595 = .ok (.daload, 1) := by decide +kernel
theorem dL_law_2596 : decode cL_law 2596 = .ok (.dload 7, 2) := by decide +kernel
theorem dL_law_2598 : decode cL_law 2598 = .ok (.dcmp .l, 1) := by decide +kernel
theorem dL_law_2599 : decode cL_law 2599 = .ok (.ifCond .eq 25, 3) := by decide +kernel
theorem dL_law_2602 : decode cL_law 2602 = .ok (.aload 4, 2) := by decide +kernel
theorem dL_law_2604 : decode cL_law 2604 = .ok (.iconst 0, 1) := by decide +kernel
theorem dL_law_2605 : decode cL_law 2605 = .ok (.daload, 1) := by decide +kernel
theorem dL_law_2606 : decode cL_law 2606 = .ok (.aload 4, 2) := by decide +kernel
theorem dL_law_2608 : decode cL_law 2608 = .ok (.iconst 0, 1) := by decide +kernel
theorem dL_law_2609 : decode cL_law 2609 = .ok (.daload, 1) := by decide +kernel
theorem dL_law_2610 : decode cL_law 2610 = .ok (.dcmp .l, 1) := by decide +kernel
theorem dL_law_2611 : decode cL_law 2611 = .ok (.ifCond .eq 11, 3) := by decide +kernel
theorem dL_law_2614 : decode cL_law 2614 = .ok (.dload 7, 2) := by decide +kernel
theorem dL_law_2616 : decode cL_law 2616 = .ok (.dload 7, 2) := by decide +kernel
theorem dL_law_2618 : decode cL_law 2618 = .ok (.dcmp .l, 1) := by decide +kernel
theorem dL_law_2619 : decode cL_law 2619 = .ok (.ifCond .ne 5, 3) := by decide +kernel
theorem dL_law_2622 : decode cL_law 2622 = .ok (.iconst 0, 1) := by decide +kernel
theorem dL_law_2623 : decode cL_law 2623 = .ok (.ireturn, 1) := by decide +kernel
theorem dL_law_2624 : decode cL_law 2624 = .ok (.goto 3, 3) := by decide +kernel
theorem dL_law_2627 : decode cL_law 2627 = .ok (.iinc 5 5, 3) := by decide +kernel
theorem dL_law_2630 : decode cL_law 2630 = .ok (.goto (-2602), 3) := by decide +kernel
theorem dL_law_2633 : decode cL_law 2633 = .ok (.iconst 1, 1) := by decide +kernel
theorem dL_law_2634 : decode cL_law 2634 = .ok (.ireturn, 1) := by decide +kernel
