theorem dX13_init_2041 : decode cX13_init 2041 = .ok (.iastore, 1) := by decide +kernel
theorem dX13_init_2042 : decode cX13_init 2042 = .ok (.dup, 1) := by decide +kernel
theorem dX13_init_2043 : decode cX13_init 2043 = .ok (.bipush 59, 2) := by decide +kernel
theorem dX13_init_2045 : decode cX13_init 2045 = .ok (.ldc_w 297, 3) := by decide +kernel
theorem dX13_init_2048 : decode cX13_init 2048 = .ok (.iastore, 1) := by decide +kernel
theorem dX13_init_2049 : decode cX13_init 2049 = .ok (.dup, 1) := by decide +kernel
theorem dX13_init_2050 : decode cX13_init 2050 = .ok (.bipush 60, 2) := by decide +kernel
theorem dX13_init_2052 : decode cX13_init 2052 = .ok (.ldc_w 298, 3) := by decide +kernel
theorem dX13_init_2055 : decode cX13_init 2055 = .ok (.iastore, 1) := by decide +kernel
theorem dX13_init_2056 : decode cX13_init 2056 = .ok (.dup, 1) := by decide +kernel
theorem dX13_init_2057 : decode cX13_init 2057 = .ok (.bipush 61, 2) := by decide +kernel
theorem dX13_init_2059 : decode cX13_init 2059 = .ok (.ldc_w 299, 3) := by decide +kernel
theorem dX13_init_2062 : decode cX13_init 2062 = .ok (.iastore, 1) := by decide +kernel
theorem dX13_init_2063 : decode cX13_init 2063 = .ok (.dup, 1) := by decide +kernel
theorem dX13_init_2064 : decode cX13_init 2064 = .ok (.bipush 62, 2) := by decide +kernel
theorem dX13_init_2066 : decode cX13_init 2066 = .ok (.ldc_w 300, 3) := by decide +kernel
theorem dX13_init_2069 : decode cX13_init 2069 = .ok (.iastore, 1) := by decide +kernel
theorem dX13_init_2070 : decode cX13_init 2070 = .ok (.dup, 1) := by decide +kernel
theorem dX13_init_2071 : decode cX13_init 2071 = .ok (.bipush 63, 2) := by decide +kernel
theorem dX13_init_2073 : decode cX13_init 2073 = .ok (.sipush 4111, 3) := by decide +kernel
theorem dX13_init_2076 : decode cX13_init 2076 = .ok (.iastore, 1) := by decide +kernel
theorem dX13_init_2077 : decode cX13_init 2077 = .ok (.dup, 1) := by decide +kernel
theorem dX13_init_2078 : decode cX13_init 2078 = .ok (.bipush 64, 2) := by decide +kernel
theorem dX13_init_2080 : decode cX13_init 2080 = .ok (.bipush 115, 2) := by decide +kernel
theorem dX13_init_2082 : decode cX13_init 2082 = .ok (.iastore, 1) := by decide +kernel
theorem dX13_init_2083 : decode cX13_init 2083 = .ok (.dup, 1) := by decide +kernel
theorem dX13_init_2084 : decode cX13_init 2084 = .ok (.bipush 65, 2) := by decide +kernel
theorem dX13_init_2086 : decode cX13_init 2086 = .ok (.ldc_w 301, 3) := by decide +kernel
theorem dX13_init_2089 : decode cX13_init 2089 = .ok (.iastore, 1) := by decide +kernel
theorem dX13_init_2090 : decode cX13_init 2090 = .ok (.dup, 1) := by decide +kernel
theorem dX13_init_2091 : decode cX13_init 2091 = .ok (.bipush 66, 2) := by decide +kernel
theorem dX13_init_2093 : decode cX13_init 2093 = .ok (.bipush 19, 2) := by decide +kernel
theorem dX13_init_2095 : decode cX13_init 2095 = .ok (.iastore, 1) := by decide +kernel
theorem dX13_init_2096 : decode cX13_init 2096 = .ok (.dup, 1) := by decide +kernel
theorem dX13_init_2097 : decode cX13_init 2097 = .ok (.bipush 67, 2) := by decide +kernel
theorem dX13_init_2099 : decode cX13_init 2099 = .ok (.ldc_w 302, 3) := by decide +kernel
theorem dX13_init_2102 : decode cX13_init 2102 = .ok (.iastore, 1) := by decide +kernel
theorem dX13_init_2103 : decode cX13_init 2103 = .ok (.dup, 1) := by decide +kernel
theorem dX13_init_2104 : decode cX13_init 2104 = .ok (.bipush 68, 2) := by decide +kernel
theorem dX13_init_2106 : decode cX13_init 2106 = .ok (.iconst 0, 1) := by decide +kernel
theorem dX13_init_2107 : decode cX13_init 2107 = .ok (.iastore, 1) := by decide +kernel
theorem dX13_init_2108 : decode cX13_init 2108 = .ok (.dup, 1) := by decide +kernel
theorem dX13_init_2109 : decode cX13_init 2109 = .ok (.bipush 69, 2) := by decide +kernel
theorem dX13_init_2111 : decode cX13_init 2111 = .ok (.sipush 16384, 3) := by decide +kernel
theorem dX13_init_2114 : decode cX13_init 2114 = .ok (.iastore, 1) := by decide +kernel
theorem dX13_init_2115 : decode cX13_init 2115 = .ok (.dup, 1) := by decide +kernel
theorem dX13_init_2116 : decode cX13_init 2116 = .ok (.bipush 70, 2) := by decide +kernel
theorem dX13_init_2118 : decode cX13_init 2118 = .ok (.ldc_w 303, 3) := by decide +kernel
theorem dX13_init_2121 : decode cX13_init 2121 = .ok (.iastore, 1) := by decide +kernel
theorem dX13_init_2122 : decode cX13_init 2122 = .ok (.dup, 1) := by decide +kernel
theorem dX13_init_2123 : decode cX13_init 2123 = .ok (.bipush 71, 2) := by decide +kernel
theorem dX13_init_2125 : decode cX13_init 2125 = .ok (.iconst 1, 1) := by decide +kernel
theorem dX13_init_2126 : decode cX13_init 2126 = .ok (.iastore, 1) := by decide +kernel
theorem dX13_init_2127 : decode cX13_init 2127 = .ok (.dup, 1) := by decide +kernel
theorem dX13_init_2128 : decode cX13_init 2128 = .ok (.bipush 72, 2) := by decide +kernel
theorem dX13_init_2130 : decode cX13_init 2130 = .ok (.ldc_w 304, 3) := by decide +kernel
theorem dX13_init_2133 : decode cX13_init 2133 = .ok (.iastore, 1) := by decide +kernel
theorem dX13_init_2134 : decode cX13_init 2134 = .ok (.dup, 1) := by decide +kernel
theorem dX13_init_2135 : decode cX13_init 2135 = .ok (.bipush 73, 2) := by decide +kernel
theorem dX13_init_2137 : decode cX13_init 2137 = .ok (.iconst 1, 1) := by decide +kernel
theorem dX13_init_2138 : decode cX13_init 2138 = .ok (.iastore, 1) := by decide +kernel
theorem dX13_init_2139 : decode cX13_init 2139 = .ok (.dup, 1) := by decide +kernel
theorem dX13_init_2140 : decode cX13_init 2140 = .ok (.bipush 74, 2) := by decide +kernel
theorem dX13_init_2142 : decode cX13_init 2142 = .ok (.sipush 16385, 3) := by decide +kernel
theorem dX13_init_2145 : decode cX13_init 2145 = .ok (.iastore, 1) := by decide +kernel
theorem dX13_init_2146 : decode cX13_init 2146 = .ok (.dup, 1) := by decide +kernel
theorem dX13_init_2147 : decode cX13_init 2147 = .ok (.bipush 75, 2) := by decide +kernel
theorem dX13_init_2149 : decode cX13_init 2149 = .ok (.sipush 24577, 3) := by decide +kernel
theorem dX13_init_2152 : decode cX13_init 2152 = .ok (.iastore, 1) := by decide +kernel
theorem dX13_init_2153 : decode cX13_init 2153 = .ok (.dup, 1) := by decide +kernel
theorem dX13_init_2154 : decode cX13_init 2154 = .ok (.bipush 76, 2) := by decide +kernel
theorem dX13_init_2156 : decode cX13_init 2156 = .ok (.sipush 8193, 3) := by decide +kernel
theorem dX13_init_2159 : decode cX13_init 2159 = .ok (.iastore, 1) := by decide +kernel
theorem dX13_init_2160 : decode cX13_init 2160 = .ok (.dup, 1) := by decide +kernel
theorem dX13_init_2161 : decode cX13_init 2161 = .ok (.bipush 77, 2) := by decide +kernel
theorem dX13_init_2163 : decode cX13_init 2163 = .ok (.ldc_w 305, 3) := by decide +kernel
theorem dX13_init_2166 : decode cX13_init 2166 = .ok (.iastore, 1) := by decide +kernel
theorem dX13_init_2167 : decode cX13_init 2167 = .ok (.dup, 1) := by decide +kernel
theorem dX13_init_2168 : decode cX13_init 2168 = .ok (.bipush 78, 2) := by decide +kernel
theorem dX13_init_2170 : decode cX13_init 2170 = .ok (.sipush 24833, 3) := by decide +kernel
theorem dX13_init_2173 : decode cX13_init 2173 = .ok (.iastore, 1) := by decide +kernel
theorem dX13_init_2174 : decode cX13_init 2174 = .ok (.dup, 1) := by decide +kernel
theorem dX13_init_2175 : decode cX13_init 2175 = .ok (.bipush 79, 2) := by decide +kernel
theorem dX13_init_2177 : decode cX13_init 2177 = .ok (.ldc_w 306, 3) := by decide +kernel
theorem dX13_init_2180 : decode cX13_init 2180 = .ok (.iastore, 1) := by decide +kernel
theorem dX13_init_2181 : decode cX13_init 2181 = .ok (.dup, 1) := by decide +kernel
theorem dX13_init_2182 : decode cX13_init 2182 = .ok (.bipush 80, 2) := by decide +kernel
theorem dX13_init_2184 : decode cX13_init 2184 = .ok (.ldc_w 307, 3) := by decide +kernel
theorem dX13_init_2187 : decode cX13_init 2187 = .ok (.iastore, 1) := by decide +kernel
theorem dX13_init_2188 : decode cX13_init 2188 = .ok (.dup, 1) := by decide +kernel
theorem dX13_init_2189 : decode cX13_init 2189 = .ok (.bipush 81, 2) := by decide +kernel
theorem dX13_init_2191 : decode cX13_init 2191 = .ok (.ldc_w 308, 3) := by decide +kernel
theorem dX13_init_2194 : decode cX13_init 2194 = .ok (.iastore, 1) := by decide +kernel
theorem dX13_init_2195 : decode cX13_init 2195 = .ok (.dup, 1) := by decide +kernel
theorem dX13_init_2196 : decode cX13_init 2196 = .ok (.bipush 82, 2) := by decide +kernel
theorem dX13_init_2198 : decode cX13_init 2198 = .ok (.ldc_w 309, 3) := by decide +kernel
theorem dX13_init_2201 : decode cX13_init 2201 = .ok (.iastore, 1) := by decide +kernel
theorem dX13_init_2202 : decode cX13_init 2202 = .ok (.dup, 1) := by decide +kernel
theorem dX13_init_2203 : decode cX13_init 2203 = .ok (.bipush 83, 2) := by decide +kernel
theorem dX13_init_2205 : decode cX13_init 2205 = .ok (.ldc_w 310, 3) := by decide +kernel
theorem dX13_init_2208 : decode cX13_init 2208 = .ok (.iastore, 1) := by decide +kernel
theorem dX13_init_2209 : decode cX13_init 2209 = .ok (.dup, 1) := by decide +kernel
theorem dX13_init_2210 : decode cX13_init 2210 = .ok (.bipush 84, 2) := by decide +kernel
theorem dX13_init_2212 : decode cX13_init 2212 = .ok (.ldc_w 311, 3) := by decide +kernel
theorem dX13_init_2215 : decode cX13_init 2215 = .ok (.iastore, 1) := by decide +kernel
theorem dX13_init_2216 : decode cX13_init 2216 = .ok (.dup, 1) := by decide +kernel
theorem dX13_init_2217 : decode cX13_init 2217 = .ok (.bipush 85, 2) := by decide +kernel
theorem dX13_init_2219 : decode cX13_init 2219 = .ok (.ldc_w 312, 3) := by decide +kernel
theorem dX13_init_2222 : decode cX13_init 2222 = .ok (.iastore, 1) := by decide +kernel
theorem dX13_init_2223 : decode cX13_init 2223 = .ok (.dup, 1) := by decide +kernel
theorem dX13_init_2224 : decode cX13_init 2224 = .ok (.bipush 86, 2) := by decide +kernel
theorem dX13_init_2226 : decode cX13_init 2226 = .ok (.ldc_w 313, 3) := by decide +kernel
theorem dX13_init_2229 : decode cX13_init 2229 = .ok (.iastore, 1) := by decide +kernel
theorem dX13_init_2230 : decode cX13_init 2230 = .ok (.dup, 1) := by decide +kernel
theorem dX13_init_2231 : decode cX13_init 2231 = .ok (.bipush 87, 2) := by decide +kernel
theorem dX13_init_2233 : decode cX13_init 2233 = .ok (.ldc_w 314, 3) := by decide +kernel
theorem dX13_init_2236 : decode cX13_init 2236 = .ok (.iastore, 1) := by decide +kernel
theorem dX13_init_2237 : decode cX13_init 2237 = .ok (.dup, 1) := by decide +kernel
theorem dX13_init_2238 : decode cX13_init 2238 = .ok (.bipush 88, 2) := by decide +kernel
theorem dX13_init_2240 : decode cX13_init 2240 = .ok (.iconst 2, 1) := by decide +kernel
theorem dX13_init_2241 : decode cX13_init 2241 = .ok (.iastore, 1) := by decide +kernel
theorem dX13_init_2242 : decode cX13_init 2242 = .ok (.dup, 1) := by decide +kernel
theorem dX13_init_2243 : decode cX13_init 2243 = .ok (.bipush 89, 2) := by decide +kernel
theorem dX13_init_2245 : decode cX13_init 2245 = .ok (.sipush 16386, 3) := by decide +kernel
theorem dX13_init_2248 : decode cX13_init 2248 = .ok (.iastore, 1) := by decide +kernel
theorem dX13_init_2249 : decode cX13_init 2249 = .ok (.dup, 1) := by decide +kernel
theorem dX13_init_2250 : decode cX13_init 2250 = .ok (.bipush 90, 2) := by decide +kernel
theorem dX13_init_2252 : decode cX13_init 2252 = .ok (.ldc_w 315, 3) := by decide +kernel
theorem dX13_init_2255 : decode cX13_init 2255 = .ok (.iastore, 1) := by decide +kernel
theorem dX13_init_2256 : decode cX13_init 2256 = .ok (.dup, 1) := by decide +kernel
theorem dX13_init_2257 : decode cX13_init 2257 = .ok (.bipush 91, 2) := by decide +kernel
theorem dX13_init_2259 : decode cX13_init 2259 = .ok (.ldc_w 304, 3) := by decide +kernel
theorem dX13_init_2262 : decode cX13_init 2262 = .ok (.iastore, 1) := by decide +kernel
theorem dX13_init_2263 : decode cX13_init 2263 = .ok (.dup, 1) := by decide +kernel
theorem dX13_init_2264 : decode cX13_init 2264 = .ok (.bipush 92, 2) := by decide +kernel
theorem dX13_init_2266 : decode cX13_init 2266 = .ok (.ldc_w 315, 3) := by decide +kernel
theorem dX13_init_2269 : decode cX13_init 2269 = .ok (.iastore, 1) := by decide +kernel
theorem dX13_init_2270 : decode cX13_init 2270 = .ok (.dup, 1) := by decide +kernel
theorem dX13_init_2271 : decode cX13_init 2271 = .ok (.bipush 93, 2) := by decide +kernel
theorem dX13_init_2273 : decode cX13_init 2273 = .ok (.ldc_w 304, 3) := by decide +kernel
theorem dX13_init_2276 : decode cX13_init 2276 = .ok (.iastore, 1) := by decide +kernel
theorem dX13_init_2277 : decode cX13_init 2277 = .ok (.dup, 1) := by decide +kernel
theorem dX13_init_2278 : decode cX13_init 2278 = .ok (.bipush 94, 2) := by decide +kernel
theorem dX13_init_2280 : decode cX13_init 2280 = .ok (.ldc_w 316, 3) := by decide +kernel
theorem dX13_init_2283 : decode cX13_init 2283 = .ok (.iastore, 1) := by decide +kernel
theorem dX13_init_2284 : decode cX13_init 2284 = .ok (.dup, 1) := by decide +kernel
theorem dX13_init_2285 : decode cX13_init 2285 = .ok (.bipush 95, 2) := by decide +kernel
theorem dX13_init_2287 : decode cX13_init 2287 = .ok (.bipush 19, 2) := by decide +kernel
theorem dX13_init_2289 : decode cX13_init 2289 = .ok (.iastore, 1) := by decide +kernel
theorem dX13_init_2290 : decode cX13_init 2290 = .ok (.dup, 1) := by decide +kernel
theorem dX13_init_2291 : decode cX13_init 2291 = .ok (.bipush 96, 2) := by decide +kernel
theorem dX13_init_2293 : decode cX13_init 2293 = .ok (.ldc_w 317, 3) := by decide +kernel
theorem dX13_init_2296 : decode cX13_init 2296 = .ok (.iastore, 1) := by decide +kernel
theorem dX13_init_2297 : decode cX13_init 2297 = .ok (.dup, 1) := by decide +kernel
theorem dX13_init_2298 : decode cX13_init 2298 = .ok (.bipush 97, 2) := by decide +kernel
theorem dX13_init_2300 : decode cX13_init 2300 = .ok (.ldc_w 318, 3) := by decide +kernel
theorem dX13_init_2303 : decode cX13_init 2303 = .ok (.iastore, 1) := by decide +kernel
theorem dX13_init_2304 : decode cX13_init 2304 = .ok (.dup, 1) := by decide +kernel
theorem dX13_init_2305 : decode cX13_init 2305 = .ok (.bipush 98, 2) := by decide +kernel
theorem dX13_init_2307 : decode cX13_init 2307 = .ok (.sipush 8243, 3) := by decide +kernel
theorem dX13_init_2310 : decode cX13_init 2310 = .ok (.iastore, 1) := by decide +kernel
theorem dX13_init_2311 : decode cX13_init 2311 = .ok (.dup, 1) := by decide +kernel
theorem dX13_init_2312 : decode cX13_init 2312 = .ok (.bipush 99, 2) := by decide +kernel
theorem dX13_init_2314 : decode cX13_init 2314 = .ok (.ldc_w 273, 3) := by decide +kernel
theorem dX13_init_2317 : decode cX13_init 2317 = .ok (.iastore, 1) := by decide +kernel
theorem dX13_init_2318 : decode cX13_init 2318 = .ok (.dup, 1) := by decide +kernel
theorem dX13_init_2319 : decode cX13_init 2319 = .ok (.bipush 100, 2) := by decide +kernel
theorem dX13_init_2321 : decode cX13_init 2321 = .ok (.sipush 12339, 3) := by decide +kernel
theorem dX13_init_2324 : decode cX13_init 2324 = .ok (.iastore, 1) := by decide +kernel
theorem dX13_init_2325 : decode cX13_init 2325 = .ok (.dup, 1) := by decide +kernel
theorem dX13_init_2326 : decode cX13_init 2326 = .ok (.bipush 101, 2) := by decide +kernel
theorem dX13_init_2328 : decode cX13_init 2328 = .ok (.sipush 8243, 3) := by decide +kernel
theorem dX13_init_2331 : decode cX13_init 2331 = .ok (.iastore, 1) := by decide +kernel
theorem dX13_init_2332 : decode cX13_init 2332 = .ok (.dup, 1) := by decide +kernel
theorem dX13_init_2333 : decode cX13_init 2333 = .ok (.bipush 102, 2) := by decide +kernel
theorem dX13_init_2335 : decode cX13_init 2335 = .ok (.bipush 103, 2) := by decide +kernel
theorem dX13_init_2337 : decode cX13_init 2337 = .ok (.iastore, 1) := by decide +kernel
theorem dX13_init_2338 : decode cX13_init 2338 = .ok (.dup, 1) := by decide +kernel
theorem dX13_init_2339 : decode cX13_init 2339 = .ok (.bipush 103, 2) := by decide +kernel
theorem dX13_init_2341 : decode cX13_init 2341 = .ok (.iconst 1, 1) := by decide +kernel
theorem dX13_init_2342 : decode cX13_init 2342 = .ok (.iastore, 1) := by decide +kernel
theorem dX13_init_2343 : decode cX13_init 2343 = .ok (.dup, 1) := by decide +kernel
theorem dX13_init_2344 : decode cX13_init 2344 = .ok (.bipush 104, 2) := by decide +kernel
theorem dX13_init_2346 : decode cX13_init 2346 = .ok (.iconst 0, 1) := by decide +kernel
theorem dX13_init_2347 : decode cX13_init 2347 = .ok (.iastore, 1) := by decide +kernel
theorem dX13_init_2348 : decode cX13_init 2348 = .ok (.dup, 1) := by decide +kernel
theorem dX13_init_2349 : decode cX13_init 2349 = .ok (.bipush 105, 2) := by decide +kernel
theorem dX13_init_2351 : decode cX13_init 2351 = .ok (.iconst 0, 1) := by decide +kernel
theorem dX13_init_2352 : decode cX13_init 2352 = .ok (.iastore, 1) := by decide +kernel
theorem dX13_init_2353 : decode cX13_init 2353 = .ok (.dup, 1) := by decide +kernel
theorem dX13_init_2354 : decode cX13_init 2354 = .ok (.bipush 106, 2) := by decide +kernel
theorem dX13_init_2356 : decode cX13_init 2356 = .ok (.bipush 99, 2) := by decide +kernel
theorem dX13_init_2358 : decode cX13_init 2358 = .ok (.iastore, 1) := by decide +kernel
theorem dX13_init_2359 : decode cX13_init 2359 = .ok (.dup, 1) := by decide +kernel
theorem dX13_init_2360 : decode cX13_init 2360 = .ok (.bipush 107, 2) := by decide +kernel
theorem dX13_init_2362 : decode cX13_init 2362 = .ok (.sipush 4195, 3) := by decide +kernel
theorem dX13_init_2365 : decode cX13_init 2365 = .ok (.iastore, 1) := by decide +kernel
theorem dX13_init_2366 : decode cX13_init 2366 = .ok (.dup, 1) := by decide +kernel
theorem dX13_init_2367 : decode cX13_init 2367 = .ok (.bipush 108, 2) := by decide +kernel
theorem dX13_init_2369 : decode cX13_init 2369 = .ok (.sipush 20579, 3) := by decide +kernel
theorem dX13_init_2372 : decode cX13_init 2372 = .ok (.iastore, 1) := by decide +kernel
theorem dX13_init_2373 : decode cX13_init 2373 = .ok (.dup, 1) := by decide +kernel
theorem dX13_init_2374 : decode cX13_init 2374 = .ok (.bipush 109, 2) := by decide +kernel
theorem dX13_init_2376 : decode cX13_init 2376 = .ok (.sipush 16483, 3) := by decide +kernel
theorem dX13_init_2379 : decode cX13_init 2379 = .ok (.iastore, 1) := by decide +kernel
theorem dX13_init_2380 : decode cX13_init 2380 = .ok (.dup, 1) := by decide +kernel
theorem dX13_init_2381 : decode cX13_init 2381 = .ok (.bipush 110, 2) := by decide +kernel
theorem dX13_init_2383 : decode cX13_init 2383 = .ok (.sipush 20579, 3) := by decide +kernel
theorem dX13_init_2386 : decode cX13_init 2386 = .ok (.iastore, 1) := by decide +kernel
theorem dX13_init_2387 : decode cX13_init 2387 = .ok (.dup, 1) := by decide +kernel
theorem dX13_init_2388 : decode cX13_init 2388 = .ok (.bipush 111, 2) := by decide +kernel
theorem dX13_init_2390 : decode cX13_init 2390 = .ok (.sipush 16483, 3) := by decide +kernel
theorem dX13_init_2393 : decode cX13_init 2393 = .ok (.iastore, 1) := by decide +kernel
theorem dX13_init_2394 : decode cX13_init 2394 = .ok (.dup, 1) := by decide +kernel
theorem dX13_init_2395 : decode cX13_init 2395 = .ok (.bipush 112, 2) := by decide +kernel
theorem dX13_init_2397 : decode cX13_init 2397 = .ok (.sipush 16483, 3) := by decide +kernel
theorem dX13_init_2400 : decode cX13_init 2400 = .ok (.iastore, 1) := by decide +kernel
theorem dX13_init_2401 : decode cX13_init 2401 = .ok (.dup, 1) := by decide +kernel
theorem dX13_init_2402 : decode cX13_init 2402 = .ok (.bipush 113, 2) := by decide +kernel
theorem dX13_init_2404 : decode cX13_init 2404 = .ok (.sipush 20579, 3) := by decide +kernel
theorem dX13_init_2407 : decode cX13_init 2407 = .ok (.iastore, 1) := by decide +kernel
theorem dX13_init_2408 : decode cX13_init 2408 = .ok (.dup, 1) := by decide +kernel
theorem dX13_init_2409 : decode cX13_init 2409 = .ok (.bipush 114, 2) := by decide +kernel
theorem dX13_init_2411 : decode cX13_init 2411 = .ok (.sipush 24675, 3) := by decide +kernel
theorem dX13_init_2414 : decode cX13_init 2414 = .ok (.iastore, 1) := by decide +kernel
theorem dX13_init_2415 : decode cX13_init 2415 = .ok (.dup, 1) := by decide +kernel
theorem dX13_init_2416 : decode cX13_init 2416 = .ok (.bipush 115, 2) := by decide +kernel
theorem dX13_init_2418 : decode cX13_init 2418 = .ok (.sipush 28771, 3) := by decide +kernel
theorem dX13_init_2421 : decode cX13_init 2421 = .ok (.iastore, 1) := by decide +kernel
theorem dX13_init_2422 : decode cX13_init 2422 = .ok (.dup, 1) := by decide +kernel
theorem dX13_init_2423 : decode cX13_init 2423 = .ok (.bipush 116, 2) := by decide +kernel
theorem dX13_init_2425 : decode cX13_init 2425 = .ok (.iconst 0, 1) := by decide +kernel
theorem dX13_init_2426 : decode cX13_init 2426 = .ok (.iastore, 1) := by decide +kernel
theorem dX13_init_2427 : decode cX13_init 2427 = .ok (.dup, 1) := by decide +kernel
theorem dX13_init_2428 : decode cX13_init 2428 = .ok (.bipush 117, 2) := by decide +kernel
theorem dX13_init_2430 : decode cX13_init 2430 = .ok (.iconst 0, 1) := by decide +kernel
theorem dX13_init_2431 : decode cX13_init 2431 = .ok (.iastore, 1) := by decide +kernel
theorem dX13_init_2432 : decode cX13_init 2432 = .ok (.dup, 1) := by decide +kernel
theorem dX13_init_2433 : decode cX13_init 2433 = .ok (.bipush 118, 2) := by decide +kernel
theorem dX13_init_2435 : decode cX13_init 2435 = .ok (.iconst 0, 1) := by decide +kernel
theorem dX13_init_2436 : decode cX13_init 2436 = .ok (.iastore, 1) := by decide +kernel
theorem dX13_init_2437 : decode cX13_init 2437 = .ok (.dup, 1) := by decide +kernel
theorem dX13_init_2438 : decode cX13_init 2438 = .ok (.bipush 119, 2) := by decide +kernel
theorem dX13_init_2440 : decode cX13_init 2440 = .ok (.iconst 0, 1) := by decide +kernel
theorem dX13_init_2441 : decode cX13_init 2441 = .ok (.iastore, 1) := by decide +kernel
theorem dX13_init_2442 : decode cX13_init 2442 = .ok (.dup, 1) := by decide +kernel
theorem dX13_init_2443 : decode cX13_init 2443 = .ok (.bipush 120, 2) := by decide +kernel
theorem dX13_init_2445 : decode cX13_init 2445 = .ok (.iconst 0, 1) := by decide +kernel
theorem dX13_init_2446 : decode cX13_init 2446 = .ok (.iastore, 1) := by decide +kernel
theorem dX13_init_2447 : decode cX13_init 2447 = .ok (.dup, 1) := by decide +kernel
theorem dX13_init_2448 : decode cX13_init 2448 = .ok (.bipush 121, 2) := by decide +kernel
theorem dX13_init_2450 : decode cX13_init 2450 = .ok (.iconst 1, 1) := by decide +kernel
theorem dX13_init_2451 : decode cX13_init 2451 = .ok (.iastore, 1) := by decide +kernel
theorem dX13_init_2452 : decode cX13_init 2452 = .ok (.dup, 1) := by decide +kernel
theorem dX13_init_2453 : decode cX13_init 2453 = .ok (.bipush 122, 2) := by decide +kernel
theorem dX13_init_2455 : decode cX13_init 2455 = .ok (.iconst 2, 1) := by decide +kernel
theorem dX13_init_2456 : decode cX13_init 2456 = .ok (.iastore, 1) := by decide +kernel
theorem dX13_init_2457 : decode cX13_init 2457 = .ok (.dup, 1) := by decide +kernel
theorem dX13_init_2458 : decode cX13_init 2458 = .ok (.bipush 123, 2) := by decide +kernel
theorem dX13_init_2460 : decode cX13_init 2460 = .ok (.iconst 4, 1) := by decide +kernel
theorem dX13_init_2461 : decode cX13_init 2461 = .ok (.iastore, 1) := by decide +kernel
theorem dX13_init_2462 : decode cX13_init 2462 = .ok (.dup, 1) := by decide +kernel
theorem dX13_init_2463 : decode cX13_init 2463 = .ok (.bipush 124, 2) := by decide +kernel
theorem dX13_init_2465 : decode cX13_init 2465 = .ok (.iconst 0, 1) := by decide +kernel
theorem dX13_init_2466 : decode cX13_init 2466 = .ok (.iastore, 1) := by decide +kernel
theorem dX13_init_2467 : decode cX13_init 2467 = .ok (.dup, 1) := by decide +kernel
theorem dX13_init_2468 : decode cX13_init 2468 = .ok (.bipush 125, 2) := by decide +kernel
theorem dX13_init_2470 : decode cX13_init 2470 = .ok (.iconst 0, 1) := by decide +kernel
theorem dX13_init_2471 : decode cX13_init 2471 = .ok (.iastore, 1) := by decide +kernel
theorem dX13_init_2472 : decode cX13_init 2472 = .ok (.dup, 1) := by decide +kernel
theorem dX13_init_2473 : decode cX13_init 2473 = .ok (.bipush 126, 2) := by decide +kernel
theorem dX13_init_2475 : decode cX13_init 2475 = .ok (.iconst 0, 1) := by decide +kernel
theorem dX13_init_2476 : decode cX13_init 2476 = .ok (.iastore, 1) := by decide +kernel
theorem dX13_init_2477 : decode cX13_init 2477 = .ok (.dup, 1) := by decide +kernel
theorem dX13_init_2478 : decode cX13_init 2478 = .ok (.bipush 127, 2) := by decide +kernel
theorem dX13_init_2480 : decode cX13_init 2480 = .ok (.iconst 0, 1) := by decide +kernel
theorem dX13_init_2481 : decode cX13_init 2481 = .ok (.iastore, 1) := by decide +kernel
theorem dX13_init_2482 : decode cX13_init 2482 = .ok (.putfield 319, 3) := by decide +kernel
theorem dX13_init_2485 : decode cX13_init 2485 = .ok (.aload_n 0, 1) := by decide +kernel
theorem dX13_init_2486 : decode cX13_init 2486 = .ok (.ldc_w 323, 3) := by decide +kernel
theorem dX13_init_2489 : decode cX13_init 2489 = .ok (.newarray .char, 2) := by decide +kernel
theorem dX13_init_2491 : decode cX13_init 2491 = .ok (.putfield 324, 3) := by decide +kernel
theorem dX13_init_2494 : decode cX13_init 2494 = .ok (.aload_n 0, 1) := by decide +kernel
theorem dX13_init_2495 : decode cX13_init 2495 = .ok (.sipush 11000, 3) := by decide +kernel
theorem dX13_init_2498 : decode cX13_init 2498 = .ok (.newarray .int, 2) := by decide +kernel
theorem dX13_init_2500 : decode cX13_init 2500 = .ok (.putfield 328, 3) := by decide +kernel
theorem dX13_init_2503 : decode cX13_init 2503 = .ok (.aload_n 0, 1) := by decide +kernel
theorem dX13_init_2504 : decode cX13_init 2504 = .ok (.sipush 11000, 3) := by decide +kernel
theorem dX13_init_2507 : decode cX13_init 2507 = .ok (.newarray .int, 2) := by decide +kernel
theorem dX13_init_2509 : decode cX13_init 2509 = .ok (.putfield 331, 3) := by decide +kernel
theorem dX13_init_2512 : decode cX13_init 2512 = .ok (.aload_n 0, 1) := by decide +kernel
theorem dX13_init_2513 : decode cX13_init 2513 = .ok (.sipush 11000, 3) := by decide +kernel
theorem dX13_init_2516 : decode cX13_init 2516 = .ok (.newarray .int, 2) := by decide +kernel
theorem dX13_init_2518 : decode cX13_init 2518 = .ok (.putfield 334, 3) := by decide +kernel
theorem dX13_init_2521 : decode cX13_init 2521 = .ok (.aload_n 0, 1) := by decide +kernel
theorem dX13_init_2522 : decode cX13_init 2522 = .ok (.sipush 16500, 3) := by decide +kernel
theorem dX13_init_2525 : decode cX13_init 2525 = .ok (.newarray .int, 2) := by decide +kernel
theorem dX13_init_2527 : decode cX13_init 2527 = .ok (.putfield 337, 3) := by decide +kernel
theorem dX13_init_2530 : decode cX13_init 2530 = .ok (.aload_n 0, 1) := by decide +kernel
theorem dX13_init_2531 : decode cX13_init 2531 = .ok (.sipush 16500, 3) := by decide +kernel
theorem dX13_init_2534 : decode cX13_init 2534 = .ok (.newarray .int, 2) := by decide +kernel
theorem dX13_init_2536 : decode cX13_init 2536 = .ok (.putfield 340, 3) := by decide +kernel
theorem dX13_init_2539 : decode cX13_init 2539 = .ok (.aload_n 0, 1) := by decide +kernel
theorem dX13_init_2540 : decode cX13_init 2540 = .ok (.ldc_w 343, 3) := by decide +kernel
theorem dX13_init_2543 : decode cX13_init 2543 = .ok (.newarray .int, 2) := by decide +kernel
theorem dX13_init_2545 : decode cX13_init 2545 = .ok (.putfield 344, 3) := by decide +kernel
theorem dX13_init_2548 : decode cX13_init 2548 = .ok (.return_, 1) := by decide +kernel
theorem dX13_base_0 : decode cX13_base 0 = .ok (.aload_n 0, 1) := by decide +kernel
theorem dX13_base_1 : decode cX13_base 1 = .ok (.getfield 447, 3) := by decide +kernel
theorem dX13_base_4 : decode cX13_base 4 = .ok (.sipush 1023, 3) := by decide +kernel
theorem dX13_base_7 : decode cX13_base 7 = .ok (.iadd, 1) := by decide +kernel
theorem dX13_base_8 : decode cX13_base 8 = .ok (.sipush 1024, 3) := by decide +kernel
theorem dX13_base_11 : decode cX13_base 11 = .ok (.idiv, 1) := by decide +kernel
theorem dX13_base_12 : decode cX13_base 12 = .ok (.sipush 1024, 3) := by decide +kernel
theorem dX13_base_15 : decode cX13_base 15 = .ok (.imul, 1) := by decide +kernel
theorem dX13_base_16 : decode cX13_base 16 = .ok (.ireturn, 1) := by decide +kernel
theorem dX13_readAll_0 : decode cX13_readAll 0 = .ok (.aload_n 0, 1) := by decide +kernel
theorem dX13_readAll_1 : decode cX13_readAll 1 = .ok (.iconst 0, 1) := by decide +kernel
theorem dX13_readAll_2 : decode cX13_readAll 2 = .ok (.putfield 374, 3) := by decide +kernel
theorem dX13_readAll_5 : decode cX13_readAll 5 = .ok (.aload_n 0, 1) := by decide +kernel
theorem dX13_readAll_6 : decode cX13_readAll 6 = .ok (.iconst 1, 1) := by decide +kernel
theorem dX13_readAll_7 : decode cX13_readAll 7 = .ok (.putfield 413, 3) := by decide +kernel
theorem dX13_readAll_10 : decode cX13_readAll 10 = .ok (.aload_n 0, 1) := by decide +kernel
theorem dX13_readAll_11 : decode cX13_readAll 11 = .ok (.iconst 0, 1) := by decide +kernel
theorem dX13_readAll_12 : decode cX13_readAll 12 = .ok (.putfield 634, 3) := by decide +kernel
theorem dX13_readAll_15 : decode cX13_readAll 15 = .ok (.aload_n 0, 1) := by decide +kernel
theorem dX13_readAll_16 : decode cX13_readAll 16 = .ok (.iconst 0, 1) := by decide +kernel
theorem dX13_readAll_17 : decode cX13_readAll 17 = .ok (.putfield 673, 3) := by decide +kernel
theorem dX13_readAll_20 : decode cX13_readAll 20 = .ok (.aload_n 0, 1) := by decide +kernel
theorem dX13_readAll_21 : decode cX13_readAll 21 = .ok (.iconst 0, 1) := by decide +kernel
theorem dX13_readAll_22 : decode cX13_readAll 22 = .ok (.putfield 439, 3) := by decide +kernel
theorem dX13_readAll_25 : decode cX13_readAll 25 = .ok (.aload_n 0, 1) := by decide +kernel
theorem dX13_readAll_26 : decode cX13_readAll 26 = .ok (.getfield 410, 3) := by decide +kernel
theorem dX13_readAll_29 : decode cX13_readAll 29 = .ok (.ifCond .ne 172, 3) := by decide +kernel
theorem dX13_readAll_32 : decode cX13_readAll 32 = .ok (.aload_n 0, 1) := by decide +kernel
theorem dX13_readAll_33 : decode cX13_readAll 33 = .ok (.getfield 374, 3) := by decide +kernel
theorem dX13_readAll_36 : decode cX13_readAll 36 = .ok (.aload_n 0, 1) := by decide +kernel
theorem dX13_readAll_37 : decode cX13_readAll 37 = .ok (.getfield 347, 3) := by decide +kernel
theorem dX13_readAll_40 : decode cX13_readAll 40 = .ok (.if_icmp .ge 161, 3) := by decide +kernel
theorem dX13_readAll_201 : decode cX13_readAll 201 = .ok (.return_, 1) := by decide +kernel
theorem dX13_layout_0 : decode cX13_layout 0 = .ok (.aload_n 0, 1) := by decide +kernel
theorem dX13_layout_1 : decode cX13_layout 1 = .ok (.iconst 0, 1) := by decide +kernel
theorem dX13_layout_2 : decode cX13_layout 2 = .ok (.putfield 447, 3) := by decide +kernel
theorem dX13_layout_5 : decode cX13_layout 5 = .ok (.aload_n 0, 1) := by decide +kernel
theorem dX13_layout_6 : decode cX13_layout 6 = .ok (.iconst 0, 1) := by decide +kernel
theorem dX13_layout_7 : decode cX13_layout 7 = .ok (.putfield 682, 3) := by decide +kernel
theorem dX13_layout_10 : decode cX13_layout 10 = .ok (.iconst 0, 1) := by decide +kernel
theorem dX13_layout_11 : decode cX13_layout 11 = .ok (.istore_n 1, 1) := by decide +kernel
theorem dX13_layout_12 : decode cX13_layout 12 = .ok (.iconst 0, 1) := by decide +kernel
theorem dX13_layout_13 : decode cX13_layout 13 = .ok (.istore_n 2, 1) := by decide +kernel
