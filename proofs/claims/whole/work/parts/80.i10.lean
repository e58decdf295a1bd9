theorem dX7_init_2077 : decode cX7_init 2077 = .ok (.ldc 64, 2) := by decide +kernel
theorem dX7_init_2079 : decode cX7_init 2079 = .ok (.iastore, 1) := by decide +kernel
theorem dX7_init_2080 : decode cX7_init 2080 = .ok (.dup, 1) := by decide +kernel
theorem dX7_init_2081 : decode cX7_init 2081 = .ok (.sipush 226, 3) := by decide +kernel
theorem dX7_init_2084 : decode cX7_init 2084 = .ok (.ldc 65, 2) := by decide +kernel
theorem dX7_init_2086 : decode cX7_init 2086 = .ok (.iastore, 1) := by decide +kernel
theorem dX7_init_2087 : decode cX7_init 2087 = .ok (.dup, 1) := by decide +kernel
theorem dX7_init_2088 : decode cX7_init 2088 = .ok (.sipush 227, 3) := by decide +kernel
theorem dX7_init_2091 : decode cX7_init 2091 = .ok (.ldc 66, 2) := by decide +kernel
theorem dX7_init_2093 : decode cX7_init 2093 = .ok (.iastore, 1) := by decide +kernel
theorem dX7_init_2094 : decode cX7_init 2094 = .ok (.dup, 1) := by decide +kernel
theorem dX7_init_2095 : decode cX7_init 2095 = .ok (.sipush 228, 3) := by decide +kernel
theorem dX7_init_2098 : decode cX7_init 2098 = .ok (.ldc 67, 2) := by decide +kernel
theorem dX7_init_2100 : decode cX7_init 2100 = .ok (.iastore, 1) := by decide +kernel
theorem dX7_init_2101 : decode cX7_init 2101 = .ok (.dup, 1) := by decide +kernel
theorem dX7_init_2102 : decode cX7_init 2102 = .ok (.sipush 229, 3) := by decide +kernel
theorem dX7_init_2105 : decode cX7_init 2105 = .ok (.ldc 68, 2) := by decide +kernel
theorem dX7_init_2107 : decode cX7_init 2107 = .ok (.iastore, 1) := by decide +kernel
theorem dX7_init_2108 : decode cX7_init 2108 = .ok (.dup, 1) := by decide +kernel
theorem dX7_init_2109 : decode cX7_init 2109 = .ok (.sipush 230, 3) := by decide +kernel
theorem dX7_init_2112 : decode cX7_init 2112 = .ok (.ldc 69, 2) := by decide +kernel
theorem dX7_init_2114 : decode cX7_init 2114 = .ok (.iastore, 1) := by decide +kernel
theorem dX7_init_2115 : decode cX7_init 2115 = .ok (.dup, 1) := by decide +kernel
theorem dX7_init_2116 : decode cX7_init 2116 = .ok (.sipush 231, 3) := by decide +kernel
theorem dX7_init_2119 : decode cX7_init 2119 = .ok (.ldc 70, 2) := by decide +kernel
theorem dX7_init_2121 : decode cX7_init 2121 = .ok (.iastore, 1) := by decide +kernel
theorem dX7_init_2122 : decode cX7_init 2122 = .ok (.dup, 1) := by decide +kernel
theorem dX7_init_2123 : decode cX7_init 2123 = .ok (.sipush 232, 3) := by decide +kernel
theorem dX7_init_2126 : decode cX7_init 2126 = .ok (.ldc 71, 2) := by decide +kernel
theorem dX7_init_2128 : decode cX7_init 2128 = .ok (.iastore, 1) := by decide +kernel
theorem dX7_init_2129 : decode cX7_init 2129 = .ok (.dup, 1) := by decide +kernel
theorem dX7_init_2130 : decode cX7_init 2130 = .ok (.sipush 233, 3) := by decide +kernel
theorem dX7_init_2133 : decode cX7_init 2133 = .ok (.ldc 72, 2) := by decide +kernel
theorem dX7_init_2135 : decode cX7_init 2135 = .ok (.iastore, 1) := by decide +kernel
theorem dX7_init_2136 : decode cX7_init 2136 = .ok (.dup, 1) := by decide +kernel
theorem dX7_init_2137 : decode cX7_init 2137 = .ok (.sipush 234, 3) := by decide +kernel
theorem dX7_init_2140 : decode cX7_init 2140 = .ok (.ldc 73, 2) := by decide +kernel
theorem dX7_init_2142 : decode cX7_init 2142 = .ok (.iastore, 1) := by decide +kernel
theorem dX7_init_2143 : decode cX7_init 2143 = .ok (.dup, 1) := by decide +kernel
theorem dX7_init_2144 : decode cX7_init 2144 = .ok (.sipush 235, 3) := by decide +kernel
theorem dX7_init_2147 : decode cX7_init 2147 = .ok (.ldc 74, 2) := by decide +kernel
theorem dX7_init_2149 : decode cX7_init 2149 = .ok (.iastore, 1) := by decide +kernel
theorem dX7_init_2150 : decode cX7_init 2150 = .ok (.dup, 1) := by decide +kernel
theorem dX7_init_2151 : decode cX7_init 2151 = .ok (.sipush 236, 3) := by decide +kernel
theorem dX7_init_2154 : decode cX7_init 2154 = .ok (.ldc 75, 2) := by decide +kernel
theorem dX7_init_2156 : decode cX7_init 2156 = .ok (.iastore, 1) := by decide +kernel
theorem dX7_init_2157 : decode cX7_init 2157 = .ok (.dup, 1) := by decide +kernel
theorem dX7_init_2158 : decode cX7_init 2158 = .ok (.sipush 237, 3) := by decide +kernel
theorem dX7_init_2161 : decode cX7_init 2161 = .ok (.ldc 76, 2) := by decide +kernel
theorem dX7_init_2163 : decode cX7_init 2163 = .ok (.iastore, 1) := by decide +kernel
theorem dX7_init_2164 : decode cX7_init 2164 = .ok (.dup, 1) := by decide +kernel
theorem dX7_init_2165 : decode cX7_init 2165 = .ok (.sipush 238, 3) := by decide +kernel
theorem dX7_init_2168 : decode cX7_init 2168 = .ok (.ldc 77, 2) := by decide +kernel
theorem dX7_init_2170 : decode cX7_init 2170 = .ok (.iastore, 1) := by decide +kernel
theorem dX7_init_2171 : decode cX7_init 2171 = .ok (.dup, 1) := by decide +kernel
theorem dX7_init_2172 : decode cX7_init 2172 = .ok (.sipush 239, 3) := by decide +kernel
theorem dX7_init_2175 : decode cX7_init 2175 = .ok (.ldc 78, 2) := by decide +kernel
theorem dX7_init_2177 : decode cX7_init 2177 = .ok (.iastore, 1) := by decide +kernel
theorem dX7_init_2178 : decode cX7_init 2178 = .ok (.dup, 1) := by decide +kernel
theorem dX7_init_2179 : decode cX7_init 2179 = .ok (.sipush 240, 3) := by decide +kernel
theorem dX7_init_2182 : decode cX7_init 2182 = .ok (.ldc 79, 2) := by decide +kernel
theorem dX7_init_2184 : decode cX7_init 2184 = .ok (.iastore, 1) := by decide +kernel
theorem dX7_init_2185 : decode cX7_init 2185 = .ok (.dup, 1) := by decide +kernel
theorem dX7_init_2186 : decode cX7_init 2186 = .ok (.sipush 241, 3) := by decide +kernel
theorem dX7_init_2189 : decode cX7_init 2189 = .ok (.ldc 80, 2) := by decide +kernel
theorem dX7_init_2191 : decode cX7_init 2191 = .ok (.iastore, 1) := by decide +kernel
theorem dX7_init_2192 : decode cX7_init 2192 = .ok (.dup, 1) := by decide +kernel
theorem dX7_init_2193 : decode cX7_init 2193 = .ok (.sipush 242, 3) := by decide +kernel
theorem dX7_init_2196 : decode cX7_init 2196 = .ok (.ldc 81, 2) := by decide +kernel
theorem dX7_init_2198 : decode cX7_init 2198 = .ok (.iastore, 1) := by decide +kernel
theorem dX7_init_2199 : decode cX7_init 2199 = .ok (.dup, 1) := by decide +kernel
theorem dX7_init_2200 : decode cX7_init 2200 = .ok (.sipush 243, 3) := by decide +kernel
theorem dX7_init_2203 : decode cX7_init 2203 = .ok (.ldc 82, 2) := by decide +kernel
theorem dX7_init_2205 : decode cX7_init 2205 = .ok (.iastore, 1) := by decide +kernel
theorem dX7_init_2206 : decode cX7_init 2206 = .ok (.dup, 1) := by decide +kernel
theorem dX7_init_2207 : decode cX7_init 2207 = .ok (.sipush 244, 3) := by decide +kernel
theorem dX7_init_2210 : decode cX7_init 2210 = .ok (.ldc 83, 2) := by decide +kernel
theorem dX7_init_2212 : decode cX7_init 2212 = .ok (.iastore, 1) := by decide +kernel
theorem dX7_init_2213 : decode cX7_init 2213 = .ok (.dup, 1) := by decide +kernel
theorem dX7_init_2214 : decode cX7_init 2214 = .ok (.sipush 245, 3) := by decide +kernel
theorem dX7_init_2217 : decode cX7_init 2217 = .ok (.ldc 84, 2) := by decide +kernel
theorem dX7_init_2219 : decode cX7_init 2219 = .ok (.iastore, 1) := by decide +kernel
theorem dX7_init_2220 : decode cX7_init 2220 = .ok (.dup, 1) := by decide +kernel
theorem dX7_init_2221 : decode cX7_init 2221 = .ok (.sipush 246, 3) := by decide +kernel
theorem dX7_init_2224 : decode cX7_init 2224 = .ok (.ldc 85, 2) := by decide +kernel
theorem dX7_init_2226 : decode cX7_init 2226 = .ok (.iastore, 1) := by decide +kernel
theorem dX7_init_2227 : decode cX7_init 2227 = .ok (.dup, 1) := by decide +kernel
theorem dX7_init_2228 : decode cX7_init 2228 = .ok (.sipush 247, 3) := by decide +kernel
theorem dX7_init_2231 : decode cX7_init 2231 = .ok (.ldc 86, 2) := by decide +kernel
theorem dX7_init_2233 : decode cX7_init 2233 = .ok (.iastore, 1) := by decide +kernel
theorem dX7_init_2234 : decode cX7_init 2234 = .ok (.dup, 1) := by decide +kernel
theorem dX7_init_2235 : decode cX7_init 2235 = .ok (.sipush 248, 3) := by decide +kernel
theorem dX7_init_2238 : decode cX7_init 2238 = .ok (.ldc 87, 2) := by decide +kernel
theorem dX7_init_2240 : decode cX7_init 2240 = .ok (.iastore, 1) := by decide +kernel
theorem dX7_init_2241 : decode cX7_init 2241 = .ok (.dup, 1) := by decide +kernel
theorem dX7_init_2242 : decode cX7_init 2242 = .ok (.sipush 249, 3) := by decide +kernel
theorem dX7_init_2245 : decode cX7_init 2245 = .ok (.ldc 88, 2) := by decide +kernel
theorem dX7_init_2247 : decode cX7_init 2247 = .ok (.iastore, 1) := by decide +kernel
theorem dX7_init_2248 : decode cX7_init 2248 = .ok (.dup, 1) := by decide +kernel
theorem dX7_init_2249 : decode cX7_init 2249 = .ok (.sipush 250, 3) := by decide +kernel
theorem dX7_init_2252 : decode cX7_init 2252 = .ok (.ldc 89, 2) := by decide +kernel
theorem dX7_init_2254 : decode cX7_init 2254 = .ok (.iastore, 1) := by decide +kernel
theorem dX7_init_2255 : decode cX7_init 2255 = .ok (.dup, 1) := by decide +kernel
theorem dX7_init_2256 : decode cX7_init 2256 = .ok (.sipush 251, 3) := by decide +kernel
theorem dX7_init_2259 : decode cX7_init 2259 = .ok (.ldc 90, 2) := by decide +kernel
theorem dX7_init_2261 : decode cX7_init 2261 = .ok (.iastore, 1) := by decide +kernel
theorem dX7_init_2262 : decode cX7_init 2262 = .ok (.dup, 1) := by decide +kernel
theorem dX7_init_2263 : decode cX7_init 2263 = .ok (.sipush 252, 3) := by decide +kernel
theorem dX7_init_2266 : decode cX7_init 2266 = .ok (.ldc 91, 2) := by decide +kernel
theorem dX7_init_2268 : decode cX7_init 2268 = .ok (.iastore, 1) := by decide +kernel
theorem dX7_init_2269 : decode cX7_init 2269 = .ok (.dup, 1) := by decide +kernel
theorem dX7_init_2270 : decode cX7_init 2270 = .ok (.sipush 253, 3) := by decide +kernel
theorem dX7_init_2273 : decode cX7_init 2273 = .ok (.ldc 92, 2) := by decide +kernel
theorem dX7_init_2275 : decode cX7_init 2275 = .ok (.iastore, 1) := by decide +kernel
theorem dX7_init_2276 : decode cX7_init 2276 = .ok (.dup, 1) := by decide +kernel
theorem dX7_init_2277 : decode cX7_init 2277 = .ok (.sipush 254, 3) := by decide +kernel
theorem dX7_init_2280 : decode cX7_init 2280 = .ok (.ldc 93, 2) := by decide +kernel
theorem dX7_init_2282 : decode cX7_init 2282 = .ok (.iastore, 1) := by decide +kernel
theorem dX7_init_2283 : decode cX7_init 2283 = .ok (.dup, 1) := by decide +kernel
theorem dX7_init_2284 : decode cX7_init 2284 = .ok (.sipush 255, 3) := by decide +kernel
theorem dX7_init_2287 : decode cX7_init 2287 = .ok (.ldc 94, 2) := by decide +kernel
theorem dX7_init_2289 : decode cX7_init 2289 = .ok (.iastore, 1) := by decide +kernel
theorem dX7_init_2290 : decode cX7_init 2290 = .ok (.dup, 1) := by decide +kernel
theorem dX7_init_2291 : decode cX7_init 2291 = .ok (.sipush 256, 3) := by decide +kernel
theorem dX7_init_2294 : decode cX7_init 2294 = .ok (.ldc 95, 2) := by decide +kernel
theorem dX7_init_2296 : decode cX7_init 2296 = .ok (.iastore, 1) := by decide +kernel
theorem dX7_init_2297 : decode cX7_init 2297 = .ok (.putfield 96, 3) := by decide +kernel
theorem dX7_init_2300 : decode cX7_init 2300 = .ok (.return_, 1) := by decide +kernel
