set_option maxRecDepth 100000 in
theorem xk_X10_stiffs : xMok xm_X10_stiffs := xMok_of (by decide +kernel) [1403, 2031, 2035, 1453] (by decide +kernel) [2030, 168, 2028, 2029] (by decide +kernel) (by decide +kernel)
set_option maxRecDepth 100000 in
theorem xk_X10_least : xMok xm_X10_least := xMok_of (by decide +kernel) [1403, 2031, 2035, 1454] (by decide +kernel) [2046, 168, 2044, 2045] (by decide +kernel) (by decide +kernel)
set_option maxRecDepth 100000 in
theorem xk_X10_most : xMok xm_X10_most := xMok_of (by decide +kernel) [1403, 2031, 2035, 1455] (by decide +kernel) [2050, 168, 2048, 2049] (by decide +kernel) (by decide +kernel)
set_option maxRecDepth 100000 in
theorem xk_X10_ask : xMok xm_X10_ask := xMok_of (by decide +kernel) [1403, 2031, 2035, 1453, 1744, 1458, 1453, 1458, 1458, 1453, 1458] (by decide +kernel) [2054, 168, 2052, 2053] (by decide +kernel) (by decide +kernel)
set_option maxRecDepth 100000 in
theorem xk_X10_soon : xMok xm_X10_soon := xMok_of (by decide +kernel) [1403, 2031, 2035, 1456] (by decide +kernel) [2058, 168, 2056, 2057] (by decide +kernel) (by decide +kernel)
set_option maxRecDepth 100000 in
theorem xk_X10_late : xMok xm_X10_late := xMok_of (by decide +kernel) [1403, 2031, 2035, 1457] (by decide +kernel) [2062, 168, 2060, 2061] (by decide +kernel) (by decide +kernel)
set_option maxRecDepth 100000 in
theorem xk_X10_whyNotLaws : xMok xm_X10_whyNotLaws := xMok_of (by decide +kernel) [1577, 1756, 1404, 1405, 1405, 1406, 1728, 1406, 1740, 1406, 2071, 1581] (by decide +kernel) [2070, 168, 2069, 148] (by decide +kernel) (by decide +kernel)
set_option maxRecDepth 100000 in
theorem xk_X10_fallsBy : xMok xm_X10_fallsBy := xMok_of (by decide +kernel) [1768, 1427, 1772, 1866] (by decide +kernel) [2075, 168, 2074, 149] (by decide +kernel) (by decide +kernel)
set_option maxRecDepth 100000 in
theorem xk_X10_laws : xMok xm_X10_laws := xMok_of (by decide +kernel) [1403, 2067, 2072, 1405, 1438, 1406, 1406, 1787, 1406] (by decide +kernel) [2066, 168, 2064, 2065] (by decide +kernel) (by decide +kernel)
set_option maxRecDepth 100000 in
theorem xk_X10_by : xMok xm_X10_by := xMok_of (by decide +kernel) [1403, 2080, 2072, 1870] (by decide +kernel) [2079, 168, 2077, 2078] (by decide +kernel) (by decide +kernel)
set_option maxRecDepth 100000 in
theorem xk_X10_law : xMok xm_X10_law := xMok_of (by decide +kernel) [1403, 1756, 2072, 2072] (by decide +kernel) [2087, 168, 2085, 2086] (by decide +kernel) (by decide +kernel)
set_option maxRecDepth 100000 in
theorem xk_X10_getsBy : xMok xm_X10_getsBy := xMok_of (by decide +kernel) [1768, 1435, 1435, 1772, 1834] (by decide +kernel) [2099, 168, 2098, 152] (by decide +kernel) (by decide +kernel)
set_option maxRecDepth 100000 in
theorem xk_X10_rests : xMok xm_X10_rests := xMok_of (by decide +kernel) [1403, 2092, 2096, 2096, 2096, 2096] (by decide +kernel) [2091, 168, 2089, 2090] (by decide +kernel) (by decide +kernel)
set_option maxRecDepth 100000 in
theorem xk_X10_gets : xMok xm_X10_gets := xMok_of (by decide +kernel) [1403, 2092, 2104, 2104, 2096] (by decide +kernel) [2103, 168, 2101, 2102] (by decide +kernel) (by decide +kernel)
set_option maxRecDepth 100000 in
theorem xk_X10_common : xMok xm_X10_common := xMok_of (by decide +kernel) [2126] (by decide +kernel) [2128, 168, 2127] (by decide +kernel) (by decide +kernel)
set_option maxRecDepth 100000 in
theorem xk_X10_part : xMok xm_X10_part := xMok_of (by decide +kernel) [2126] (by decide +kernel) [2125, 168, 2124] (by decide +kernel) (by decide +kernel)
set_option maxRecDepth 100000 in
theorem xk_X10_tens : xMok xm_X10_tens := xMok_of (by decide +kernel) [2122, 2119] (by decide +kernel) [2121, 168, 2120] (by decide +kernel) (by decide +kernel)
set_option maxRecDepth 100000 in
theorem xk_X10_weightOf : xMok xm_X10_weightOf := xMok_of (by decide +kernel) [1768, 1791, 1420, 1420, 1428, 1772, 1818, 1866, 1438, 1787] (by decide +kernel) [2118, 168, 2117, 154] (by decide +kernel) (by decide +kernel)
set_option maxRecDepth 100000 in
theorem xk_X10_chance : xMok xm_X10_chance := xMok_of (by decide +kernel) [1403, 1728, 2111, 2104, 2115, 2119, 2123, 2129] (by decide +kernel) [2110, 168, 2108, 2109] (by decide +kernel) (by decide +kernel)
set_option maxRecDepth 100000 in
theorem xk_X10_line : xMok xm_X10_line := xMok_of (by decide +kernel) [1403, 2111, 2104, 2115, 2119, 2123, 2129] (by decide +kernel) [2133, 168, 2131, 2132] (by decide +kernel) (by decide +kernel)
set_option maxRecDepth 100000 in
theorem xk_X10_mean : xMok xm_X10_mean := xMok_of (by decide +kernel) [1403, 1728, 2111, 2104, 2115, 2119, 2123, 2129] (by decide +kernel) [2137, 168, 2135, 2136] (by decide +kernel) (by decide +kernel)
set_option maxRecDepth 100000 in
theorem xk_X10_draws : xMok xm_X10_draws := xMok_of (by decide +kernel) [1768, 1744, 2150, 2151, 2152, 1428, 2153, 2122, 1420, 1428, 1772] (by decide +kernel) [2149, 168, 2148, 155] (by decide +kernel) (by decide +kernel)
set_option maxRecDepth 100000 in
theorem xk_X10_isSeed : xMok xm_X10_isSeed := xMok_of (by decide +kernel) [2145, 1581] (by decide +kernel) [2144, 168, 2143] (by decide +kernel) (by decide +kernel)
set_option maxRecDepth 100000 in
theorem xk_X10_drawn : xMok xm_X10_drawn := xMok_of (by decide +kernel) [1403, 1756, 2142, 2104, 2146, 1428, 1866, 1870] (by decide +kernel) [2141, 168, 2139, 2140] (by decide +kernel) (by decide +kernel)
set_option maxRecDepth 100000 in
theorem xk_X10_luck : xMok xm_X10_luck := xMok_of (by decide +kernel) [1403, 2142, 2158, 1581, 1728, 2146, 1744, 1818] (by decide +kernel) [2157, 168, 2155, 2156] (by decide +kernel) (by decide +kernel)
set_option maxRecDepth 100000 in
theorem xk_X10_acts : xMok xm_X10_acts := xMok_of (by decide +kernel) [1420, 1425, 1425, 1425, 1420, 1764, 1438, 1787] (by decide +kernel) [2167, 168, 2166, 156] (by decide +kernel) (by decide +kernel)
set_option maxRecDepth 100000 in
theorem xk_X10_starch : xMok xm_X10_starch := xMok_of (by decide +kernel) [1403, 1728, 1740, 2163, 1581, 1420, 2164, 1938, 1420] (by decide +kernel) [2162, 168, 2160, 2161] (by decide +kernel) (by decide +kernel)
set_option maxRecDepth 100000 in
theorem xk_X10_iron : xMok xm_X10_iron := xMok_of (by decide +kernel) [1403, 1728, 1740, 1420, 2164] (by decide +kernel) [2171, 168, 2169, 2170] (by decide +kernel) (by decide +kernel)
set_option maxRecDepth 100000 in
theorem xk_X10_undo : xMok xm_X10_undo := xMok_of (by decide +kernel) [1403, 1756, 1420, 1420, 1420] (by decide +kernel) [2175, 168, 2173, 2174] (by decide +kernel) (by decide +kernel)
set_option maxRecDepth 100000 in
theorem xk_X10_anew : xMok xm_X10_anew := xMok_of (by decide +kernel) [1403, 1756, 1420, 1420] (by decide +kernel) [2179, 168, 2177, 2178] (by decide +kernel) (by decide +kernel)
set_option maxRecDepth 100000 in
theorem xk_X10_rate : xMok xm_X10_rate := xMok_of (by decide +kernel) [1403, 1728, 2184, 1581, 1420, 1421, 1421] (by decide +kernel) [2183, 168, 2181, 2182] (by decide +kernel) (by decide +kernel)
set_option maxRecDepth 100000 in
theorem xk_X10_count : xMok xm_X10_count := xMok_of (by decide +kernel) [1403, 2189, 1581, 1420, 1419, 1409, 1404] (by decide +kernel) [2188, 168, 2186, 2187] (by decide +kernel) (by decide +kernel)
set_option maxRecDepth 100000 in
theorem xk_X10_image : xMok xm_X10_image := xMok_of (by decide +kernel) [1403, 2194, 1581, 1717, 1426] (by decide +kernel) [2193, 168, 2191, 2192] (by decide +kernel) (by decide +kernel)
set_option maxRecDepth 100000 in
theorem xk_X10_back : xMok xm_X10_back := xMok_of (by decide +kernel) [1403, 2194, 1581, 1426, 1717] (by decide +kernel) [2198, 168, 2196, 2197] (by decide +kernel) (by decide +kernel)
set_option maxRecDepth 100000 in
theorem xk_J7_fill_d0a16 : xMok xm_J7_fill_d0a16 := xMok_of (by decide +kernel) [] (by decide +kernel) [1106, 169, 1105] (by decide +kernel) (by decide +kernel)
set_option maxRecDepth 100000 in
theorem xk_J7_fill_53178 : xMok xm_J7_fill_53178 := xMok_of (by decide +kernel) [] (by decide +kernel) [598, 169, 597] (by decide +kernel) (by decide +kernel)
