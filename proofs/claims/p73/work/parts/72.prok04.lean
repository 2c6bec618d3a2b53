set_option maxRecDepth 100000 in
theorem xk_X10_gapAt : xMok xm_X10_gapAt := xMok_of (by decide +kernel) [1732, 1436, 1818] (by decide +kernel) [1853, 168, 1852, 130] (by decide +kernel) (by decide +kernel)
set_option maxRecDepth 100000 in
theorem xk_X10_isHolding : xMok xm_X10_isHolding := xMok_of (by decide +kernel) [1850, 1420] (by decide +kernel) [1861, 168, 1860, 131] (by decide +kernel) (by decide +kernel)
set_option maxRecDepth 100000 in
theorem xk_X10_fallsAt : xMok xm_X10_fallsAt := xMok_of (by decide +kernel) [1744, 1858, 1744] (by decide +kernel) [1869, 168, 1868, 132] (by decide +kernel) (by decide +kernel)
set_option maxRecDepth 100000 in
theorem xk_X10_givesAt : xMok xm_X10_givesAt := xMok_of (by decide +kernel) [1744, 1818] (by decide +kernel) [1829, 168, 1828, 128] (by decide +kernel) (by decide +kernel)
set_option maxRecDepth 100000 in
theorem xk_X10_orNone : xMok xm_X10_orNone := xMok_of (by decide +kernel) [1744] (by decide +kernel) [1873, 168, 1872, 133] (by decide +kernel) (by decide +kernel)
set_option maxRecDepth 100000 in
theorem xk_X10_man : xMok xm_X10_man := xMok_of (by decide +kernel) [1403, 1728, 1580, 1581, 1421] (by decide +kernel) [1727, 168, 1725, 1726] (by decide +kernel) (by decide +kernel)
set_option maxRecDepth 100000 in
theorem xk_X10_rain : xMok xm_X10_rain := xMok_of (by decide +kernel) [1403, 1740, 1422] (by decide +kernel) [1739, 168, 1737, 1738] (by decide +kernel) (by decide +kernel)
set_option maxRecDepth 100000 in
theorem xk_X10_heat : xMok xm_X10_heat := xMok_of (by decide +kernel) [1403, 1740, 1423] (by decide +kernel) [1751, 168, 1749, 1750] (by decide +kernel) (by decide +kernel)
set_option maxRecDepth 100000 in
theorem xk_X10_frosts : xMok xm_X10_frosts := xMok_of (by decide +kernel) [1403, 1756, 1744, 1424] (by decide +kernel) [1755, 168, 1753, 1754] (by decide +kernel) (by decide +kernel)
set_option maxRecDepth 100000 in
theorem xk_X10_stiff : xMok xm_X10_stiff := xMok_of (by decide +kernel) [1403, 1728, 1740, 1764, 1438, 1787] (by decide +kernel) [1763, 168, 1761, 1762] (by decide +kernel) (by decide +kernel)
set_option maxRecDepth 100000 in
theorem xk_X10_loses : xMok xm_X10_loses := xMok_of (by decide +kernel) [1403, 1728, 1740, 1764, 1439, 1787] (by decide +kernel) [1809, 168, 1807, 1808] (by decide +kernel) (by decide +kernel)
set_option maxRecDepth 100000 in
theorem xk_X10_stands : xMok xm_X10_stands := xMok_of (by decide +kernel) [1403, 1740, 1764, 1814] (by decide +kernel) [1813, 168, 1811, 1812] (by decide +kernel) (by decide +kernel)
set_option maxRecDepth 100000 in
theorem xk_X10_gives : xMok xm_X10_gives := xMok_of (by decide +kernel) [1403, 1728, 1764, 1826] (by decide +kernel) [1825, 168, 1823, 1824] (by decide +kernel) (by decide +kernel)
set_option maxRecDepth 100000 in
theorem xk_X10_hoursOf : xMok xm_X10_hoursOf := xMok_of (by decide +kernel) [1744, 1818] (by decide +kernel) [1837, 168, 1836, 129] (by decide +kernel) (by decide +kernel)
set_option maxRecDepth 100000 in
theorem xk_X10_hours : xMok xm_X10_hours := xMok_of (by decide +kernel) [1403, 1728, 1764, 1834] (by decide +kernel) [1833, 168, 1831, 1832] (by decide +kernel) (by decide +kernel)
set_option maxRecDepth 100000 in
theorem xk_X10_cracks : xMok xm_X10_cracks := xMok_of (by decide +kernel) [1403, 1728, 1764, 1440] (by decide +kernel) [1841, 168, 1839, 1840] (by decide +kernel) (by decide +kernel)
set_option maxRecDepth 100000 in
theorem xk_X10_broken : xMok xm_X10_broken := xMok_of (by decide +kernel) [1403, 1756, 1764, 1732, 1440] (by decide +kernel) [1845, 168, 1843, 1844] (by decide +kernel) (by decide +kernel)
set_option maxRecDepth 100000 in
theorem xk_X10_gap : xMok xm_X10_gap := xMok_of (by decide +kernel) [1403, 1740, 1764, 1850] (by decide +kernel) [1849, 168, 1847, 1848] (by decide +kernel) (by decide +kernel)
set_option maxRecDepth 100000 in
theorem xk_X10_holds : xMok xm_X10_holds := xMok_of (by decide +kernel) [1403, 1756, 1764, 1744, 1858] (by decide +kernel) [1857, 168, 1855, 1856] (by decide +kernel) (by decide +kernel)
set_option maxRecDepth 100000 in
theorem xk_X10_falls : xMok xm_X10_falls := xMok_of (by decide +kernel) [1403, 1756, 1764, 1866, 1870] (by decide +kernel) [1865, 168, 1863, 1864] (by decide +kernel) (by decide +kernel)
set_option maxRecDepth 100000 in
theorem xk_X10_weakest : xMok xm_X10_weakest := xMok_of (by decide +kernel) [1403, 1740, 1764, 1732, 1438, 1787, 1438, 1787] (by decide +kernel) [1877, 168, 1875, 1876] (by decide +kernel) (by decide +kernel)
set_option maxRecDepth 100000 in
theorem xk_X10_all : xMok xm_X10_all := xMok_of (by decide +kernel) [1403, 1740, 1764, 1732, 1438, 1787] (by decide +kernel) [1881, 168, 1879, 1880] (by decide +kernel) (by decide +kernel)
set_option maxRecDepth 100000 in
theorem xk_X10_spare : xMok xm_X10_spare := xMok_of (by decide +kernel) [1403, 1728, 1740, 1764, 1438, 1787, 1421] (by decide +kernel) [1885, 168, 1883, 1884] (by decide +kernel) (by decide +kernel)
set_option maxRecDepth 100000 in
theorem xk_X10_stiffest : xMok xm_X10_stiffest := xMok_of (by decide +kernel) [1403, 1740, 1764, 1732, 1438, 1787, 1438, 1787] (by decide +kernel) [1889, 168, 1887, 1888] (by decide +kernel) (by decide +kernel)
set_option maxRecDepth 100000 in
theorem xk_X10_sags : xMok xm_X10_sags := xMok_of (by decide +kernel) [1403, 1740, 1764, 1732, 1814] (by decide +kernel) [1893, 168, 1891, 1892] (by decide +kernel) (by decide +kernel)
set_option maxRecDepth 100000 in
theorem xk_X10_spell : xMok xm_X10_spell := xMok_of (by decide +kernel) [1403, 1756, 1764, 1744, 1858] (by decide +kernel) [1897, 168, 1895, 1896] (by decide +kernel) (by decide +kernel)
set_option maxRecDepth 100000 in
theorem xk_X10_rises : xMok xm_X10_rises := xMok_of (by decide +kernel) [1403, 1728, 1764, 1744, 1818, 1818] (by decide +kernel) [1901, 168, 1899, 1900] (by decide +kernel) (by decide +kernel)
set_option maxRecDepth 100000 in
theorem xk_X10_lost : xMok xm_X10_lost := xMok_of (by decide +kernel) [1403, 1728, 1764, 1744, 1439, 1787, 1438, 1787, 1439, 1787, 1438, 1787] (by decide +kernel) [1905, 168, 1903, 1904] (by decide +kernel) (by decide +kernel)
set_option maxRecDepth 100000 in
theorem xk_X10_dry : xMok xm_X10_dry := xMok_of (by decide +kernel) [1403, 1756, 1744, 1422, 1424] (by decide +kernel) [1909, 168, 1907, 1908] (by decide +kernel) (by decide +kernel)
set_option maxRecDepth 100000 in
theorem xk_X10_drummer : xMok xm_X10_drummer := xMok_of (by decide +kernel) [1403, 1756, 1764, 1732, 1834, 1834] (by decide +kernel) [1913, 168, 1911, 1912] (by decide +kernel) (by decide +kernel)
set_option maxRecDepth 100000 in
theorem xk_X10_bears : xMok xm_X10_bears := xMok_of (by decide +kernel) [1403, 1728, 1764, 1744, 1438, 1787, 1438, 1787] (by decide +kernel) [1917, 168, 1915, 1916] (by decide +kernel) (by decide +kernel)
set_option maxRecDepth 100000 in
theorem xk_X10_boil : xMok xm_X10_boil := xMok_of (by decide +kernel) [1403, 1728, 1768, 1433, 1772, 1826] (by decide +kernel) [1921, 168, 1919, 1920] (by decide +kernel) (by decide +kernel)
set_option maxRecDepth 100000 in
theorem xk_X10_packs : xMok xm_X10_packs := xMok_of (by decide +kernel) [1768, 1431, 1432, 1772] (by decide +kernel) [1929, 168, 1928, 134] (by decide +kernel) (by decide +kernel)
set_option maxRecDepth 100000 in
theorem xk_X10_gain : xMok xm_X10_gain := xMok_of (by decide +kernel) [1403, 1728, 1740, 1764, 1834, 1926, 1834] (by decide +kernel) [1925, 168, 1923, 1924] (by decide +kernel) (by decide +kernel)
set_option maxRecDepth 100000 in
theorem xk_X10_helps : xMok xm_X10_helps := xMok_of (by decide +kernel) [1403, 1740, 1764, 1866, 1732, 1926, 1866, 1866] (by decide +kernel) [1933, 168, 1931, 1932] (by decide +kernel) (by decide +kernel)
set_option maxRecDepth 100000 in
theorem xk_X10_stocks : xMok xm_X10_stocks := xMok_of (by decide +kernel) [1420, 1444, 1744, 1420, 1425, 1425, 1420, 1420, 1444, 1444, 1443] (by decide +kernel) [1941, 168, 1940, 135] (by decide +kernel) (by decide +kernel)
set_option maxRecDepth 100000 in
theorem xk_X10_stock : xMok xm_X10_stock := xMok_of (by decide +kernel) [1403, 1740, 1938, 1443] (by decide +kernel) [1937, 168, 1935, 1936] (by decide +kernel) (by decide +kernel)
set_option maxRecDepth 100000 in
theorem xk_X10_eaten : xMok xm_X10_eaten := xMok_of (by decide +kernel) [1403, 1756, 1938, 1444] (by decide +kernel) [1945, 168, 1943, 1944] (by decide +kernel) (by decide +kernel)
set_option maxRecDepth 100000 in
theorem xk_X10_empty : xMok xm_X10_empty := xMok_of (by decide +kernel) [1403, 1756, 1938, 1744, 1443] (by decide +kernel) [1949, 168, 1947, 1948] (by decide +kernel) (by decide +kernel)
set_option maxRecDepth 100000 in
theorem xk_X10_wants : xMok xm_X10_wants := xMok_of (by decide +kernel) [1403, 1728, 1740, 1768, 1434, 1772, 1826] (by decide +kernel) [1953, 168, 1951, 1952] (by decide +kernel) (by decide +kernel)
set_option maxRecDepth 100000 in
theorem xk_X10_sharesFrom : xMok xm_X10_sharesFrom := xMok_of (by decide +kernel) [1732, 1772, 1866, 1445, 1445, 1446, 1447, 1435, 1446, 1445, 1446, 1435, 1967] (by decide +kernel) [1970, 168, 1969, 138] (by decide +kernel) (by decide +kernel)
set_option maxRecDepth 100000 in
theorem xk_X10_laysShares : xMok xm_X10_laysShares := xMok_of (by decide +kernel) [1768, 1445, 1446, 1967, 1445, 1744, 1445] (by decide +kernel) [1966, 168, 1965, 137] (by decide +kernel) (by decide +kernel)
set_option maxRecDepth 100000 in
theorem xk_X10_hold : xMok xm_X10_hold := xMok_of (by decide +kernel) [1403, 1958, 1963, 1445] (by decide +kernel) [1957, 168, 1955, 1956] (by decide +kernel) (by decide +kernel)
set_option maxRecDepth 100000 in
theorem xk_X10_share : xMok xm_X10_share := xMok_of (by decide +kernel) [1403, 1958, 1728, 1963, 1447] (by decide +kernel) [1974, 168, 1972, 1973] (by decide +kernel) (by decide +kernel)
set_option maxRecDepth 100000 in
theorem xk_X10_shares : xMok xm_X10_shares := xMok_of (by decide +kernel) [1403, 1958, 1963, 1446] (by decide +kernel) [1978, 168, 1976, 1977] (by decide +kernel) (by decide +kernel)
set_option maxRecDepth 100000 in
theorem xk_X10_fewest : xMok xm_X10_fewest := xMok_of (by decide +kernel) [1403, 1740, 1963, 1445] (by decide +kernel) [1982, 168, 1980, 1981] (by decide +kernel) (by decide +kernel)
set_option maxRecDepth 100000 in
theorem xk_X10_ordersFrom : xMok xm_X10_ordersFrom := xMok_of (by decide +kernel) [1732, 1772, 1866, 1445, 1445, 1447, 1436, 1732, 1791, 1436, 1437, 1991] (by decide +kernel) [1994, 168, 1993, 140] (by decide +kernel) (by decide +kernel)
set_option maxRecDepth 100000 in
theorem xk_X10_laysOrders : xMok xm_X10_laysOrders := xMok_of (by decide +kernel) [1768, 1445, 1991] (by decide +kernel) [1990, 168, 1989, 139] (by decide +kernel) (by decide +kernel)
set_option maxRecDepth 100000 in
theorem xk_X10_ordered : xMok xm_X10_ordered := xMok_of (by decide +kernel) [1403, 1756, 1987, 1445] (by decide +kernel) [1986, 168, 1984, 1985] (by decide +kernel) (by decide +kernel)
set_option maxRecDepth 100000 in
theorem xk_X10_order : xMok xm_X10_order := xMok_of (by decide +kernel) [1403, 1728, 1987, 1447] (by decide +kernel) [1998, 168, 1996, 1997] (by decide +kernel) (by decide +kernel)
set_option maxRecDepth 100000 in
theorem xk_X10_places : xMok xm_X10_places := xMok_of (by decide +kernel) [1436, 1437] (by decide +kernel) [2006, 168, 2005, 141] (by decide +kernel) (by decide +kernel)
set_option maxRecDepth 100000 in
theorem xk_X10_change : xMok xm_X10_change := xMok_of (by decide +kernel) [1403, 1756, 1764, 1866, 1732, 1732, 1768, 2003, 2003, 1772, 1866, 1866] (by decide +kernel) [2002, 168, 2000, 2001] (by decide +kernel) (by decide +kernel)
set_option maxRecDepth 100000 in
theorem xk_X10_better : xMok xm_X10_better := xMok_of (by decide +kernel) [1450, 1450, 1451, 1450, 1451] (by decide +kernel) [2022, 168, 2021, 144] (by decide +kernel) (by decide +kernel)
set_option maxRecDepth 100000 in
theorem xk_X10_ironsAt : xMok xm_X10_ironsAt := xMok_of (by decide +kernel) [1438, 1787, 1439, 1787, 1794, 1440, 1429, 1430, 1780, 1438, 1787, 1421, 1448, 1449, 2019] (by decide +kernel) [2018, 168, 2017, 143] (by decide +kernel) (by decide +kernel)
set_option maxRecDepth 100000 in
theorem xk_X10_ironsOf : xMok xm_X10_ironsOf := xMok_of (by decide +kernel) [1764, 1744, 1442, 1732, 1814, 1441, 1448, 1638, 1448, 1449, 1744, 1450, 1638, 1448, 1638, 2015, 1448, 1450, 1449, 1451, 1638, 1448, 1448, 1638, 1448, 1449, 1452, 1448, 1449, 1452, 1638] (by decide +kernel) [2014, 168, 2013, 142] (by decide +kernel) (by decide +kernel)
set_option maxRecDepth 100000 in
theorem xk_X10_irons : xMok xm_X10_irons := xMok_of (by decide +kernel) [1403, 1728, 2011] (by decide +kernel) [2010, 168, 2008, 2009] (by decide +kernel) (by decide +kernel)
set_option maxRecDepth 100000 in
theorem xk_X10_ironed : xMok xm_X10_ironed := xMok_of (by decide +kernel) [1403, 1728, 2011, 1452] (by decide +kernel) [2026, 168, 2024, 2025] (by decide +kernel) (by decide +kernel)
set_option maxRecDepth 100000 in
theorem xk_X10_whyNot : xMok xm_X10_whyNot := xMok_of (by decide +kernel) [1577, 1728, 1404, 1405, 1405, 1406, 1740, 1406, 1581] (by decide +kernel) [2034, 168, 2033, 145] (by decide +kernel) (by decide +kernel)
set_option maxRecDepth 100000 in
theorem xk_X10_isSo : xMok xm_X10_isSo := xMok_of (by decide +kernel) [1405, 1406, 1818, 1406] (by decide +kernel) [2042, 168, 2041, 147] (by decide +kernel) (by decide +kernel)
set_option maxRecDepth 100000 in
theorem xk_X10_laysFits : xMok xm_X10_laysFits := xMok_of (by decide +kernel) [1768, 1453, 1454, 1455, 1456, 1457, 1458, 1434, 1772, 2039, 1453, 1453, 1454, 1454, 1454, 1455, 1826, 1456, 1456, 1456, 1456, 1457, 1457, 1457, 1744, 1458, 1818] (by decide +kernel) [2038, 168, 2037, 146] (by decide +kernel) (by decide +kernel)
