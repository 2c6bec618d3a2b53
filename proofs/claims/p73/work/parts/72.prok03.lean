set_option maxRecDepth 100000 in
theorem xk_X9_row : xMok xm_X9_row := xMok_of (by decide +kernel) [1146, 536, 1375] (by decide +kernel) [1374, 158, 1372, 1373] (by decide +kernel) (by decide +kernel)
set_option maxRecDepth 100000 in
theorem xk_X9_write : xMok xm_X9_write := xMok_of (by decide +kernel) [1146, 536, 1149, 333, 1384] (by decide +kernel) [1383, 158, 1381, 1382] (by decide +kernel) (by decide +kernel)
set_option maxRecDepth 100000 in
theorem xk_X9_paste : xMok xm_X9_paste := xMok_of (by decide +kernel) [1146, 1146, 536, 536, 1149, 1149, 330, 330, 1392, 1392, 336, 336, 1396, 733, 732, 175] (by decide +kernel) [1391, 158, 1389, 1390] (by decide +kernel) (by decide +kernel)
set_option maxRecDepth 100000 in
theorem xk_X10_init : xMok xm_X10_init := xMok_of (by decide +kernel) [1402, 182, 183, 278, 1404, 278, 1405, 344, 1406, 344, 1407, 277, 1408, 1418, 278, 1419, 278, 1420, 278, 1421, 278, 1422, 278, 1423, 278, 1424, 278, 1425, 1572, 1426, 278, 1434, 278, 1435, 278, 1436, 278, 1437, 278, 1438, 278, 1439, 278, 1440, 278, 1442, 278, 1443, 278, 1447, 278, 1448, 278, 1449, 278, 1450, 278, 1451, 278, 1458, 1404] (by decide +kernel) [1401, 168, 1400] (by decide +kernel) (by decide +kernel)
set_option maxRecDepth 100000 in
theorem xk_X10_in : xMok xm_X10_in := xMok_of (by decide +kernel) [] (by decide +kernel) [1583, 168, 1582] (by decide +kernel) (by decide +kernel)
set_option maxRecDepth 100000 in
theorem xk_X10_isSlot : xMok xm_X10_isSlot := xMok_of (by decide +kernel) [1580, 1581] (by decide +kernel) [1579, 168, 1578] (by decide +kernel) (by decide +kernel)
set_option maxRecDepth 100000 in
theorem xk_X10_row : xMok xm_X10_row := xMok_of (by decide +kernel) [1403, 1577, 1580, 1581, 1404, 1405, 1406] (by decide +kernel) [1576, 168, 1574, 1575] (by decide +kernel) (by decide +kernel)
set_option maxRecDepth 100000 in
theorem xk_X10_cut : xMok xm_X10_cut := xMok_of (by decide +kernel) [] (by decide +kernel) [1590, 168, 1589] (by decide +kernel) (by decide +kernel)
set_option maxRecDepth 100000 in
theorem xk_X10_write : xMok xm_X10_write := xMok_of (by decide +kernel) [1403, 1577, 1404, 1405, 1581, 1406, 1404, 1588] (by decide +kernel) [1587, 168, 1585, 1586] (by decide +kernel) (by decide +kernel)
set_option maxRecDepth 100000 in
theorem xk_X10_paste : xMok xm_X10_paste := xMok_of (by decide +kernel) [1403, 1577, 1577, 1404, 1404, 1404, 1404, 1405, 1405, 1407, 1406, 1406, 1407] (by decide +kernel) [1594, 168, 1592, 1593] (by decide +kernel) (by decide +kernel)
set_option maxRecDepth 100000 in
theorem xk_X10_feed : xMok xm_X10_feed := xMok_of (by decide +kernel) [1403, 1409, 1599, 1599, 1599, 1599, 1599, 1409] (by decide +kernel) [1598, 168, 1596, 1597] (by decide +kernel) (by decide +kernel)
set_option maxRecDepth 100000 in
theorem xk_X10_four : xMok xm_X10_four := xMok_of (by decide +kernel) [1408, 1409, 1409, 1409] (by decide +kernel) [1602, 168, 1601, 90] (by decide +kernel) (by decide +kernel)
set_option maxRecDepth 100000 in
theorem xk_X10_end : xMok xm_X10_end := xMok_of (by decide +kernel) [1403, 1409, 1581, 1409] (by decide +kernel) [1606, 168, 1604, 1605] (by decide +kernel) (by decide +kernel)
set_option maxRecDepth 100000 in
theorem xk_X10_isByte : xMok xm_X10_isByte := xMok_of (by decide +kernel) [1409, 1408, 1408] (by decide +kernel) [1634, 168, 1633, 95] (by decide +kernel) (by decide +kernel)
set_option maxRecDepth 100000 in
theorem xk_X10_next : xMok xm_X10_next := xMok_of (by decide +kernel) [1410, 1631, 1410, 1631, 1410, 1410, 1410, 1412, 1413, 1414, 1410, 1409, 1411, 1410, 1631, 1411, 1410, 1631, 1635, 1636, 1414, 1408, 1410, 1637, 1414, 1635, 1414, 1410, 1410, 1410, 1631, 1411, 1410, 1631, 1413, 1638, 1639, 1413, 1408, 1410, 1413, 1410, 1410, 1408, 1410, 1411, 1410, 1410] (by decide +kernel) [1630, 168, 1629, 94] (by decide +kernel) (by decide +kernel)
set_option maxRecDepth 100000 in
theorem xk_X10_isGood : xMok xm_X10_isGood := xMok_of (by decide +kernel) [1415] (by decide +kernel) [1643, 168, 1642, 96] (by decide +kernel) (by decide +kernel)
set_option maxRecDepth 100000 in
theorem xk_X10_fails : xMok xm_X10_fails := xMok_of (by decide +kernel) [1415, 1415, 1412, 1416] (by decide +kernel) [1664, 168, 1663, 101] (by decide +kernel) (by decide +kernel)
set_option maxRecDepth 100000 in
theorem xk_X10_is : xMok xm_X10_is := xMok_of (by decide +kernel) [1415, 1411, 1414] (by decide +kernel) [1660, 168, 1659, 100] (by decide +kernel) (by decide +kernel)
set_option maxRecDepth 100000 in
theorem xk_X10_takes : xMok xm_X10_takes := xMok_of (by decide +kernel) [1657, 1627] (by decide +kernel) [1656, 168, 1655, 99] (by decide +kernel) (by decide +kernel)
set_option maxRecDepth 100000 in
theorem xk_X10_asks : xMok xm_X10_asks := xMok_of (by decide +kernel) [1653, 1661] (by decide +kernel) [1652, 168, 1651, 98] (by decide +kernel) (by decide +kernel)
set_option maxRecDepth 100000 in
theorem xk_X10_number : xMok xm_X10_number := xMok_of (by decide +kernel) [1415, 1411, 1661, 1413, 1581, 1661, 1413, 1627] (by decide +kernel) [1673, 168, 1672, 103] (by decide +kernel) (by decide +kernel)
set_option maxRecDepth 100000 in
theorem xk_X10_number_ : xMok xm_X10_number_ := xMok_of (by decide +kernel) [1649, 1670] (by decide +kernel) [1669, 168, 1668, 102] (by decide +kernel) (by decide +kernel)
set_option maxRecDepth 100000 in
theorem xk_X10_ends : xMok xm_X10_ends := xMok_of (by decide +kernel) [1411, 1661, 1415, 1627] (by decide +kernel) [1712, 168, 1711, 109] (by decide +kernel) (by decide +kernel)
set_option maxRecDepth 100000 in
theorem xk_X10_begins : xMok xm_X10_begins := xMok_of (by decide +kernel) [1415, 1416, 1410, 1627] (by decide +kernel) [1626, 168, 1625, 93] (by decide +kernel) (by decide +kernel)
set_option maxRecDepth 100000 in
theorem xk_X10_isOver : xMok xm_X10_isOver := xMok_of (by decide +kernel) [1409, 1415, 1417, 1415, 1416, 1418] (by decide +kernel) [1716, 168, 1715, 110] (by decide +kernel) (by decide +kernel)
set_option maxRecDepth 100000 in
theorem xk_X10_fault : xMok xm_X10_fault := xMok_of (by decide +kernel) [1403, 1417, 1418] (by decide +kernel) [1610, 168, 1608, 1609] (by decide +kernel) (by decide +kernel)
set_option maxRecDepth 100000 in
theorem xk_X10_hasRead : xMok xm_X10_hasRead := xMok_of (by decide +kernel) [1420] (by decide +kernel) [1691, 168, 1690, 106] (by decide +kernel) (by decide +kernel)
set_option maxRecDepth 100000 in
theorem xk_X10_tells : xMok xm_X10_tells := xMok_of (by decide +kernel) [1420] (by decide +kernel) [1622, 168, 1621, 92] (by decide +kernel) (by decide +kernel)
set_option maxRecDepth 100000 in
theorem xk_X10_manLine : xMok xm_X10_manLine := xMok_of (by decide +kernel) [1688, 1421, 1696, 1666, 1421, 1697, 1666, 1421, 1698, 1666, 1421, 1415, 1699, 1653, 1688, 1619] (by decide +kernel) [1695, 168, 1694, 107] (by decide +kernel) (by decide +kernel)
set_option maxRecDepth 100000 in
theorem xk_X10_spanLine : xMok xm_X10_spanLine := xMok_of (by decide +kernel) [1705, 1666, 1706, 1666, 1415, 1688, 1619] (by decide +kernel) [1704, 168, 1703, 108] (by decide +kernel) (by decide +kernel)
set_option maxRecDepth 100000 in
theorem xk_X10_isRoom : xMok xm_X10_isRoom := xMok_of (by decide +kernel) [1688, 1661, 1415, 1627, 1415] (by decide +kernel) [1687, 168, 1686, 105] (by decide +kernel) (by decide +kernel)
set_option maxRecDepth 100000 in
theorem xk_X10_lineHere : xMok xm_X10_lineHere := xMok_of (by decide +kernel) [1683, 1657, 1684, 1692, 1415, 1700, 1657, 1684, 1422, 1670, 1701, 1415, 1707, 1657, 1684, 1423, 1670, 1701, 1415, 1708, 1657, 1684, 1424, 1701, 1415, 1661] (by decide +kernel) [1682, 168, 1681, 104] (by decide +kernel) (by decide +kernel)
set_option maxRecDepth 100000 in
theorem xk_X10_clears : xMok xm_X10_clears := xMok_of (by decide +kernel) [1419, 1619, 1422, 1423, 1424] (by decide +kernel) [1618, 168, 1617, 91] (by decide +kernel) (by decide +kernel)
set_option maxRecDepth 100000 in
theorem xk_X10_garrisonLine : xMok xm_X10_garrisonLine := xMok_of (by decide +kernel) [1648, 1649, 1665, 1666, 1619, 1674, 1666, 1619, 1675, 1666, 1619, 1676, 1666, 1619, 1677, 1666, 1619, 1678, 1666, 1619] (by decide +kernel) [1647, 168, 1646, 97] (by decide +kernel) (by decide +kernel)
set_option maxRecDepth 100000 in
theorem xk_X10_garrison : xMok xm_X10_garrison := xMok_of (by decide +kernel) [1403, 1615, 1623, 1640, 1411, 1419, 1644, 1679, 1640, 1709, 1419, 1713, 1415, 1717, 1419] (by decide +kernel) [1614, 168, 1612, 1613] (by decide +kernel) (by decide +kernel)
set_option maxRecDepth 100000 in
theorem xk_X10_copyRow : xMok xm_X10_copyRow := xMok_of (by decide +kernel) [] (by decide +kernel) [1723, 168, 1722] (by decide +kernel) (by decide +kernel)
set_option maxRecDepth 100000 in
theorem xk_X10_copyGarrison : xMok xm_X10_copyGarrison := xMok_of (by decide +kernel) [1419, 1721, 1420, 1721, 1421, 1721, 1422, 1721, 1423, 1721, 1424, 1721, 1425, 1721] (by decide +kernel) [1720, 168, 1719, 111] (by decide +kernel) (by decide +kernel)
set_option maxRecDepth 100000 in
theorem xk_X10_isGarrison : xMok xm_X10_isGarrison := xMok_of (by decide +kernel) [1419] (by decide +kernel) [1759, 168, 1758, 116] (by decide +kernel) (by decide +kernel)
set_option maxRecDepth 100000 in
theorem xk_X10_hoursAll : xMok xm_X10_hoursAll := xMok_of (by decide +kernel) [1420] (by decide +kernel) [1747, 168, 1746, 115] (by decide +kernel) (by decide +kernel)
set_option maxRecDepth 100000 in
theorem xk_X10_men : xMok xm_X10_men := xMok_of (by decide +kernel) [1420] (by decide +kernel) [1735, 168, 1734, 113] (by decide +kernel) (by decide +kernel)
set_option maxRecDepth 100000 in
theorem xk_X10_isMan : xMok xm_X10_isMan := xMok_of (by decide +kernel) [1732, 1581] (by decide +kernel) [1731, 168, 1730, 112] (by decide +kernel) (by decide +kernel)
set_option maxRecDepth 100000 in
theorem xk_X10_areTwo : xMok xm_X10_areTwo := xMok_of (by decide +kernel) [1728, 1728] (by decide +kernel) [2095, 168, 2094, 151] (by decide +kernel) (by decide +kernel)
set_option maxRecDepth 100000 in
theorem xk_X10_isHour : xMok xm_X10_isHour := xMok_of (by decide +kernel) [1744, 1581] (by decide +kernel) [1743, 168, 1742, 114] (by decide +kernel) (by decide +kernel)
set_option maxRecDepth 100000 in
theorem xk_X10_isSoon : xMok xm_X10_isSoon := xMok_of (by decide +kernel) [1740] (by decide +kernel) [2114, 168, 2113, 153] (by decide +kernel) (by decide +kernel)
set_option maxRecDepth 100000 in
theorem xk_X10_isLaw : xMok xm_X10_isLaw := xMok_of (by decide +kernel) [1756, 1580, 1581] (by decide +kernel) [2083, 168, 2082, 150] (by decide +kernel) (by decide +kernel)
set_option maxRecDepth 100000 in
theorem xk_X10_isMany : xMok xm_X10_isMany := xMok_of (by decide +kernel) [1756, 1962, 1581] (by decide +kernel) [1961, 168, 1960, 136] (by decide +kernel) (by decide +kernel)
set_option maxRecDepth 100000 in
theorem xk_X10_isHalf : xMok xm_X10_isHalf := xMok_of (by decide +kernel) [1581] (by decide +kernel) [2106, 168, 2105] (by decide +kernel) (by decide +kernel)
set_option maxRecDepth 100000 in
theorem xk_X10_isBit : xMok xm_X10_isBit := xMok_of (by decide +kernel) [] (by decide +kernel) [1793, 168, 1792] (by decide +kernel) (by decide +kernel)
set_option maxRecDepth 100000 in
theorem xk_X10_lays : xMok xm_X10_lays := xMok_of (by decide +kernel) [1420, 1427, 1428, 1429, 1431, 1433, 1441, 1732, 1434, 1421, 1435, 1436, 1437] (by decide +kernel) [1771, 168, 1770, 118] (by decide +kernel) (by decide +kernel)
set_option maxRecDepth 100000 in
theorem xk_X10_upTo : xMok xm_X10_upTo := xMok_of (by decide +kernel) [] (by decide +kernel) [1786, 168, 1785] (by decide +kernel) (by decide +kernel)
set_option maxRecDepth 100000 in
theorem xk_X10_at : xMok xm_X10_at := xMok_of (by decide +kernel) [] (by decide +kernel) [1790, 168, 1789, 122] (by decide +kernel) (by decide +kernel)
set_option maxRecDepth 100000 in
theorem xk_X10_starts : xMok xm_X10_starts := xMok_of (by decide +kernel) [1434, 1435, 1784, 1438, 1787, 1439, 1787, 1420, 1425, 1425, 1425, 1425, 1784, 1429, 1430, 1791, 1784, 1431, 1432, 1784, 1440, 1424, 1440, 1438, 1787, 1440] (by decide +kernel) [1783, 168, 1782, 121] (by decide +kernel) (by decide +kernel)
set_option maxRecDepth 100000 in
theorem xk_X10_isSagging : xMok xm_X10_isSagging := xMok_of (by decide +kernel) [1441, 1441, 1442, 1791, 1438, 1787, 1421] (by decide +kernel) [1805, 168, 1804, 125] (by decide +kernel) (by decide +kernel)
set_option maxRecDepth 100000 in
theorem xk_X10_isBesideSagging : xMok xm_X10_isBesideSagging := xMok_of (by decide +kernel) [1437, 1436, 1802, 1732, 1436, 1802] (by decide +kernel) [1801, 168, 1800, 124] (by decide +kernel) (by decide +kernel)
set_option maxRecDepth 100000 in
theorem xk_X10_losesOf : xMok xm_X10_losesOf := xMok_of (by decide +kernel) [1421, 1423, 1427, 1798, 1427, 1438, 1787, 1424, 1421, 1433, 1422, 1422] (by decide +kernel) [1797, 168, 1796, 123] (by decide +kernel) (by decide +kernel)
set_option maxRecDepth 100000 in
theorem xk_X10_hour : xMok xm_X10_hour := xMok_of (by decide +kernel) [1732, 1441, 1441, 1780, 1732, 1441, 1441, 1439, 1787, 1794, 1428, 1791, 1424] (by decide +kernel) [1779, 168, 1778, 120] (by decide +kernel) (by decide +kernel)
set_option maxRecDepth 100000 in
theorem xk_X10_runs : xMok xm_X10_runs := xMok_of (by decide +kernel) [1732, 1440, 1744, 1776] (by decide +kernel) [1775, 168, 1774, 119] (by decide +kernel) (by decide +kernel)
set_option maxRecDepth 100000 in
theorem xk_X10_laysNow : xMok xm_X10_laysNow := xMok_of (by decide +kernel) [1768, 1772] (by decide +kernel) [1767, 168, 1766, 117] (by decide +kernel) (by decide +kernel)
set_option maxRecDepth 100000 in
theorem xk_X10_isStanding : xMok xm_X10_isStanding := xMok_of (by decide +kernel) [1438, 1787, 1421] (by decide +kernel) [1821, 168, 1820, 127] (by decide +kernel) (by decide +kernel)
set_option maxRecDepth 100000 in
theorem xk_X10_standsAt : xMok xm_X10_standsAt := xMok_of (by decide +kernel) [1732, 1818] (by decide +kernel) [1817, 168, 1816, 126] (by decide +kernel) (by decide +kernel)
