set_option maxRecDepth 100000 in
theorem tbI_27 : ∀ w ∈ TB_27, w ∈ lw_tbl := fun w h => ((goodIn_r (big := lw_tbl) TB_27 (1128 :: 1129 :: 1130 :: 1132 :: 1133 :: 1134 :: 1135 :: 1136 :: 1137 :: 1138 :: 1140 :: 1141 :: 1142 :: 1143 :: 1144 :: 1146 :: 1147 :: 1148 :: 1149 :: 1150 :: 1151 :: 1153 :: 1154 :: 1155 :: 1156 :: 1157 :: 1158 :: 1159 :: 1160 :: 1161 :: []) (by decide +kernel) (by decide +kernel)) w h).1
set_option maxRecDepth 100000 in
theorem tbI_28 : ∀ w ∈ TB_28, w ∈ lw_tbl := fun w h => ((goodIn_r (big := lw_tbl) TB_28 (1163 :: 1164 :: 1165 :: 1166 :: 1167 :: 1170 :: 1172 :: 1173 :: 1174 :: 1175 :: 1176 :: 1177 :: 1178 :: 1180 :: 1181 :: 1182 :: 1183 :: 1184 :: 1185 :: 1186 :: 1187 :: 1188 :: 1189 :: 1190 :: 1191 :: 1193 :: 1194 :: 1195 :: 1196 :: 1197 :: []) (by decide +kernel) (by decide +kernel)) w h).1
set_option maxRecDepth 100000 in
theorem tbI_29 : ∀ w ∈ TB_29, w ∈ lw_tbl := fun w h => ((goodIn_r (big := lw_tbl) TB_29 (1198 :: 1199 :: 1200 :: 1201 :: 1202 :: 1203 :: 1204 :: 1205 :: 1206 :: 1207 :: 1208 :: 1209 :: 1210 :: 1212 :: 1213 :: 1214 :: 1215 :: 1216 :: 1217 :: 1218 :: 1219 :: 1220 :: 1221 :: 1222 :: 1223 :: 1224 :: 1225 :: 1226 :: 1227 :: 1228 :: []) (by decide +kernel) (by decide +kernel)) w h).1
set_option maxRecDepth 100000 in
theorem tbI_30 : ∀ w ∈ TB_30, w ∈ lw_tbl := fun w h => ((goodIn_r (big := lw_tbl) TB_30 (1229 :: 1230 :: 1231 :: 1232 :: 1233 :: 1234 :: 1235 :: 1236 :: 1237 :: 1238 :: 1239 :: 1240 :: 1241 :: 1243 :: 1244 :: 1246 :: 1247 :: 1248 :: 1249 :: 1250 :: 1251 :: 1252 :: 1253 :: 1254 :: 1255 :: 1256 :: 1257 :: 1258 :: 1259 :: 1260 :: []) (by decide +kernel) (by decide +kernel)) w h).1
set_option maxRecDepth 100000 in
theorem tbI_31 : ∀ w ∈ TB_31, w ∈ lw_tbl := fun w h => ((goodIn_r (big := lw_tbl) TB_31 (1261 :: 1262 :: 1263 :: 1264 :: 1265 :: 1266 :: 1267 :: 1268 :: 1269 :: 1270 :: 1271 :: 1272 :: 1273 :: 1274 :: 1275 :: 1276 :: 1277 :: 1278 :: 1279 :: 1280 :: 1281 :: 1282 :: 1283 :: 1284 :: 1285 :: 1286 :: 1287 :: 1288 :: 1289 :: 1290 :: []) (by decide +kernel) (by decide +kernel)) w h).1
set_option maxRecDepth 100000 in
theorem tbI_32 : ∀ w ∈ TB_32, w ∈ lw_tbl := fun w h => ((goodIn_r (big := lw_tbl) TB_32 (1291 :: 1292 :: 1293 :: 1294 :: 1295 :: 1296 :: 1297 :: 1298 :: 1299 :: 1300 :: 1301 :: 1302 :: 1303 :: 1304 :: 1306 :: 1307 :: 1308 :: 1309 :: 1310 :: 1311 :: 1312 :: 1313 :: 1314 :: 1315 :: 1316 :: 1317 :: 1318 :: 1319 :: 1320 :: 1321 :: []) (by decide +kernel) (by decide +kernel)) w h).1
set_option maxRecDepth 100000 in
theorem tbI_33 : ∀ w ∈ TB_33, w ∈ lw_tbl := fun w h => ((goodIn_r (big := lw_tbl) TB_33 (1322 :: 1323 :: 1324 :: 1327 :: 1328 :: 1329 :: 1330 :: 1331 :: 1332 :: 1333 :: 1334 :: 1335 :: 1336 :: 1337 :: 1338 :: 1339 :: 1340 :: 1341 :: 1342 :: 1343 :: 1344 :: 1345 :: 1346 :: 1347 :: 1348 :: 1349 :: 1350 :: 1351 :: 1352 :: 1353 :: []) (by decide +kernel) (by decide +kernel)) w h).1
set_option maxRecDepth 100000 in
theorem tbI_34 : ∀ w ∈ TB_34, w ∈ lw_tbl := fun w h => ((goodIn_r (big := lw_tbl) TB_34 (1354 :: 1355 :: 1356 :: 1357 :: 1358 :: 1359 :: 1360 :: 1361 :: 1362 :: 1363 :: 1364 :: 1365 :: 1366 :: 1367 :: 1368 :: 1369 :: 1370 :: 1371 :: 1372 :: 1373 :: 1374 :: 1375 :: 1467 :: 1468 :: 1469 :: 1470 :: 1471 :: 1472 :: 1474 :: 1475 :: []) (by decide +kernel) (by decide +kernel)) w h).1
set_option maxRecDepth 100000 in
theorem tbI_35 : ∀ w ∈ TB_35, w ∈ lw_tbl := fun w h => ((goodIn_r (big := lw_tbl) TB_35 (1476 :: 1477 :: 1478 :: 1479 :: 1480 :: 1481 :: 1482 :: 1483 :: 1484 :: 1485 :: 1486 :: 1487 :: 1489 :: 1490 :: 1491 :: 1493 :: 1494 :: 1495 :: 1497 :: 1498 :: 1499 :: 1501 :: 1502 :: 1503 :: 1505 :: 1506 :: 1507 :: 1509 :: 1510 :: 1511 :: []) (by decide +kernel) (by decide +kernel)) w h).1
set_option maxRecDepth 100000 in
theorem tbI_36 : ∀ w ∈ TB_36, w ∈ lw_tbl := fun w h => ((goodIn_r (big := lw_tbl) TB_36 (1513 :: 1514 :: 1515 :: 1517 :: 1518 :: 1519 :: 1520 :: 1521 :: 1522 :: 1524 :: 1525 :: 1526 :: 1528 :: 1529 :: 1530 :: 1532 :: 1533 :: 1534 :: 1536 :: 1537 :: 1538 :: 1540 :: 1541 :: 1542 :: 1544 :: 1545 :: 1546 :: 1547 :: 1548 :: 1549 :: []) (by decide +kernel) (by decide +kernel)) w h).1
set_option maxRecDepth 100000 in
theorem tbI_37 : ∀ w ∈ TB_37, w ∈ lw_tbl := fun w h => ((goodIn_r (big := lw_tbl) TB_37 (1550 :: 1551 :: 1552 :: 1554 :: 1555 :: 1556 :: 1558 :: 1559 :: 1560 :: 1561 :: 1562 :: 1563 :: 1565 :: 1566 :: 1567 :: 1569 :: 1570 :: 1571 :: 1573 :: 1574 :: 1575 :: 1577 :: 1578 :: 1579 :: 1581 :: 1582 :: 1583 :: 1584 :: 1585 :: 1586 :: []) (by decide +kernel) (by decide +kernel)) w h).1
set_option maxRecDepth 100000 in
theorem tbI_38 : ∀ w ∈ TB_38, w ∈ lw_tbl := fun w h => ((goodIn_r (big := lw_tbl) TB_38 (1587 :: 1589 :: 1590 :: 1591 :: 1593 :: 1594 :: 1595 :: 1596 :: 1597 :: 1598 :: 1599 :: 1600 :: 1601 :: 1602 :: 1603 :: 1605 :: 1606 :: 1607 :: 1609 :: 1610 :: 1611 :: 1612 :: 1613 :: 1615 :: 1616 :: 1617 :: 1618 :: 1620 :: 1621 :: 1622 :: []) (by decide +kernel) (by decide +kernel)) w h).1
set_option maxRecDepth 100000 in
theorem tbI_39 : ∀ w ∈ TB_39, w ∈ lw_tbl := fun w h => ((goodIn_r (big := lw_tbl) TB_39 (1624 :: 1625 :: 1626 :: 1628 :: 1629 :: 1630 :: 1632 :: 1633 :: 1634 :: 1635 :: 1636 :: 1637 :: 1638 :: 1639 :: 1640 :: 1641 :: 1642 :: 1644 :: 1645 :: 1646 :: 1648 :: 1649 :: 1650 :: 1652 :: 1653 :: 1654 :: 1655 :: 1656 :: 1657 :: 1658 :: []) (by decide +kernel) (by decide +kernel)) w h).1
set_option maxRecDepth 100000 in
theorem tbI_40 : ∀ w ∈ TB_40, w ∈ lw_tbl := fun w h => ((goodIn_r (big := lw_tbl) TB_40 (1660 :: 1661 :: 1662 :: 1664 :: 1665 :: 1666 :: 1668 :: 1669 :: 1670 :: 1671 :: 1672 :: 1673 :: 1674 :: 1676 :: 1677 :: 1678 :: 1680 :: 1681 :: 1682 :: 1684 :: 1685 :: 1686 :: 1688 :: 1689 :: 1690 :: 1692 :: 1693 :: 1694 :: 1696 :: 1697 :: []) (by decide +kernel) (by decide +kernel)) w h).1
set_option maxRecDepth 100000 in
theorem tbI_41 : ∀ w ∈ TB_41, w ∈ lw_tbl := fun w h => ((goodIn_r (big := lw_tbl) TB_41 (1698 :: 1700 :: 1701 :: 1702 :: 1703 :: 1704 :: 1705 :: 1707 :: 1708 :: 1709 :: 1710 :: 1711 :: 1712 :: 1714 :: 1715 :: 1716 :: 1717 :: 1718 :: 1719 :: 1720 :: 1722 :: 1723 :: 1724 :: 1726 :: 1727 :: 1728 :: 1730 :: 1731 :: 1732 :: 1733 :: []) (by decide +kernel) (by decide +kernel)) w h).1
set_option maxRecDepth 100000 in
theorem tbI_42 : ∀ w ∈ TB_42, w ∈ lw_tbl := fun w h => ((goodIn_r (big := lw_tbl) TB_42 (1734 :: 1735 :: 1736 :: 1738 :: 1739 :: 1740 :: 1742 :: 1743 :: 1744 :: 1745 :: 1746 :: 1747 :: 1748 :: 1750 :: 1751 :: 1752 :: 1754 :: 1755 :: 1756 :: 1758 :: 1759 :: 1760 :: 1761 :: 1762 :: 1763 :: 1764 :: 1766 :: 1767 :: 1768 :: 1770 :: []) (by decide +kernel) (by decide +kernel)) w h).1
set_option maxRecDepth 100000 in
theorem tbI_43 : ∀ w ∈ TB_43, w ∈ lw_tbl := fun w h => ((goodIn_r (big := lw_tbl) TB_43 (1771 :: 1772 :: 1774 :: 1775 :: 1776 :: 1777 :: 1778 :: 1779 :: 1780 :: 1782 :: 1783 :: 1784 :: 1786 :: 1787 :: 1788 :: 1790 :: 1791 :: 1792 :: 1793 :: 1794 :: 1795 :: 1797 :: 1798 :: 1799 :: 1800 :: 1801 :: 1802 :: 1803 :: 1805 :: 1806 :: []) (by decide +kernel) (by decide +kernel)) w h).1
set_option maxRecDepth 100000 in
theorem tbI_44 : ∀ w ∈ TB_44, w ∈ lw_tbl := fun w h => ((goodIn_r (big := lw_tbl) TB_44 (1807 :: 1809 :: 1810 :: 1811 :: 1813 :: 1814 :: 1815 :: 1816 :: 1817 :: 1818 :: 1819 :: 1820 :: 1821 :: 1822 :: 1824 :: 1825 :: 1826 :: 1827 :: 1828 :: 1829 :: 1830 :: 1832 :: 1833 :: 1834 :: 1835 :: 1836 :: 1837 :: 1838 :: 1840 :: 1841 :: []) (by decide +kernel) (by decide +kernel)) w h).1
set_option maxRecDepth 100000 in
theorem tbI_45 : ∀ w ∈ TB_45, w ∈ lw_tbl := fun w h => ((goodIn_r (big := lw_tbl) TB_45 (1842 :: 1844 :: 1845 :: 1846 :: 1848 :: 1849 :: 1850 :: 1852 :: 1853 :: 1854 :: 1856 :: 1857 :: 1858 :: 1860 :: 1861 :: 1862 :: 1864 :: 1865 :: 1866 :: 1868 :: 1869 :: 1870 :: 1871 :: 1872 :: 1873 :: 1874 :: 1876 :: 1877 :: 1878 :: 1880 :: []) (by decide +kernel) (by decide +kernel)) w h).1
set_option maxRecDepth 100000 in
theorem tbI_46 : ∀ w ∈ TB_46, w ∈ lw_tbl := fun w h => ((goodIn_r (big := lw_tbl) TB_46 (1881 :: 1882 :: 1884 :: 1885 :: 1886 :: 1887 :: 1888 :: 1889 :: 1890 :: 1892 :: 1893 :: 1894 :: 1895 :: 1897 :: 1898 :: 1899 :: 1901 :: 1902 :: 1903 :: 1905 :: 1906 :: 1907 :: 1909 :: 1910 :: 1911 :: 1912 :: 1913 :: 1914 :: 1915 :: 1916 :: []) (by decide +kernel) (by decide +kernel)) w h).1
set_option maxRecDepth 100000 in
theorem tbI_47 : ∀ w ∈ TB_47, w ∈ lw_tbl := fun w h => ((goodIn_r (big := lw_tbl) TB_47 (1917 :: 1918 :: 1920 :: 1921 :: 1922 :: 1923 :: 1924 :: 1925 :: 1926 :: 1928 :: 1929 :: 1930 :: 1932 :: 1933 :: 1934 :: 1935 :: 1936 :: 1937 :: 1938 :: 1939 :: 1940 :: 1941 :: 1942 :: 1943 :: 1945 :: 1946 :: 1947 :: 1948 :: 1949 :: 1950 :: []) (by decide +kernel) (by decide +kernel)) w h).1
set_option maxRecDepth 100000 in
theorem tbI_48 : ∀ w ∈ TB_48, w ∈ lw_tbl := fun w h => ((goodIn_r (big := lw_tbl) TB_48 (1951 :: 1952 :: 1953 :: 1954 :: 1955 :: 1956 :: 1957 :: 1958 :: 1959 :: 1960 :: 1961 :: 1962 :: 1963 :: 1965 :: 1966 :: 1967 :: 1969 :: 1970 :: 1971 :: 1972 :: 1973 :: 1974 :: 1975 :: 1977 :: 1978 :: 1979 :: 1980 :: 1981 :: 1982 :: 1983 :: []) (by decide +kernel) (by decide +kernel)) w h).1
set_option maxRecDepth 100000 in
theorem tbI_49 : ∀ w ∈ TB_49, w ∈ lw_tbl := fun w h => ((goodIn_r (big := lw_tbl) TB_49 (1984 :: 1985 :: 1986 :: 1987 :: 1989 :: 1990 :: 1991 :: 1992 :: 1993 :: 1994 :: 1995 :: 1996 :: 1997 :: 1998 :: 1999 :: 48 :: 32 :: 45 :: 25 :: 47 :: 57 :: 44 :: 50 :: 54 :: 51 :: 49 :: 55 :: 53 :: 52 :: 46 :: []) (by decide +kernel) (by decide +kernel)) w h).1
set_option maxRecDepth 100000 in
theorem tbI_50 : ∀ w ∈ TB_50, w ∈ lw_tbl := fun w h => ((goodIn_r (big := lw_tbl) TB_50 (41 :: 42 :: 43 :: 39 :: 40 :: 38 :: 37 :: 2 :: 9 :: 3 :: 5 :: 10 :: 12 :: 8 :: 6 :: 14 :: 1 :: 7 :: 13 :: 4 :: 15 :: 16 :: 20 :: 18 :: 22 :: 24 :: 21 :: 17 :: 23 :: 19 :: []) (by decide +kernel) (by decide +kernel)) w h).1
set_option maxRecDepth 100000 in
theorem tbI_51 : ∀ w ∈ TB_51, w ∈ lw_tbl := fun w h => ((goodIn_r (big := lw_tbl) TB_51 (11 :: 0 :: 27 :: 34 :: 29 :: 26 :: 56 :: 35 :: 36 :: 28 :: 31 :: 30 :: 58 :: 33 :: 119 :: 131 :: 141 :: 86 :: 101 :: 98 :: 62 :: 67 :: 76 :: 77 :: 148 :: 79 :: 118 :: 120 :: 95 :: 94 :: []) (by decide +kernel) (by decide +kernel)) w h).1
set_option maxRecDepth 100000 in
theorem tbI_52 : ∀ w ∈ TB_52, w ∈ lw_tbl := fun w h => ((goodIn_r (big := lw_tbl) TB_52 (112 :: 99 :: 143 :: 142 :: 116 :: 132 :: 135 :: 134 :: 73 :: 127 :: 130 :: 137 :: 138 :: 113 :: 123 :: 109 :: 100 :: 59 :: 68 :: 70 :: 104 :: 102 :: 87 :: 126 :: 128 :: 90 :: 121 :: 125 :: 133 :: 93 :: []) (by decide +kernel) (by decide +kernel)) w h).1
set_option maxRecDepth 100000 in
theorem tbI_53 : ∀ w ∈ TB_53, w ∈ lw_tbl := fun w h => ((goodIn_r (big := lw_tbl) TB_53 (60 :: 92 :: 83 :: 111 :: 69 :: 96 :: 136 :: 110 :: 84 :: 66 :: 65 :: 139 :: 147 :: 91 :: 105 :: 129 :: 78 :: 114 :: 97 :: 74 :: 115 :: 106 :: 61 :: 140 :: 64 :: 85 :: 124 :: 89 :: 88 :: 103 :: []) (by decide +kernel) (by decide +kernel)) w h).1
set_option maxRecDepth 100000 in
theorem tbI_54 : ∀ w ∈ TB_54, w ∈ lw_tbl := fun w h => ((goodIn_r (big := lw_tbl) TB_54 (117 :: 71 :: 72 :: 80 :: 75 :: 122 :: 144 :: 63 :: 146 :: 107 :: 81 :: 108 :: 145 :: 82 :: []) (by decide +kernel) (by decide +kernel)) w h).1
theorem TB_in : ∀ w ∈ TB, w ∈ lw_tbl := by
  intro w h
  obtain ⟨ch, h1, h2⟩ := List.mem_flatten.mp h
  simp only [TBs, List.mem_cons, List.not_mem_nil, or_false] at h1
  rcases h1 with rfl | rfl | rfl | rfl | rfl | rfl | rfl | rfl | rfl | rfl | rfl | rfl | rfl | rfl | rfl | rfl | rfl | rfl | rfl | rfl | rfl | rfl | rfl | rfl | rfl | rfl | rfl | rfl | rfl | rfl | rfl | rfl | rfl | rfl | rfl | rfl | rfl | rfl | rfl | rfl | rfl | rfl | rfl | rfl | rfl | rfl | rfl | rfl | rfl | rfl | rfl | rfl | rfl | rfl | rfl
  · exact tbI_0 w h2
  · exact tbI_1 w h2
  · exact tbI_2 w h2
  · exact tbI_3 w h2
  · exact tbI_4 w h2
  · exact tbI_5 w h2
  · exact tbI_6 w h2
  · exact tbI_7 w h2
  · exact tbI_8 w h2
  · exact tbI_9 w h2
  · exact tbI_10 w h2
  · exact tbI_11 w h2
  · exact tbI_12 w h2
  · exact tbI_13 w h2
  · exact tbI_14 w h2
  · exact tbI_15 w h2
  · exact tbI_16 w h2
  · exact tbI_17 w h2
  · exact tbI_18 w h2
  · exact tbI_19 w h2
  · exact tbI_20 w h2
  · exact tbI_21 w h2
  · exact tbI_22 w h2
  · exact tbI_23 w h2
  · exact tbI_24 w h2
  · exact tbI_25 w h2
  · exact tbI_26 w h2
  · exact tbI_27 w h2
  · exact tbI_28 w h2
  · exact tbI_29 w h2
  · exact tbI_30 w h2
  · exact tbI_31 w h2
  · exact tbI_32 w h2
  · exact tbI_33 w h2
  · exact tbI_34 w h2
  · exact tbI_35 w h2
  · exact tbI_36 w h2
  · exact tbI_37 w h2
  · exact tbI_38 w h2
  · exact tbI_39 w h2
  · exact tbI_40 w h2
  · exact tbI_41 w h2
  · exact tbI_42 w h2
  · exact tbI_43 w h2
  · exact tbI_44 w h2
  · exact tbI_45 w h2
  · exact tbI_46 w h2
  · exact tbI_47 w h2
  · exact tbI_48 w h2
  · exact tbI_49 w h2
  · exact tbI_50 w h2
  · exact tbI_51 w h2
  · exact tbI_52 w h2
  · exact tbI_53 w h2
  · exact tbI_54 w h2
