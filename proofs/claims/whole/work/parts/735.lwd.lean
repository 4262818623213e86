/-! PHASE 3: THE WORDS THAT THE LAW NEEDS, among the tables' -/
set_option maxRecDepth 20000 in
theorem wsN_r1 : ∀ w ∈ wsL_law0_r1, w ∈ lw_tbl := fun w h => (goodIn_r (big := lw_tbl) wsL_law0_r1 [134, 135, 105, 1517, 1518, 123, 2135, 136, 137, 138, 139, 140, 141, 142, 143, 106, 161, 162, 107, 188, 189, 108, 198, 199] (by decide +kernel) (by decide +kernel) w h).1
set_option maxRecDepth 20000 in
theorem wsN_r2 : ∀ w ∈ wsL_law0_r2, w ∈ lw_tbl := fun w h => (goodIn_r (big := lw_tbl) wsL_law0_r2 [109, 664, 665, 666, 667, 500, 501, 116, 668, 530, 531, 119, 669, 670, 642, 643, 122, 671, 662, 672, 537, 120, 698, 673] (by decide +kernel) (by decide +kernel) w h).1
set_option maxRecDepth 20000 in
theorem wsN_r3 : ∀ w ∈ wsL_law0_r3, w ∈ lw_tbl := fun w h => (goodIn_r (big := lw_tbl) wsL_law0_r3 [674, 144, 145, 146, 147, 160, 148, 163, 164, 165, 166, 167, 173, 190, 191, 192, 193, 194, 201, 202, 203, 204, 205, 110] (by decide +kernel) (by decide +kernel) w h).1
set_option maxRecDepth 20000 in
theorem wsN_r4 : ∀ w ∈ wsL_law0_r4, w ∈ lw_tbl := fun w h => (goodIn_r (big := lw_tbl) wsL_law0_r4 [241, 228, 244, 248, 251, 255, 258, 262, 229, 266, 269, 273, 276, 206, 207, 208, 209, 210, 212, 214, 323, 324, 325, 326] (by decide +kernel) (by decide +kernel) w h).1
set_option maxRecDepth 20000 in
theorem wsN_r5 : ∀ w ∈ wsL_law0_r5, w ∈ lw_tbl := fun w h => (goodIn_r (big := lw_tbl) wsL_law0_r5 [327, 328, 329, 111, 330, 2155, 331, 332, 333, 334, 335, 2156, 337, 338, 339, 340, 341, 342, 343, 344, 345, 346, 112, 347] (by decide +kernel) (by decide +kernel) w h).1
set_option maxRecDepth 20000 in
theorem wsN_r6 : ∀ w ∈ wsL_law0_r6, w ∈ lw_tbl := fun w h => (goodIn_r (big := lw_tbl) wsL_law0_r6 [348, 349, 350, 351, 353, 354, 113, 355, 356, 357, 114, 358, 359, 360, 361, 362, 363, 364, 365, 366, 367, 368, 369, 371] (by decide +kernel) (by decide +kernel) w h).1
set_option maxRecDepth 20000 in
theorem wsN_r7 : ∀ w ∈ wsL_law0_r7, w ∈ lw_tbl := fun w h => (goodIn_r (big := lw_tbl) wsL_law0_r7 [373, 375, 376, 377, 378, 153, 379, 380, 381, 382, 383, 384, 385, 386, 279, 283, 387, 388, 115, 389, 390, 391, 392, 393] (by decide +kernel) (by decide +kernel) w h).1
set_option maxRecDepth 20000 in
theorem wsN_r8 : ∀ w ∈ wsL_law0_r8, w ∈ lw_tbl := fun w h => (goodIn_r (big := lw_tbl) wsL_law0_r8 [171, 170, 394, 395, 396, 397, 169, 168, 398, 399, 400, 402, 403, 404, 406, 0, 407, 408, 410, 1, 411, 413, 414, 415] (by decide +kernel) (by decide +kernel) w h).1
set_option maxRecDepth 20000 in
theorem wsN_r9 : ∀ w ∈ wsL_law0_r9, w ∈ lw_tbl := fun w h => (goodIn_r (big := lw_tbl) wsL_law0_r9 [416, 417, 418, 419, 420, 421, 422, 423, 424, 425, 426, 427, 428, 429, 430, 431, 432, 433, 434, 435, 437, 438, 440, 2] (by decide +kernel) (by decide +kernel) w h).1
set_option maxRecDepth 20000 in
theorem wsN_r10 : ∀ w ∈ wsL_law0_r10, w ∈ lw_tbl := fun w h => (goodIn_r (big := lw_tbl) wsL_law0_r10 [441, 442, 443, 444, 445, 216, 446, 447, 448, 449, 450, 451, 452, 453, 454, 455, 457, 3, 458, 459, 460, 461, 462, 463] (by decide +kernel) (by decide +kernel) w h).1
set_option maxRecDepth 20000 in
theorem wsN_r11 : ∀ w ∈ wsL_law0_r11, w ∈ lw_tbl := fun w h => (goodIn_r (big := lw_tbl) wsL_law0_r11 [464, 466, 4, 467, 469, 471, 5, 472, 474, 475, 476, 477, 481, 483, 6, 484, 485, 486, 487, 488, 490, 491, 492, 493] (by decide +kernel) (by decide +kernel) w h).1
set_option maxRecDepth 20000 in
theorem wsN_r12 : ∀ w ∈ wsL_law0_r12, w ∈ lw_tbl := fun w h => (goodIn_r (big := lw_tbl) wsL_law0_r12 [494, 495, 496, 497, 498, 499, 502, 503, 504, 505, 506, 511, 513, 515, 510, 508, 532, 533, 534, 535, 536, 625, 627, 629] (by decide +kernel) (by decide +kernel) w h).1
set_option maxRecDepth 20000 in
theorem wsN_r13 : ∀ w ∈ wsL_law0_r13, w ∈ lw_tbl := fun w h => (goodIn_r (big := lw_tbl) wsL_law0_r13 [630, 623, 539, 540, 541, 567, 570, 573, 576, 578, 581, 615, 616, 617, 618, 542, 545, 548, 551, 554, 556, 559, 562, 565] (by decide +kernel) (by decide +kernel) w h).1
set_option maxRecDepth 20000 in
theorem wsN_r14 : ∀ w ∈ wsL_law0_r14, w ∈ lw_tbl := fun w h => (goodIn_r (big := lw_tbl) wsL_law0_r14 [619, 621, 620, 121, 622, 644, 645, 646, 647, 648, 651, 1519, 1520, 1521, 1522, 1610, 1611, 1612, 1613, 1614, 1615, 1616, 1617, 1618] (by decide +kernel) (by decide +kernel) w h).1
set_option maxRecDepth 20000 in
theorem wsN_r15 : ∀ w ∈ wsL_law0_r15, w ∈ lw_tbl := fun w h => (goodIn_r (big := lw_tbl) wsL_law0_r15 [1619, 1620, 1621, 1622, 1623, 1624, 1625, 1626, 1627, 1628, 1524, 1525, 1526, 1528, 36, 1529, 1530, 1532, 37, 1533, 1534, 1535, 1536, 1537] (by decide +kernel) (by decide +kernel) w h).1
set_option maxRecDepth 20000 in
theorem wsN_r16 : ∀ w ∈ wsL_law0_r16, w ∈ lw_tbl := fun w h => (goodIn_r (big := lw_tbl) wsL_law0_r16 [1538, 1539, 1540, 1542, 38, 1543, 1545, 1547, 39, 1548, 1549, 1551, 40, 1552, 1553, 1555, 41, 1556, 1557, 1558, 1559, 1560, 1562, 42] (by decide +kernel) (by decide +kernel) w h).1
set_option maxRecDepth 20000 in
theorem wsN_r17 : ∀ w ∈ wsL_law0_r17, w ∈ lw_tbl := fun w h => (goodIn_r (big := lw_tbl) wsL_law0_r17 [1563, 1565, 1567, 43, 1568, 1569, 1571, 44, 1572, 1573, 1575, 45, 1576, 1577, 1579, 46, 1580, 1581, 1583, 47, 1584, 1586, 1588, 48] (by decide +kernel) (by decide +kernel) w h).1
set_option maxRecDepth 20000 in
theorem wsN_r18 : ∀ w ∈ wsL_law0_r18, w ∈ lw_tbl := fun w h => (goodIn_r (big := lw_tbl) wsL_law0_r18 [1589, 1590, 1592, 49, 1593, 1594, 1596, 50, 1597, 1599, 1601, 51, 1602, 1606, 1608, 52, 1609, 918, 919, 104, 920, 921, 922, 923] (by decide +kernel) (by decide +kernel) w h).1
set_option maxRecDepth 20000 in
theorem wsN_r19 : ∀ w ∈ wsL_law0_r19, w ∈ lw_tbl := fun w h => (goodIn_r (big := lw_tbl) wsL_law0_r19 [924, 925, 926, 127, 994, 995, 996, 997, 1668, 1669, 1670, 1671, 1672, 1674, 53, 1675, 1676, 1678, 54, 1679, 1513, 1514, 1515, 1516] (by decide +kernel) (by decide +kernel) w h).1
set_option maxRecDepth 20000 in
theorem wsN_r20 : ∀ w ∈ wsL_law0_r20, w ∈ lw_tbl := fun w h => (goodIn_r (big := lw_tbl) wsL_law0_r20 [998, 999, 1000, 1001, 1002, 1003, 1004, 1005, 1007, 128, 1006, 1680, 1681, 1682, 1683, 1023, 1024, 1025, 1026, 1027, 1028, 1029, 1030, 1032] (by decide +kernel) (by decide +kernel) w h).1
set_option maxRecDepth 20000 in
theorem wsN_r21 : ∀ w ∈ wsL_law0_r21, w ∈ lw_tbl := fun w h => (goodIn_r (big := lw_tbl) wsL_law0_r21 [19, 1033, 1035, 1036, 1037, 1038, 1684, 1685, 1686, 1687, 1688, 1690, 55, 1691, 699, 700, 701, 702, 1847, 1848, 1849, 1850, 703, 704] (by decide +kernel) (by decide +kernel) w h).1
set_option maxRecDepth 20000 in
theorem wsN_r22 : ∀ w ∈ wsL_law0_r22, w ∈ lw_tbl := fun w h => (goodIn_r (big := lw_tbl) wsL_law0_r22 [705, 706, 1851, 1852, 1853, 1854, 707, 708, 709, 710, 1855, 1856, 1857, 1858, 1859, 1861, 91, 1862, 711, 712, 713, 714, 1863, 1864] (by decide +kernel) (by decide +kernel) w h).1
set_option maxRecDepth 20000 in
theorem wsN_r23 : ∀ w ∈ wsL_law0_r23, w ∈ lw_tbl := fun w h => (goodIn_r (big := lw_tbl) wsL_law0_r23 [1865, 1866, 715, 716, 717, 718, 1867, 1868, 1869, 1870, 719, 720, 721, 722, 1871, 1872, 1873, 1874, 723, 724, 725, 726, 727, 728] (by decide +kernel) (by decide +kernel) w h).1
set_option maxRecDepth 20000 in
theorem wsN_r24 : ∀ w ∈ wsL_law0_r24, w ∈ lw_tbl := fun w h => (goodIn_r (big := lw_tbl) wsL_law0_r24 [729, 730, 1875, 1876, 1877, 1878, 1767, 1769, 71, 1770, 1735, 1737, 63, 1738, 1039, 1040, 1041, 1042, 1043, 1044, 1045, 909, 910, 911] (by decide +kernel) (by decide +kernel) w h).1
set_option maxRecDepth 20000 in
theorem wsN_r25 : ∀ w ∈ wsL_law0_r25, w ∈ lw_tbl := fun w h => (goodIn_r (big := lw_tbl) wsL_law0_r25 [912, 1879, 1880, 1881, 1882, 1759, 1761, 69, 1762, 732, 733, 734, 735, 736, 737, 738, 1883, 1884, 1885, 1886, 739, 740, 741, 742] (by decide +kernel) (by decide +kernel) w h).1
set_option maxRecDepth 20000 in
theorem wsN_r26 : ∀ w ∈ wsL_law0_r26, w ∈ lw_tbl := fun w h => (goodIn_r (big := lw_tbl) wsL_law0_r26 [1887, 1888, 1889, 1890, 743, 744, 745, 746, 1891, 1892, 1893, 1894, 747, 748, 749, 750, 1895, 1896, 1897, 1898, 1047, 1048, 1049, 1050] (by decide +kernel) (by decide +kernel) w h).1
set_option maxRecDepth 20000 in
theorem wsN_r27 : ∀ w ∈ wsL_law0_r27, w ∈ lw_tbl := fun w h => (goodIn_r (big := lw_tbl) wsL_law0_r27 [1051, 1052, 1053, 1054, 1055, 1057, 20, 1058, 1059, 129, 1899, 1900, 1901, 1902, 1903, 1905, 92, 1906, 1835, 1837, 88, 1838, 1075, 1076] (by decide +kernel) (by decide +kernel) w h).1
set_option maxRecDepth 20000 in
theorem wsN_r28 : ∀ w ∈ wsL_law0_r28, w ∈ lw_tbl := fun w h => (goodIn_r (big := lw_tbl) wsL_law0_r28 [1077, 1078, 1079, 1080, 1081, 1082, 852, 853, 854, 875, 818, 130, 819, 820, 821, 822, 1907, 1908, 1909, 1910, 1827, 1829, 86, 1830] (by decide +kernel) (by decide +kernel) w h).1
set_option maxRecDepth 20000 in
theorem wsN_r29 : ∀ w ∈ wsL_law0_r29, w ∈ lw_tbl := fun w h => (goodIn_r (big := lw_tbl) wsL_law0_r29 [1831, 1833, 87, 1834, 1747, 1749, 66, 1750, 1751, 1753, 67, 1754, 1083, 1084, 1085, 1086, 1087, 1088, 1089, 1090, 1092, 21, 1093, 1911] (by decide +kernel) (by decide +kernel) w h).1
set_option maxRecDepth 20000 in
theorem wsN_r30 : ∀ w ∈ wsL_law0_r30, w ∈ lw_tbl := fun w h => (goodIn_r (big := lw_tbl) wsL_law0_r30 [1912, 1913, 1914, 1915, 1917, 93, 1918, 1919, 1921, 94, 1922, 1095, 1096, 1097, 1098, 1099, 1100, 1101, 1923, 1924, 1925, 1926, 1102, 1103] (by decide +kernel) (by decide +kernel) w h).1
set_option maxRecDepth 20000 in
theorem wsN_r31 : ∀ w ∈ wsL_law0_r31, w ∈ lw_tbl := fun w h => (goodIn_r (big := lw_tbl) wsL_law0_r31 [1104, 1105, 1106, 1107, 1108, 1927, 1928, 1929, 1930, 1109, 1110, 1111, 1112, 1113, 1114, 1115, 1116, 1931, 1932, 1933, 1934, 1117, 1118, 1119] (by decide +kernel) (by decide +kernel) w h).1
set_option maxRecDepth 20000 in
theorem wsN_r32 : ∀ w ∈ wsL_law0_r32, w ∈ lw_tbl := fun w h => (goodIn_r (big := lw_tbl) wsL_law0_r32 [1120, 1121, 1122, 1123, 1935, 1936, 1937, 1938, 1124, 1125, 1126, 1127, 1128, 1129, 1130, 1939, 1940, 1941, 1942, 1131, 1132, 1133, 1134, 1135] (by decide +kernel) (by decide +kernel) w h).1
set_option maxRecDepth 20000 in
theorem wsN_r33 : ∀ w ∈ wsL_law0_r33, w ∈ lw_tbl := fun w h => (goodIn_r (big := lw_tbl) wsL_law0_r33 [1136, 1137, 1943, 1944, 1945, 1946, 1947, 1949, 95, 1950, 1138, 1139, 1140, 1141, 1142, 1143, 1144, 1145, 1146, 1147, 1148, 1951, 1952, 1953] (by decide +kernel) (by decide +kernel) w h).1
set_option maxRecDepth 20000 in
theorem wsN_r34 : ∀ w ∈ wsL_law0_r34, w ∈ lw_tbl := fun w h => (goodIn_r (big := lw_tbl) wsL_law0_r34 [1954, 1150, 1151, 1152, 1153, 1154, 1155, 1156, 1157, 760, 761, 762, 763, 765, 7, 766, 1955, 1956, 1957, 1958, 1799, 1801, 79, 1802] (by decide +kernel) (by decide +kernel) w h).1
set_option maxRecDepth 20000 in
theorem wsN_r35 : ∀ w ∈ wsL_law0_r35, w ∈ lw_tbl := fun w h => (goodIn_r (big := lw_tbl) wsL_law0_r35 [1158, 1159, 1160, 1161, 1162, 1163, 1164, 1959, 1960, 1961, 1962, 1166, 1167, 1168, 1169, 1170, 1171, 1172, 1173, 1175, 131, 1174, 1963, 1964] (by decide +kernel) (by decide +kernel) w h).1
set_option maxRecDepth 20000 in
theorem wsN_r36 : ∀ w ∈ wsL_law0_r36, w ∈ lw_tbl := fun w h => (goodIn_r (big := lw_tbl) wsL_law0_r36 [1965, 1966, 1191, 1192, 1193, 1194, 1195, 1196, 1197, 1967, 1968, 1969, 1970, 1198, 1199, 1200, 1201, 1202, 1203, 1204, 1971, 1972, 1973, 1974] (by decide +kernel) (by decide +kernel) w h).1
set_option maxRecDepth 20000 in
theorem wsN_r37 : ∀ w ∈ wsL_law0_r37, w ∈ lw_tbl := fun w h => (goodIn_r (big := lw_tbl) wsL_law0_r37 [1205, 1206, 1207, 1208, 1209, 1210, 1211, 1975, 1976, 1977, 1978, 1212, 1213, 1214, 1215, 1216, 1217, 1218, 1979, 1980, 1981, 1982, 1219, 1220] (by decide +kernel) (by decide +kernel) w h).1
set_option maxRecDepth 20000 in
theorem wsN_r38 : ∀ w ∈ wsL_law0_r38, w ∈ lw_tbl := fun w h => (goodIn_r (big := lw_tbl) wsL_law0_r38 [1221, 1222, 1223, 1224, 1225, 1226, 832, 833, 834, 1983, 1984, 1985, 1986, 1743, 1745, 65, 1746, 751, 752, 753, 754, 755, 756, 757] (by decide +kernel) (by decide +kernel) w h).1
set_option maxRecDepth 20000 in
theorem wsN_r39 : ∀ w ∈ wsL_law0_r39, w ∈ lw_tbl := fun w h => (goodIn_r (big := lw_tbl) wsL_law0_r39 [758, 759, 767, 769, 8, 770, 771, 772, 773, 774, 1987, 1988, 1989, 1990, 1795, 1797, 78, 1798, 1803, 1805, 80, 1806, 1807, 1809] (by decide +kernel) (by decide +kernel) w h).1
set_option maxRecDepth 20000 in
theorem wsN_r40 : ∀ w ∈ wsL_law0_r40, w ∈ lw_tbl := fun w h => (goodIn_r (big := lw_tbl) wsL_law0_r40 [81, 1810, 1227, 1228, 1229, 1230, 1231, 1232, 1233, 1234, 1235, 1236, 1237, 847, 849, 14, 850, 851, 817, 843, 845, 13, 846, 1991] (by decide +kernel) (by decide +kernel) w h).1
set_option maxRecDepth 20000 in
theorem wsN_r41 : ∀ w ∈ wsL_law0_r41, w ∈ lw_tbl := fun w h => (goodIn_r (big := lw_tbl) wsL_law0_r41 [1992, 1993, 1994, 1995, 1997, 96, 1998, 1823, 1825, 85, 1826, 1815, 1817, 83, 1818, 1819, 1821, 84, 1822, 1238, 1239, 1240, 1241, 1242] (by decide +kernel) (by decide +kernel) w h).1
set_option maxRecDepth 20000 in
theorem wsN_r42 : ∀ w ∈ wsL_law0_r42, w ∈ lw_tbl := fun w h => (goodIn_r (big := lw_tbl) wsL_law0_r42 [1243, 1244, 1245, 1246, 1247, 1248, 1249, 1250, 1252, 22, 1253, 1255, 1256, 1999, 2000, 2001, 2002, 2003, 2005, 97, 2006, 1257, 1258, 1259] (by decide +kernel) (by decide +kernel) w h).1
set_option maxRecDepth 20000 in
theorem wsN_r43 : ∀ w ∈ wsL_law0_r43, w ∈ lw_tbl := fun w h => (goodIn_r (big := lw_tbl) wsL_law0_r43 [1260, 1261, 1262, 1263, 1264, 1265, 1266, 1267, 2007, 2008, 2009, 2010, 775, 776, 777, 778, 779, 780, 781, 782, 783, 2011, 2012, 2013] (by decide +kernel) (by decide +kernel) w h).1
set_option maxRecDepth 20000 in
theorem wsN_r44 : ∀ w ∈ wsL_law0_r44, w ∈ lw_tbl := fun w h => (goodIn_r (big := lw_tbl) wsL_law0_r44 [2014, 1755, 1757, 68, 1758, 1763, 1765, 70, 1766, 784, 785, 786, 787, 788, 789, 790, 791, 2015, 2016, 2017, 2018, 1268, 1269, 1270] (by decide +kernel) (by decide +kernel) w h).1
set_option maxRecDepth 20000 in
theorem wsN_r45 : ∀ w ∈ wsL_law0_r45, w ∈ lw_tbl := fun w h => (goodIn_r (big := lw_tbl) wsL_law0_r45 [1271, 1272, 1273, 1274, 1275, 1276, 1277, 1278, 1279, 881, 132, 882, 2019, 2020, 2021, 2022, 2023, 2025, 98, 2026, 2027, 2029, 99, 2030] (by decide +kernel) (by decide +kernel) w h).1
set_option maxRecDepth 20000 in
theorem wsN_r46 : ∀ w ∈ wsL_law0_r46, w ∈ lw_tbl := fun w h => (goodIn_r (big := lw_tbl) wsL_law0_r46 [793, 794, 795, 796, 797, 798, 799, 800, 801, 802, 803, 804, 805, 806, 807, 808, 809, 811, 9, 812, 813, 815, 10, 816] (by decide +kernel) (by decide +kernel) w h).1
set_option maxRecDepth 20000 in
theorem wsN_r47 : ∀ w ∈ wsL_law0_r47, w ∈ lw_tbl := fun w h => (goodIn_r (big := lw_tbl) wsL_law0_r47 [823, 824, 825, 826, 827, 829, 11, 830, 831, 835, 836, 837, 838, 839, 841, 12, 842, 855, 856, 857, 858, 2031, 2032, 2033] (by decide +kernel) (by decide +kernel) w h).1
set_option maxRecDepth 20000 in
theorem wsN_r48 : ∀ w ∈ wsL_law0_r48, w ∈ lw_tbl := fun w h => (goodIn_r (big := lw_tbl) wsL_law0_r48 [2034, 2035, 2037, 100, 2038, 1779, 1781, 74, 1782, 1783, 1785, 75, 1786, 1787, 1789, 76, 1790, 1791, 1793, 77, 1794, 1811, 1813, 82] (by decide +kernel) (by decide +kernel) w h).1
set_option maxRecDepth 20000 in
theorem wsN_r49 : ∀ w ∈ wsL_law0_r49, w ∈ lw_tbl := fun w h => (goodIn_r (big := lw_tbl) wsL_law0_r49 [1814, 1280, 1281, 1282, 1283, 1284, 1285, 1286, 1288, 1289, 1290, 1291, 2039, 2040, 2041, 2042, 1775, 1777, 73, 1778, 1292, 1293, 1294, 1295] (by decide +kernel) (by decide +kernel) w h).1
set_option maxRecDepth 20000 in
theorem wsN_r50 : ∀ w ∈ wsL_law0_r50, w ∈ lw_tbl := fun w h => (goodIn_r (big := lw_tbl) wsL_law0_r50 [1296, 1297, 1298, 1299, 1300, 1301, 1302, 2043, 2044, 2045, 2046, 1303, 1304, 1305, 1306, 1307, 1308, 1309, 1310, 1312, 23, 1313, 1314, 1316] (by decide +kernel) (by decide +kernel) w h).1
set_option maxRecDepth 20000 in
theorem wsN_r51 : ∀ w ∈ wsL_law0_r51, w ∈ lw_tbl := fun w h => (goodIn_r (big := lw_tbl) wsL_law0_r51 [24, 1317, 863, 865, 15, 866, 2047, 2048, 2049, 2050, 2051, 2053, 101, 2054, 859, 860, 861, 862, 2055, 2056, 2057, 2058, 1319, 1320] (by decide +kernel) (by decide +kernel) w h).1
set_option maxRecDepth 20000 in
theorem wsN_r52 : ∀ w ∈ wsL_law0_r52, w ∈ lw_tbl := fun w h => (goodIn_r (big := lw_tbl) wsL_law0_r52 [1321, 1322, 1323, 1324, 1325, 1326, 1328, 25, 1329, 2059, 2060, 2061, 2062, 867, 868, 869, 870, 2063, 2064, 2065, 2066, 871, 872, 873] (by decide +kernel) (by decide +kernel) w h).1
set_option maxRecDepth 20000 in
theorem wsN_r53 : ∀ w ∈ wsL_law0_r53, w ∈ lw_tbl := fun w h => (goodIn_r (big := lw_tbl) wsL_law0_r53 [874, 876, 878, 16, 879, 880, 2067, 2068, 2069, 2070, 883, 884, 885, 886, 2071, 2072, 2073, 2074, 887, 888, 889, 890, 891, 892] (by decide +kernel) (by decide +kernel) w h).1
set_option maxRecDepth 20000 in
theorem wsN_r54 : ∀ w ∈ wsL_law0_r54, w ∈ lw_tbl := fun w h => (goodIn_r (big := lw_tbl) wsL_law0_r54 [893, 894, 2075, 2076, 2077, 2078, 1331, 1332, 1333, 1334, 1335, 1336, 1337, 1338, 1340, 26, 1341, 1342, 1344, 27, 1345, 1347, 1348, 1349] (by decide +kernel) (by decide +kernel) w h).1
set_option maxRecDepth 20000 in
theorem wsN_r55 : ∀ w ∈ wsL_law0_r55, w ∈ lw_tbl := fun w h => (goodIn_r (big := lw_tbl) wsL_law0_r55 [1350, 652, 653, 1352, 1353, 1354, 1351, 2079, 2080, 2081, 2082, 1727, 1729, 61, 1730, 1355, 1356, 1357, 1358, 1359, 1360, 1361, 1362, 1364] (by decide +kernel) (by decide +kernel) w h).1
set_option maxRecDepth 20000 in
theorem wsN_r56 : ∀ w ∈ wsL_law0_r56, w ∈ lw_tbl := fun w h => (goodIn_r (big := lw_tbl) wsL_law0_r56 [28, 1365, 2083, 2084, 2085, 2086, 1368, 1369, 1370, 1371, 1372, 1373, 1374, 1376, 1377, 1378, 1379, 2087, 2088, 2089, 2090, 1839, 1841, 89] (by decide +kernel) (by decide +kernel) w h).1
set_option maxRecDepth 20000 in
theorem wsN_r57 : ∀ w ∈ wsL_law0_r57, w ∈ lw_tbl := fun w h => (goodIn_r (big := lw_tbl) wsL_law0_r57 [1842, 1380, 1381, 1382, 1383, 1384, 1385, 1386, 1387, 1388, 1389, 1390, 1392, 1393, 1394, 1395, 2091, 2092, 2093, 2094, 1739, 1741, 64, 1742] (by decide +kernel) (by decide +kernel) w h).1
set_option maxRecDepth 20000 in
theorem wsN_r58 : ∀ w ∈ wsL_law0_r58, w ∈ lw_tbl := fun w h => (goodIn_r (big := lw_tbl) wsL_law0_r58 [1843, 1845, 90, 1846, 1396, 1397, 1398, 1399, 1400, 1401, 1402, 2095, 2096, 2097, 2098, 1403, 1404, 1405, 1406, 1407, 1408, 1409, 1410, 1412] (by decide +kernel) (by decide +kernel) w h).1
set_option maxRecDepth 20000 in
theorem wsN_r59 : ∀ w ∈ wsL_law0_r59, w ∈ lw_tbl := fun w h => (goodIn_r (big := lw_tbl) wsL_law0_r59 [29, 1413, 2099, 2100, 2101, 2102, 1415, 1416, 1417, 1418, 1419, 1420, 1421, 2103, 2104, 2105, 2106, 1423, 1424, 1425, 1426, 1427, 1428, 1429] (by decide +kernel) (by decide +kernel) w h).1
set_option maxRecDepth 20000 in
theorem wsN_r60 : ∀ w ∈ wsL_law0_r60, w ∈ lw_tbl := fun w h => (goodIn_r (big := lw_tbl) wsL_law0_r60 [1430, 1431, 1432, 1433, 517, 1434, 1435, 1436, 1438, 30, 1439, 1440, 1442, 31, 1443, 1446, 1447, 1448, 1449, 1451, 32, 1452, 1453, 1454] (by decide +kernel) (by decide +kernel) w h).1
set_option maxRecDepth 20000 in
theorem wsN_r61 : ∀ w ∈ wsOL_law0_r61, w ∈ lw_tbl := fun w h => (goodIn_r (big := lw_tbl) wsOL_law0_r61 [1455, 1456, 1458, 33, 1459, 1460, 1462, 1463, 1465, 1466, 105, 1467, 2160, 1468, 1470, 34, 1471, 1692, 1693, 1694, 1695, 1696, 1698, 56] (by decide +kernel) (by decide +kernel) w h).1
set_option maxRecDepth 20000 in
theorem wsN_r62 : ∀ w ∈ wsL_law0_r62, w ∈ lw_tbl := fun w h => (goodIn_r (big := lw_tbl) wsL_law0_r62 [1699, 1700, 1702, 57, 1703, 1704, 1705, 1706, 1715, 1717, 58, 1718, 1719, 1721, 59, 1722, 1723, 1725, 60, 1726, 1731, 1733, 62, 1734] (by decide +kernel) (by decide +kernel) w h).1
set_option maxRecDepth 20000 in
theorem wsN_r63 : ∀ w ∈ wsL_law0_r63, w ∈ lw_tbl := fun w h => (goodIn_r (big := lw_tbl) wsL_law0_r63 [1771, 1773, 72, 1774, 1472, 1473, 1474, 1475, 1476, 1477, 1478, 1480, 1481, 1482, 1483, 2107, 2108, 2109, 2110, 1484, 1485, 1486, 1487, 1488] (by decide +kernel) (by decide +kernel) w h).1
set_option maxRecDepth 20000 in
theorem wsN_r64 : ∀ w ∈ wsL_law0_r64, w ∈ lw_tbl := fun w h => (goodIn_r (big := lw_tbl) wsL_law0_r64 [1489, 1490, 1491, 1493, 35, 1494, 1496, 2111, 2112, 2113, 2114, 1497, 1498, 1499, 1500, 1501, 1502, 1503, 2115, 2116, 2117, 2118, 895, 896] (by decide +kernel) (by decide +kernel) w h).1
set_option maxRecDepth 20000 in
theorem wsN_r65 : ∀ w ∈ wsL_law0_r65, w ∈ lw_tbl := fun w h => (goodIn_r (big := lw_tbl) wsL_law0_r65 [897, 898, 899, 900, 901, 902, 903, 904, 905, 907, 17, 908, 914, 915, 916, 917, 2119, 2120, 2121, 2122, 2123, 2125, 102, 2126] (by decide +kernel) (by decide +kernel) w h).1
set_option maxRecDepth 20000 in
theorem wsN_r66 : ∀ w ∈ wsL_law0_r66, w ∈ lw_tbl := fun w h => (goodIn_r (big := lw_tbl) wsL_law0_r66 [2127, 2129, 103, 2130, 1505, 1506, 1507, 1508, 1509, 1510, 1511, 2131, 2132, 2133, 2134] (by decide +kernel) (by decide +kernel) w h).1
theorem wsN_wsX110 : ∀ w ∈ wsX110, w ∈ lw_tbl := by decide +kernel
theorem wsN_wsX120 : ∀ w ∈ wsX120, w ∈ lw_tbl := by decide +kernel
theorem wsN_wsX90 : ∀ w ∈ wsX90, w ∈ lw_tbl := by decide +kernel
theorem wsN_wsX100 : ∀ w ∈ wsX100, w ∈ lw_tbl := by decide +kernel
theorem wsN_wsX70 : ∀ w ∈ wsX70, w ∈ lw_tbl := by decide +kernel
theorem wsN_wsX50 : ∀ w ∈ wsX50, w ∈ lw_tbl := by decide +kernel
theorem wsN_wsX60 : ∀ w ∈ wsX60, w ∈ lw_tbl := by decide +kernel
theorem wsN_wsX30 : ∀ w ∈ wsX30, w ∈ lw_tbl := by decide +kernel
theorem wsN_wsX20 : ∀ w ∈ wsX20, w ∈ lw_tbl := by decide +kernel
theorem wsN_wsX80 : ∀ w ∈ wsX80, w ∈ lw_tbl := by decide +kernel
theorem wsN_wsX40 : ∀ w ∈ wsX40, w ∈ lw_tbl := by decide +kernel
theorem wsN_ns : ∀ w ∈ (ns_at RX11 254).filter goodWord, w ∈ lw_tbl := by decide +kernel
def wsN_law0 : List Cond := (wsL_law0_r1 ++ (wsL_law0_r2 ++ (wsL_law0_r3 ++ (wsL_law0_r4 ++ (wsL_law0_r5 ++ (wsL_law0_r6 ++ (wsL_law0_r7 ++ (wsL_law0_r8 ++ (wsL_law0_r9 ++ (wsL_law0_r10 ++ (wsL_law0_r11 ++ (wsL_law0_r12 ++ (wsL_law0_r13 ++ (wsL_law0_r14 ++ (wsL_law0_r15 ++ (wsL_law0_r16 ++ (wsL_law0_r17 ++ (wsL_law0_r18 ++ (wsL_law0_r19 ++ (wsL_law0_r20 ++ (wsL_law0_r21 ++ (wsL_law0_r22 ++ (wsL_law0_r23 ++ (wsL_law0_r24 ++ (wsL_law0_r25 ++ (wsL_law0_r26 ++ (wsL_law0_r27 ++ (wsL_law0_r28 ++ (wsL_law0_r29 ++ (wsL_law0_r30 ++ (wsL_law0_r31 ++ (wsL_law0_r32 ++ (wsL_law0_r33 ++ (wsL_law0_r34 ++ (wsL_law0_r35 ++ (wsL_law0_r36 ++ (wsL_law0_r37 ++ (wsL_law0_r38 ++ (wsL_law0_r39 ++ (wsL_law0_r40 ++ (wsL_law0_r41 ++ (wsL_law0_r42 ++ (wsL_law0_r43 ++ (wsL_law0_r44 ++ (wsL_law0_r45 ++ (wsL_law0_r46 ++ (wsL_law0_r47 ++ (wsL_law0_r48 ++ (wsL_law0_r49 ++ (wsL_law0_r50 ++ (wsL_law0_r51 ++ (wsL_law0_r52 ++ (wsL_law0_r53 ++ (wsL_law0_r54 ++ (wsL_law0_r55 ++ (wsL_law0_r56 ++ (wsL_law0_r57 ++ (wsL_law0_r58 ++ (wsL_law0_r59 ++ (wsL_law0_r60 ++ (wsOL_law0_r61 ++ (wsL_law0_r62 ++ (wsL_law0_r63 ++ (wsL_law0_r64 ++ (wsL_law0_r65 ++ wsL_law0_r66))))))))))))))))))))))))))))))))))))))))))))))))))))))))))))))))) ++ wsX110 ++ wsX120 ++ wsX90 ++ wsX100 ++ wsX70 ++ wsX50 ++ wsX60 ++ wsX30 ++ wsX20 ++ wsX80 ++ wsX40 ++ ([] : List Cond)
def wsN_law : List Cond := wsN_law0 ++ (vx_atS RX11 100 "java/lang/IllegalStateException" ["java/lang/RuntimeException", "java/lang/Exception"]).filter goodWord ++ (vx_atS RX11 113 "java/lang/IllegalArgumentException" ["java/lang/RuntimeException", "java/lang/Exception"]).filter goodWord ++ (vx_atS RX11 241 "java/lang/IndexOutOfBoundsException" ["java/lang/RuntimeException", "java/lang/Exception"]).filter goodWord ++ (ns_at RX11 254).filter goodWord
theorem or2 {A B : List Cond} {S : List Cond} (ha : ∀ w ∈ A, w ∈ S) (hb : ∀ w ∈ B, w ∈ S) : ∀ w ∈ A ++ B, w ∈ S := fun w h => (List.mem_append.mp h).elim (ha w) (hb w)
theorem wsN_in0 : ∀ w ∈ wsN_law0, w ∈ lw_tbl := (or2 (or2 (or2 (or2 (or2 (or2 (or2 (or2 (or2 (or2 (or2 (or2 (or2 wsN_r1 (or2 wsN_r2 (or2 wsN_r3 (or2 wsN_r4 (or2 wsN_r5 (or2 wsN_r6 (or2 wsN_r7 (or2 wsN_r8 (or2 wsN_r9 (or2 wsN_r10 (or2 wsN_r11 (or2 wsN_r12 (or2 wsN_r13 (or2 wsN_r14 (or2 wsN_r15 (or2 wsN_r16 (or2 wsN_r17 (or2 wsN_r18 (or2 wsN_r19 (or2 wsN_r20 (or2 wsN_r21 (or2 wsN_r22 (or2 wsN_r23 (or2 wsN_r24 (or2 wsN_r25 (or2 wsN_r26 (or2 wsN_r27 (or2 wsN_r28 (or2 wsN_r29 (or2 wsN_r30 (or2 wsN_r31 (or2 wsN_r32 (or2 wsN_r33 (or2 wsN_r34 (or2 wsN_r35 (or2 wsN_r36 (or2 wsN_r37 (or2 wsN_r38 (or2 wsN_r39 (or2 wsN_r40 (or2 wsN_r41 (or2 wsN_r42 (or2 wsN_r43 (or2 wsN_r44 (or2 wsN_r45 (or2 wsN_r46 (or2 wsN_r47 (or2 wsN_r48 (or2 wsN_r49 (or2 wsN_r50 (or2 wsN_r51 (or2 wsN_r52 (or2 wsN_r53 (or2 wsN_r54 (or2 wsN_r55 (or2 wsN_r56 (or2 wsN_r57 (or2 wsN_r58 (or2 wsN_r59 (or2 wsN_r60 (or2 wsN_r61 (or2 wsN_r62 (or2 wsN_r63 (or2 wsN_r64 (or2 wsN_r65 (wsN_r66)))))))))))))))))))))))))))))))))))))))))))))))))))))))))))))))))) wsN_wsX110) wsN_wsX120) wsN_wsX90) wsN_wsX100) wsN_wsX70) wsN_wsX50) wsN_wsX60) wsN_wsX30) wsN_wsX20) wsN_wsX80) wsN_wsX40) (fun _ h => absurd h List.not_mem_nil))
theorem wsN_in : ∀ w ∈ wsN_law, w ∈ lw_tbl := or2 (or2 (or2 (or2 wsN_in0 wsL_law_x0) wsL_law_x1) wsL_law_x2) wsN_ns
