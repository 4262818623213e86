/-! PHASE 3: THE WORDS THAT THE LAW NEEDS, among the tables' -/
set_option maxRecDepth 20000 in
theorem wsN_r1 : ∀ w ∈ wsL_law0_r1, w ∈ lw_tbl := fun w h => (goodIn_r (big := lw_tbl) wsL_law0_r1 [131, 132, 104, 1507, 1508, 120, 2125, 133, 134, 135, 136, 137, 138, 139, 140, 105, 158, 159, 106, 185, 186, 107, 195, 196] (by decide +kernel) (by decide +kernel) w h).1
set_option maxRecDepth 20000 in
theorem wsN_r2 : ∀ w ∈ wsL_law0_r2, w ∈ lw_tbl := fun w h => (goodIn_r (big := lw_tbl) wsL_law0_r2 [108, 659, 660, 661, 662, 497, 498, 115, 663, 525, 526, 116, 664, 665, 637, 638, 119, 666, 657, 667, 532, 117, 693, 668] (by decide +kernel) (by decide +kernel) w h).1
set_option maxRecDepth 20000 in
theorem wsN_r3 : ∀ w ∈ wsL_law0_r3, w ∈ lw_tbl := fun w h => (goodIn_r (big := lw_tbl) wsL_law0_r3 [669, 141, 142, 143, 144, 157, 145, 160, 161, 162, 163, 164, 170, 187, 188, 189, 190, 191, 198, 199, 200, 201, 202, 109] (by decide +kernel) (by decide +kernel) w h).1
set_option maxRecDepth 20000 in
theorem wsN_r4 : ∀ w ∈ wsL_law0_r4, w ∈ lw_tbl := fun w h => (goodIn_r (big := lw_tbl) wsL_law0_r4 [238, 225, 241, 245, 248, 252, 255, 259, 226, 263, 266, 270, 273, 203, 204, 205, 206, 207, 209, 211, 320, 321, 322, 323] (by decide +kernel) (by decide +kernel) w h).1
set_option maxRecDepth 20000 in
theorem wsN_r5 : ∀ w ∈ wsL_law0_r5, w ∈ lw_tbl := fun w h => (goodIn_r (big := lw_tbl) wsL_law0_r5 [324, 325, 326, 110, 327, 2145, 328, 329, 330, 331, 332, 2146, 334, 335, 336, 337, 338, 339, 340, 341, 342, 343, 111, 344] (by decide +kernel) (by decide +kernel) w h).1
set_option maxRecDepth 20000 in
theorem wsN_r6 : ∀ w ∈ wsL_law0_r6, w ∈ lw_tbl := fun w h => (goodIn_r (big := lw_tbl) wsL_law0_r6 [345, 346, 347, 348, 350, 351, 112, 352, 353, 354, 113, 355, 356, 357, 358, 359, 360, 361, 362, 363, 364, 365, 366, 368] (by decide +kernel) (by decide +kernel) w h).1
set_option maxRecDepth 20000 in
theorem wsN_r7 : ∀ w ∈ wsL_law0_r7, w ∈ lw_tbl := fun w h => (goodIn_r (big := lw_tbl) wsL_law0_r7 [370, 372, 373, 374, 375, 150, 376, 377, 378, 379, 380, 381, 382, 383, 276, 280, 384, 385, 114, 386, 387, 388, 389, 390] (by decide +kernel) (by decide +kernel) w h).1
set_option maxRecDepth 20000 in
theorem wsN_r8 : ∀ w ∈ wsL_law0_r8, w ∈ lw_tbl := fun w h => (goodIn_r (big := lw_tbl) wsL_law0_r8 [168, 167, 391, 392, 393, 394, 166, 165, 395, 396, 397, 399, 400, 401, 403, 0, 404, 405, 407, 1, 408, 410, 411, 412] (by decide +kernel) (by decide +kernel) w h).1
set_option maxRecDepth 20000 in
theorem wsN_r9 : ∀ w ∈ wsL_law0_r9, w ∈ lw_tbl := fun w h => (goodIn_r (big := lw_tbl) wsL_law0_r9 [413, 414, 415, 416, 417, 418, 419, 420, 421, 422, 423, 424, 425, 426, 427, 428, 429, 430, 431, 432, 434, 435, 437, 2] (by decide +kernel) (by decide +kernel) w h).1
set_option maxRecDepth 20000 in
theorem wsN_r10 : ∀ w ∈ wsL_law0_r10, w ∈ lw_tbl := fun w h => (goodIn_r (big := lw_tbl) wsL_law0_r10 [438, 439, 440, 441, 442, 213, 443, 444, 445, 446, 447, 448, 449, 450, 451, 452, 454, 3, 455, 456, 457, 458, 459, 460] (by decide +kernel) (by decide +kernel) w h).1
set_option maxRecDepth 20000 in
theorem wsN_r11 : ∀ w ∈ wsL_law0_r11, w ∈ lw_tbl := fun w h => (goodIn_r (big := lw_tbl) wsL_law0_r11 [461, 463, 4, 464, 466, 468, 5, 469, 471, 472, 473, 474, 478, 480, 6, 481, 482, 483, 484, 485, 487, 488, 489, 490] (by decide +kernel) (by decide +kernel) w h).1
set_option maxRecDepth 20000 in
theorem wsN_r12 : ∀ w ∈ wsL_law0_r12, w ∈ lw_tbl := fun w h => (goodIn_r (big := lw_tbl) wsL_law0_r12 [491, 492, 493, 494, 495, 496, 499, 500, 501, 502, 503, 506, 508, 510, 505, 527, 528, 529, 530, 531, 620, 622, 624, 625] (by decide +kernel) (by decide +kernel) w h).1
set_option maxRecDepth 20000 in
theorem wsN_r13 : ∀ w ∈ wsL_law0_r13, w ∈ lw_tbl := fun w h => (goodIn_r (big := lw_tbl) wsL_law0_r13 [618, 534, 535, 536, 562, 565, 568, 571, 573, 576, 610, 611, 612, 613, 537, 540, 543, 546, 549, 551, 554, 557, 560, 614] (by decide +kernel) (by decide +kernel) w h).1
set_option maxRecDepth 20000 in
theorem wsN_r14 : ∀ w ∈ wsL_law0_r14, w ∈ lw_tbl := fun w h => (goodIn_r (big := lw_tbl) wsL_law0_r14 [616, 615, 118, 617, 639, 640, 641, 642, 643, 646, 1509, 1510, 1511, 1512, 1600, 1601, 1602, 1603, 1604, 1605, 1606, 1607, 1608, 1609] (by decide +kernel) (by decide +kernel) w h).1
set_option maxRecDepth 20000 in
theorem wsN_r15 : ∀ w ∈ wsL_law0_r15, w ∈ lw_tbl := fun w h => (goodIn_r (big := lw_tbl) wsL_law0_r15 [1610, 1611, 1612, 1613, 1614, 1615, 1616, 1617, 1618, 1514, 1515, 1516, 1518, 35, 1519, 1520, 1522, 36, 1523, 1524, 1525, 1526, 1527, 1528] (by decide +kernel) (by decide +kernel) w h).1
set_option maxRecDepth 20000 in
theorem wsN_r16 : ∀ w ∈ wsL_law0_r16, w ∈ lw_tbl := fun w h => (goodIn_r (big := lw_tbl) wsL_law0_r16 [1529, 1530, 1532, 37, 1533, 1535, 1537, 38, 1538, 1539, 1541, 39, 1542, 1543, 1545, 40, 1546, 1547, 1548, 1549, 1550, 1552, 41, 1553] (by decide +kernel) (by decide +kernel) w h).1
set_option maxRecDepth 20000 in
theorem wsN_r17 : ∀ w ∈ wsL_law0_r17, w ∈ lw_tbl := fun w h => (goodIn_r (big := lw_tbl) wsL_law0_r17 [1555, 1557, 42, 1558, 1559, 1561, 43, 1562, 1563, 1565, 44, 1566, 1567, 1569, 45, 1570, 1571, 1573, 46, 1574, 1576, 1578, 47, 1579] (by decide +kernel) (by decide +kernel) w h).1
set_option maxRecDepth 20000 in
theorem wsN_r18 : ∀ w ∈ wsL_law0_r18, w ∈ lw_tbl := fun w h => (goodIn_r (big := lw_tbl) wsL_law0_r18 [1580, 1582, 48, 1583, 1584, 1586, 49, 1587, 1589, 1591, 50, 1592, 1596, 1598, 51, 1599, 906, 907, 103, 908, 909, 910, 911, 912] (by decide +kernel) (by decide +kernel) w h).1
set_option maxRecDepth 20000 in
theorem wsN_r19 : ∀ w ∈ wsL_law0_r19, w ∈ lw_tbl := fun w h => (goodIn_r (big := lw_tbl) wsL_law0_r19 [913, 914, 124, 982, 983, 984, 985, 1658, 1659, 1660, 1661, 1662, 1664, 52, 1665, 1666, 1668, 53, 1669, 1503, 1504, 1505, 1506, 986] (by decide +kernel) (by decide +kernel) w h).1
set_option maxRecDepth 20000 in
theorem wsN_r20 : ∀ w ∈ wsL_law0_r20, w ∈ lw_tbl := fun w h => (goodIn_r (big := lw_tbl) wsL_law0_r20 [987, 988, 989, 990, 991, 992, 993, 995, 125, 994, 1670, 1671, 1672, 1673, 1011, 1012, 1013, 1014, 1015, 1016, 1017, 1018, 1020, 18] (by decide +kernel) (by decide +kernel) w h).1
set_option maxRecDepth 20000 in
theorem wsN_r21 : ∀ w ∈ wsL_law0_r21, w ∈ lw_tbl := fun w h => (goodIn_r (big := lw_tbl) wsL_law0_r21 [1021, 1023, 1024, 1025, 1026, 1674, 1675, 1676, 1677, 1678, 1680, 54, 1681, 694, 695, 696, 697, 1837, 1838, 1839, 1840, 698, 699, 700] (by decide +kernel) (by decide +kernel) w h).1
set_option maxRecDepth 20000 in
theorem wsN_r22 : ∀ w ∈ wsL_law0_r22, w ∈ lw_tbl := fun w h => (goodIn_r (big := lw_tbl) wsL_law0_r22 [701, 1841, 1842, 1843, 1844, 702, 703, 704, 705, 1845, 1846, 1847, 1848, 1849, 1851, 90, 1852, 706, 707, 708, 709, 1853, 1854, 1855] (by decide +kernel) (by decide +kernel) w h).1
set_option maxRecDepth 20000 in
theorem wsN_r23 : ∀ w ∈ wsL_law0_r23, w ∈ lw_tbl := fun w h => (goodIn_r (big := lw_tbl) wsL_law0_r23 [1856, 710, 711, 712, 713, 1857, 1858, 1859, 1860, 714, 715, 716, 717, 1861, 1862, 1863, 1864, 718, 719, 720, 721, 722, 723, 724] (by decide +kernel) (by decide +kernel) w h).1
set_option maxRecDepth 20000 in
theorem wsN_r24 : ∀ w ∈ wsL_law0_r24, w ∈ lw_tbl := fun w h => (goodIn_r (big := lw_tbl) wsL_law0_r24 [725, 1865, 1866, 1867, 1868, 1757, 1759, 70, 1760, 1725, 1727, 62, 1728, 1027, 1028, 1029, 1030, 1031, 1032, 1033, 897, 898, 899, 900] (by decide +kernel) (by decide +kernel) w h).1
set_option maxRecDepth 20000 in
theorem wsN_r25 : ∀ w ∈ wsL_law0_r25, w ∈ lw_tbl := fun w h => (goodIn_r (big := lw_tbl) wsL_law0_r25 [1869, 1870, 1871, 1872, 1749, 1751, 68, 1752, 727, 728, 729, 730, 731, 732, 733, 1873, 1874, 1875, 1876, 734, 735, 736, 737, 1877] (by decide +kernel) (by decide +kernel) w h).1
set_option maxRecDepth 20000 in
theorem wsN_r26 : ∀ w ∈ wsL_law0_r26, w ∈ lw_tbl := fun w h => (goodIn_r (big := lw_tbl) wsL_law0_r26 [1878, 1879, 1880, 738, 739, 740, 741, 1881, 1882, 1883, 1884, 742, 743, 744, 745, 1885, 1886, 1887, 1888, 1035, 1036, 1037, 1038, 1039] (by decide +kernel) (by decide +kernel) w h).1
set_option maxRecDepth 20000 in
theorem wsN_r27 : ∀ w ∈ wsL_law0_r27, w ∈ lw_tbl := fun w h => (goodIn_r (big := lw_tbl) wsL_law0_r27 [1040, 1041, 1042, 1043, 1045, 19, 1046, 1047, 126, 1889, 1890, 1891, 1892, 1893, 1895, 91, 1896, 1825, 1827, 87, 1828, 1063, 1064, 1065] (by decide +kernel) (by decide +kernel) w h).1
set_option maxRecDepth 20000 in
theorem wsN_r28 : ∀ w ∈ wsL_law0_r28, w ∈ lw_tbl := fun w h => (goodIn_r (big := lw_tbl) wsL_law0_r28 [1066, 1067, 1068, 1069, 1070, 847, 848, 849, 870, 813, 127, 814, 815, 816, 817, 1897, 1898, 1899, 1900, 1817, 1819, 85, 1820, 1821] (by decide +kernel) (by decide +kernel) w h).1
set_option maxRecDepth 20000 in
theorem wsN_r29 : ∀ w ∈ wsL_law0_r29, w ∈ lw_tbl := fun w h => (goodIn_r (big := lw_tbl) wsL_law0_r29 [1823, 86, 1824, 1737, 1739, 65, 1740, 1741, 1743, 66, 1744, 1071, 1072, 1073, 1074, 1075, 1076, 1077, 1078, 1080, 20, 1081, 1901, 1902] (by decide +kernel) (by decide +kernel) w h).1
set_option maxRecDepth 20000 in
theorem wsN_r30 : ∀ w ∈ wsL_law0_r30, w ∈ lw_tbl := fun w h => (goodIn_r (big := lw_tbl) wsL_law0_r30 [1903, 1904, 1905, 1907, 92, 1908, 1909, 1911, 93, 1912, 1083, 1084, 1085, 1086, 1087, 1088, 1089, 1913, 1914, 1915, 1916, 1090, 1091, 1092] (by decide +kernel) (by decide +kernel) w h).1
set_option maxRecDepth 20000 in
theorem wsN_r31 : ∀ w ∈ wsL_law0_r31, w ∈ lw_tbl := fun w h => (goodIn_r (big := lw_tbl) wsL_law0_r31 [1093, 1094, 1095, 1096, 1917, 1918, 1919, 1920, 1097, 1098, 1099, 1100, 1101, 1102, 1103, 1104, 1921, 1922, 1923, 1924, 1105, 1106, 1107, 1108] (by decide +kernel) (by decide +kernel) w h).1
set_option maxRecDepth 20000 in
theorem wsN_r32 : ∀ w ∈ wsL_law0_r32, w ∈ lw_tbl := fun w h => (goodIn_r (big := lw_tbl) wsL_law0_r32 [1109, 1110, 1111, 1925, 1926, 1927, 1928, 1112, 1113, 1114, 1115, 1116, 1117, 1118, 1929, 1930, 1931, 1932, 1119, 1120, 1121, 1122, 1123, 1124] (by decide +kernel) (by decide +kernel) w h).1
set_option maxRecDepth 20000 in
theorem wsN_r33 : ∀ w ∈ wsL_law0_r33, w ∈ lw_tbl := fun w h => (goodIn_r (big := lw_tbl) wsL_law0_r33 [1125, 1933, 1934, 1935, 1936, 1937, 1939, 94, 1940, 1126, 1127, 1128, 1129, 1130, 1131, 1132, 1133, 1134, 1135, 1136, 1941, 1942, 1943, 1944] (by decide +kernel) (by decide +kernel) w h).1
set_option maxRecDepth 20000 in
theorem wsN_r34 : ∀ w ∈ wsL_law0_r34, w ∈ lw_tbl := fun w h => (goodIn_r (big := lw_tbl) wsL_law0_r34 [1138, 1139, 1140, 1141, 1142, 1143, 1144, 1145, 755, 756, 757, 758, 760, 7, 761, 1945, 1946, 1947, 1948, 1789, 1791, 78, 1792, 1146] (by decide +kernel) (by decide +kernel) w h).1
set_option maxRecDepth 20000 in
theorem wsN_r35 : ∀ w ∈ wsL_law0_r35, w ∈ lw_tbl := fun w h => (goodIn_r (big := lw_tbl) wsL_law0_r35 [1147, 1148, 1149, 1150, 1151, 1152, 1949, 1950, 1951, 1952, 1154, 1155, 1156, 1157, 1158, 1159, 1160, 1161, 1163, 128, 1162, 1953, 1954, 1955] (by decide +kernel) (by decide +kernel) w h).1
set_option maxRecDepth 20000 in
theorem wsN_r36 : ∀ w ∈ wsL_law0_r36, w ∈ lw_tbl := fun w h => (goodIn_r (big := lw_tbl) wsL_law0_r36 [1956, 1179, 1180, 1181, 1182, 1183, 1184, 1185, 1957, 1958, 1959, 1960, 1186, 1187, 1188, 1189, 1190, 1191, 1192, 1961, 1962, 1963, 1964, 1193] (by decide +kernel) (by decide +kernel) w h).1
set_option maxRecDepth 20000 in
theorem wsN_r37 : ∀ w ∈ wsL_law0_r37, w ∈ lw_tbl := fun w h => (goodIn_r (big := lw_tbl) wsL_law0_r37 [1194, 1195, 1196, 1197, 1198, 1199, 1965, 1966, 1967, 1968, 1200, 1201, 1202, 1203, 1204, 1205, 1206, 1969, 1970, 1971, 1972, 1207, 1208, 1209] (by decide +kernel) (by decide +kernel) w h).1
set_option maxRecDepth 20000 in
theorem wsN_r38 : ∀ w ∈ wsL_law0_r38, w ∈ lw_tbl := fun w h => (goodIn_r (big := lw_tbl) wsL_law0_r38 [1210, 1211, 1212, 1213, 1214, 827, 828, 829, 1973, 1974, 1975, 1976, 1733, 1735, 64, 1736, 746, 747, 748, 749, 750, 751, 752, 753] (by decide +kernel) (by decide +kernel) w h).1
set_option maxRecDepth 20000 in
theorem wsN_r39 : ∀ w ∈ wsL_law0_r39, w ∈ lw_tbl := fun w h => (goodIn_r (big := lw_tbl) wsL_law0_r39 [754, 762, 764, 8, 765, 766, 767, 768, 769, 1977, 1978, 1979, 1980, 1785, 1787, 77, 1788, 1793, 1795, 79, 1796, 1797, 1799, 80] (by decide +kernel) (by decide +kernel) w h).1
set_option maxRecDepth 20000 in
theorem wsN_r40 : ∀ w ∈ wsL_law0_r40, w ∈ lw_tbl := fun w h => (goodIn_r (big := lw_tbl) wsL_law0_r40 [1800, 1215, 1216, 1217, 1218, 1219, 1220, 1221, 1222, 1223, 1224, 1225, 842, 844, 14, 845, 846, 812, 838, 840, 13, 841, 1981, 1982] (by decide +kernel) (by decide +kernel) w h).1
set_option maxRecDepth 20000 in
theorem wsN_r41 : ∀ w ∈ wsL_law0_r41, w ∈ lw_tbl := fun w h => (goodIn_r (big := lw_tbl) wsL_law0_r41 [1983, 1984, 1985, 1987, 95, 1988, 1813, 1815, 84, 1816, 1805, 1807, 82, 1808, 1809, 1811, 83, 1812, 1226, 1227, 1228, 1229, 1230, 1231] (by decide +kernel) (by decide +kernel) w h).1
set_option maxRecDepth 20000 in
theorem wsN_r42 : ∀ w ∈ wsL_law0_r42, w ∈ lw_tbl := fun w h => (goodIn_r (big := lw_tbl) wsL_law0_r42 [1232, 1233, 1234, 1235, 1236, 1237, 1238, 1240, 21, 1241, 1243, 1244, 1989, 1990, 1991, 1992, 1993, 1995, 96, 1996, 1245, 1246, 1247, 1248] (by decide +kernel) (by decide +kernel) w h).1
set_option maxRecDepth 20000 in
theorem wsN_r43 : ∀ w ∈ wsL_law0_r43, w ∈ lw_tbl := fun w h => (goodIn_r (big := lw_tbl) wsL_law0_r43 [1249, 1250, 1251, 1252, 1253, 1254, 1255, 1997, 1998, 1999, 2000, 770, 771, 772, 773, 774, 775, 776, 777, 778, 2001, 2002, 2003, 2004] (by decide +kernel) (by decide +kernel) w h).1
set_option maxRecDepth 20000 in
theorem wsN_r44 : ∀ w ∈ wsL_law0_r44, w ∈ lw_tbl := fun w h => (goodIn_r (big := lw_tbl) wsL_law0_r44 [1745, 1747, 67, 1748, 1753, 1755, 69, 1756, 779, 780, 781, 782, 783, 784, 785, 786, 2005, 2006, 2007, 2008, 1256, 1257, 1258, 1259] (by decide +kernel) (by decide +kernel) w h).1
set_option maxRecDepth 20000 in
theorem wsN_r45 : ∀ w ∈ wsL_law0_r45, w ∈ lw_tbl := fun w h => (goodIn_r (big := lw_tbl) wsL_law0_r45 [1260, 1261, 1262, 1263, 1264, 1265, 1266, 1267, 1268, 129, 1269, 2009, 2010, 2011, 2012, 2013, 2015, 97, 2016, 2017, 2019, 98, 2020, 788] (by decide +kernel) (by decide +kernel) w h).1
set_option maxRecDepth 20000 in
theorem wsN_r46 : ∀ w ∈ wsL_law0_r46, w ∈ lw_tbl := fun w h => (goodIn_r (big := lw_tbl) wsL_law0_r46 [789, 790, 791, 792, 793, 794, 795, 796, 797, 798, 799, 800, 801, 802, 803, 804, 806, 9, 807, 808, 810, 10, 811, 818] (by decide +kernel) (by decide +kernel) w h).1
set_option maxRecDepth 20000 in
theorem wsN_r47 : ∀ w ∈ wsL_law0_r47, w ∈ lw_tbl := fun w h => (goodIn_r (big := lw_tbl) wsL_law0_r47 [819, 820, 821, 822, 824, 11, 825, 826, 830, 831, 832, 833, 834, 836, 12, 837, 850, 851, 852, 853, 2021, 2022, 2023, 2024] (by decide +kernel) (by decide +kernel) w h).1
set_option maxRecDepth 20000 in
theorem wsN_r48 : ∀ w ∈ wsL_law0_r48, w ∈ lw_tbl := fun w h => (goodIn_r (big := lw_tbl) wsL_law0_r48 [2025, 2027, 99, 2028, 1769, 1771, 73, 1772, 1773, 1775, 74, 1776, 1777, 1779, 75, 1780, 1781, 1783, 76, 1784, 1801, 1803, 81, 1804] (by decide +kernel) (by decide +kernel) w h).1
set_option maxRecDepth 20000 in
theorem wsN_r49 : ∀ w ∈ wsL_law0_r49, w ∈ lw_tbl := fun w h => (goodIn_r (big := lw_tbl) wsL_law0_r49 [1270, 1271, 1272, 1273, 1274, 1275, 1276, 1278, 1279, 1280, 1281, 2029, 2030, 2031, 2032, 1765, 1767, 72, 1768, 1282, 1283, 1284, 1285, 1286] (by decide +kernel) (by decide +kernel) w h).1
set_option maxRecDepth 20000 in
theorem wsN_r50 : ∀ w ∈ wsL_law0_r50, w ∈ lw_tbl := fun w h => (goodIn_r (big := lw_tbl) wsL_law0_r50 [1287, 1288, 1289, 1290, 1291, 1292, 2033, 2034, 2035, 2036, 1293, 1294, 1295, 1296, 1297, 1298, 1299, 1300, 1302, 22, 1303, 1304, 1306, 23] (by decide +kernel) (by decide +kernel) w h).1
set_option maxRecDepth 20000 in
theorem wsN_r51 : ∀ w ∈ wsL_law0_r51, w ∈ lw_tbl := fun w h => (goodIn_r (big := lw_tbl) wsL_law0_r51 [1307, 858, 860, 15, 861, 2037, 2038, 2039, 2040, 2041, 2043, 100, 2044, 854, 855, 856, 857, 2045, 2046, 2047, 2048, 1309, 1310, 1311] (by decide +kernel) (by decide +kernel) w h).1
set_option maxRecDepth 20000 in
theorem wsN_r52 : ∀ w ∈ wsL_law0_r52, w ∈ lw_tbl := fun w h => (goodIn_r (big := lw_tbl) wsL_law0_r52 [1312, 1313, 1314, 1315, 1316, 1318, 24, 1319, 2049, 2050, 2051, 2052, 862, 863, 864, 865, 2053, 2054, 2055, 2056, 866, 867, 868, 869] (by decide +kernel) (by decide +kernel) w h).1
set_option maxRecDepth 20000 in
theorem wsN_r53 : ∀ w ∈ wsL_law0_r53, w ∈ lw_tbl := fun w h => (goodIn_r (big := lw_tbl) wsL_law0_r53 [2057, 2058, 2059, 2060, 871, 872, 873, 874, 2061, 2062, 2063, 2064, 875, 876, 877, 878, 879, 880, 881, 882, 2065, 2066, 2067, 2068] (by decide +kernel) (by decide +kernel) w h).1
set_option maxRecDepth 20000 in
theorem wsN_r54 : ∀ w ∈ wsL_law0_r54, w ∈ lw_tbl := fun w h => (goodIn_r (big := lw_tbl) wsL_law0_r54 [1321, 1322, 1323, 1324, 1325, 1326, 1327, 1328, 1330, 25, 1331, 1332, 1334, 26, 1335, 1337, 1338, 1339, 1340, 647, 648, 1342, 1343, 1344] (by decide +kernel) (by decide +kernel) w h).1
set_option maxRecDepth 20000 in
theorem wsN_r55 : ∀ w ∈ wsL_law0_r55, w ∈ lw_tbl := fun w h => (goodIn_r (big := lw_tbl) wsL_law0_r55 [1341, 2069, 2070, 2071, 2072, 1717, 1719, 60, 1720, 1345, 1346, 1347, 1348, 1349, 1350, 1351, 1352, 1354, 27, 1355, 2073, 2074, 2075, 2076] (by decide +kernel) (by decide +kernel) w h).1
set_option maxRecDepth 20000 in
theorem wsN_r56 : ∀ w ∈ wsL_law0_r56, w ∈ lw_tbl := fun w h => (goodIn_r (big := lw_tbl) wsL_law0_r56 [1358, 1359, 1360, 1361, 1362, 1363, 1364, 1366, 1367, 1368, 1369, 2077, 2078, 2079, 2080, 1829, 1831, 88, 1832, 1370, 1371, 1372, 1373, 1374] (by decide +kernel) (by decide +kernel) w h).1
set_option maxRecDepth 20000 in
theorem wsN_r57 : ∀ w ∈ wsL_law0_r57, w ∈ lw_tbl := fun w h => (goodIn_r (big := lw_tbl) wsL_law0_r57 [1375, 1376, 1377, 1378, 1379, 1380, 1382, 1383, 1384, 1385, 2081, 2082, 2083, 2084, 1729, 1731, 63, 1732, 1833, 1835, 89, 1836, 1386, 1387] (by decide +kernel) (by decide +kernel) w h).1
set_option maxRecDepth 20000 in
theorem wsN_r58 : ∀ w ∈ wsL_law0_r58, w ∈ lw_tbl := fun w h => (goodIn_r (big := lw_tbl) wsL_law0_r58 [1388, 1389, 1390, 1391, 1392, 2085, 2086, 2087, 2088, 1393, 1394, 1395, 1396, 1397, 1398, 1399, 1400, 1402, 28, 1403, 2089, 2090, 2091, 2092] (by decide +kernel) (by decide +kernel) w h).1
set_option maxRecDepth 20000 in
theorem wsN_r59 : ∀ w ∈ wsL_law0_r59, w ∈ lw_tbl := fun w h => (goodIn_r (big := lw_tbl) wsL_law0_r59 [1405, 1406, 1407, 1408, 1409, 1410, 1411, 2093, 2094, 2095, 2096, 1413, 1414, 1415, 1416, 1417, 1418, 1419, 1420, 1421, 1422, 1423, 512, 1424] (by decide +kernel) (by decide +kernel) w h).1
set_option maxRecDepth 20000 in
theorem wsN_r60 : ∀ w ∈ wsL_law0_r60, w ∈ lw_tbl := fun w h => (goodIn_r (big := lw_tbl) wsL_law0_r60 [1425, 1426, 1428, 29, 1429, 1430, 1432, 30, 1433, 1436, 1437, 1438, 1439, 1441, 31, 1442, 1443, 1444, 1445, 1446, 1448, 32, 1449, 1450] (by decide +kernel) (by decide +kernel) w h).1
set_option maxRecDepth 20000 in
theorem wsN_r61 : ∀ w ∈ wsOL_law0_r61, w ∈ lw_tbl := fun w h => (goodIn_r (big := lw_tbl) wsOL_law0_r61 [1452, 1453, 1455, 1456, 104, 1457, 2150, 1458, 1460, 33, 1461, 1682, 1683, 1684, 1685, 1686, 1688, 55, 1689, 1690, 1692, 56, 1693, 1694] (by decide +kernel) (by decide +kernel) w h).1
set_option maxRecDepth 20000 in
theorem wsN_r62 : ∀ w ∈ wsL_law0_r62, w ∈ lw_tbl := fun w h => (goodIn_r (big := lw_tbl) wsL_law0_r62 [1695, 1696, 1705, 1707, 57, 1708, 1709, 1711, 58, 1712, 1713, 1715, 59, 1716, 1721, 1723, 61, 1724, 1761, 1763, 71, 1764, 1462, 1463] (by decide +kernel) (by decide +kernel) w h).1
set_option maxRecDepth 20000 in
theorem wsN_r63 : ∀ w ∈ wsL_law0_r63, w ∈ lw_tbl := fun w h => (goodIn_r (big := lw_tbl) wsL_law0_r63 [1464, 1465, 1466, 1467, 1468, 1470, 1471, 1472, 1473, 2097, 2098, 2099, 2100, 1474, 1475, 1476, 1477, 1478, 1479, 1480, 1481, 1483, 34, 1484] (by decide +kernel) (by decide +kernel) w h).1
set_option maxRecDepth 20000 in
theorem wsN_r64 : ∀ w ∈ wsL_law0_r64, w ∈ lw_tbl := fun w h => (goodIn_r (big := lw_tbl) wsL_law0_r64 [1486, 2101, 2102, 2103, 2104, 1487, 1488, 1489, 1490, 1491, 1492, 1493, 2105, 2106, 2107, 2108, 883, 884, 885, 886, 887, 888, 889, 890] (by decide +kernel) (by decide +kernel) w h).1
set_option maxRecDepth 20000 in
theorem wsN_r65 : ∀ w ∈ wsL_law0_r65, w ∈ lw_tbl := fun w h => (goodIn_r (big := lw_tbl) wsL_law0_r65 [891, 892, 893, 895, 16, 896, 902, 903, 904, 905, 2109, 2110, 2111, 2112, 2113, 2115, 101, 2116, 2117, 2119, 102, 2120, 1495, 1496] (by decide +kernel) (by decide +kernel) w h).1
set_option maxRecDepth 20000 in
theorem wsN_r66 : ∀ w ∈ wsL_law0_r66, w ∈ lw_tbl := fun w h => (goodIn_r (big := lw_tbl) wsL_law0_r66 [1497, 1498, 1499, 1500, 1501, 2121, 2122, 2123, 2124] (by decide +kernel) (by decide +kernel) w h).1
theorem wsN_wsX110 : ∀ w ∈ wsX110, w ∈ lw_tbl := by decide +kernel
theorem wsN_wsX120 : ∀ w ∈ wsX120, w ∈ lw_tbl := by decide +kernel
theorem wsN_wsX90 : ∀ w ∈ wsX90, w ∈ lw_tbl := by decide +kernel
theorem wsN_wsX100 : ∀ w ∈ wsX100, w ∈ lw_tbl := by decide +kernel
theorem wsN_wsX70 : ∀ w ∈ wsX70, w ∈ lw_tbl := by decide +kernel
theorem wsN_wsX50 : ∀ w ∈ wsX50, w ∈ lw_tbl := by decide +kernel
theorem wsN_wsX60 : ∀ w ∈ wsX60, w ∈ lw_tbl := by decide +kernel
theorem wsN_wsX30 : ∀ w ∈ wsX30, w ∈ lw_tbl := by decide +kernel
theorem wsN_wsX20 : ∀ w ∈ wsX20, w ∈ lw_tbl := by decide +kernel
theorem wsN_wsX80 : ∀ w ∈ wsX80, w ∈ lw_tbl := by decide +kernel
theorem wsN_wsX40 : ∀ w ∈ wsX40, w ∈ lw_tbl := by decide +kernel
theorem wsN_ns : ∀ w ∈ (ns_at RX11 254).filter goodWord, w ∈ lw_tbl := by decide +kernel
def wsN_law0 : List Cond := (wsL_law0_r1 ++ (wsL_law0_r2 ++ (wsL_law0_r3 ++ (wsL_law0_r4 ++ (wsL_law0_r5 ++ (wsL_law0_r6 ++ (wsL_law0_r7 ++ (wsL_law0_r8 ++ (wsL_law0_r9 ++ (wsL_law0_r10 ++ (wsL_law0_r11 ++ (wsL_law0_r12 ++ (wsL_law0_r13 ++ (wsL_law0_r14 ++ (wsL_law0_r15 ++ (wsL_law0_r16 ++ (wsL_law0_r17 ++ (wsL_law0_r18 ++ (wsL_law0_r19 ++ (wsL_law0_r20 ++ (wsL_law0_r21 ++ (wsL_law0_r22 ++ (wsL_law0_r23 ++ (wsL_law0_r24 ++ (wsL_law0_r25 ++ (wsL_law0_r26 ++ (wsL_law0_r27 ++ (wsL_law0_r28 ++ (wsL_law0_r29 ++ (wsL_law0_r30 ++ (wsL_law0_r31 ++ (wsL_law0_r32 ++ (wsL_law0_r33 ++ (wsL_law0_r34 ++ (wsL_law0_r35 ++ (wsL_law0_r36 ++ (wsL_law0_r37 ++ (wsL_law0_r38 ++ (wsL_law0_r39 ++ (wsL_law0_r40 ++ (wsL_law0_r41 ++ (wsL_law0_r42 ++ (wsL_law0_r43 ++ (wsL_law0_r44 ++ (wsL_law0_r45 ++ (wsL_law0_r46 ++ (wsL_law0_r47 ++ (wsL_law0_r48 ++ (wsL_law0_r49 ++ (wsL_law0_r50 ++ (wsL_law0_r51 ++ (wsL_law0_r52 ++ (wsL_law0_r53 ++ (wsL_law0_r54 ++ (wsL_law0_r55 ++ (wsL_law0_r56 ++ (wsL_law0_r57 ++ (wsL_law0_r58 ++ (wsL_law0_r59 ++ (wsL_law0_r60 ++ (wsOL_law0_r61 ++ (wsL_law0_r62 ++ (wsL_law0_r63 ++ (wsL_law0_r64 ++ (wsL_law0_r65 ++ wsL_law0_r66))))))))))))))))))))))))))))))))))))))))))))))))))))))))))))))))) ++ wsX110 ++ wsX120 ++ wsX90 ++ wsX100 ++ wsX70 ++ wsX50 ++ wsX60 ++ wsX30 ++ wsX20 ++ wsX80 ++ wsX40 ++ ([] : List Cond)
def wsN_law : List Cond := wsN_law0 ++ (vx_atS RX11 100 "java/lang/IllegalStateException" ["java/lang/RuntimeException", "java/lang/Exception"]).filter goodWord ++ (vx_atS RX11 113 "java/lang/IllegalArgumentException" ["java/lang/RuntimeException", "java/lang/Exception"]).filter goodWord ++ (vx_atS RX11 241 "java/lang/IndexOutOfBoundsException" ["java/lang/RuntimeException", "java/lang/Exception"]).filter goodWord ++ (ns_at RX11 254).filter goodWord
theorem or2 {A B : List Cond} {S : List Cond} (ha : ∀ w ∈ A, w ∈ S) (hb : ∀ w ∈ B, w ∈ S) : ∀ w ∈ A ++ B, w ∈ S := fun w h => (List.mem_append.mp h).elim (ha w) (hb w)
theorem wsN_in0 : ∀ w ∈ wsN_law0, w ∈ lw_tbl := (or2 (or2 (or2 (or2 (or2 (or2 (or2 (or2 (or2 (or2 (or2 (or2 (or2 wsN_r1 (or2 wsN_r2 (or2 wsN_r3 (or2 wsN_r4 (or2 wsN_r5 (or2 wsN_r6 (or2 wsN_r7 (or2 wsN_r8 (or2 wsN_r9 (or2 wsN_r10 (or2 wsN_r11 (or2 wsN_r12 (or2 wsN_r13 (or2 wsN_r14 (or2 wsN_r15 (or2 wsN_r16 (or2 wsN_r17 (or2 wsN_r18 (or2 wsN_r19 (or2 wsN_r20 (or2 wsN_r21 (or2 wsN_r22 (or2 wsN_r23 (or2 wsN_r24 (or2 wsN_r25 (or2 wsN_r26 (or2 wsN_r27 (or2 wsN_r28 (or2 wsN_r29 (or2 wsN_r30 (or2 wsN_r31 (or2 wsN_r32 (or2 wsN_r33 (or2 wsN_r34 (or2 wsN_r35 (or2 wsN_r36 (or2 wsN_r37 (or2 wsN_r38 (or2 wsN_r39 (or2 wsN_r40 (or2 wsN_r41 (or2 wsN_r42 (or2 wsN_r43 (or2 wsN_r44 (or2 wsN_r45 (or2 wsN_r46 (or2 wsN_r47 (or2 wsN_r48 (or2 wsN_r49 (or2 wsN_r50 (or2 wsN_r51 (or2 wsN_r52 (or2 wsN_r53 (or2 wsN_r54 (or2 wsN_r55 (or2 wsN_r56 (or2 wsN_r57 (or2 wsN_r58 (or2 wsN_r59 (or2 wsN_r60 (or2 wsN_r61 (or2 wsN_r62 (or2 wsN_r63 (or2 wsN_r64 (or2 wsN_r65 (wsN_r66)))))))))))))))))))))))))))))))))))))))))))))))))))))))))))))))))) wsN_wsX110) wsN_wsX120) wsN_wsX90) wsN_wsX100) wsN_wsX70) wsN_wsX50) wsN_wsX60) wsN_wsX30) wsN_wsX20) wsN_wsX80) wsN_wsX40) (fun _ h => absurd h List.not_mem_nil))
theorem wsN_in : ∀ w ∈ wsN_law, w ∈ lw_tbl := or2 (or2 (or2 (or2 wsN_in0 wsL_law_x0) wsL_law_x1) wsL_law_x2) wsN_ns
