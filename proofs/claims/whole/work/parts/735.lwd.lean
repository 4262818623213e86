/-! PHASE 3: THE WORDS THAT THE LAW NEEDS, among the tables' -/
set_option maxRecDepth 20000 in
theorem wsN_r1 : ∀ w ∈ wsL_law0_r1, w ∈ lw_tbl := fun w h => (goodIn_p wsL_law0_r1 [135, 138] rfl (by decide +kernel) w h).1
set_option maxRecDepth 20000 in
theorem wsN_r2 : ∀ w ∈ wsL_law0_r2, w ∈ lw_tbl := fun w h => (goodIn_p wsL_law0_r2 [] rfl (by decide +kernel) w h).1
set_option maxRecDepth 20000 in
theorem wsN_r3 : ∀ w ∈ wsL_law0_r3, w ∈ lw_tbl := fun w h => (goodIn_p wsL_law0_r3 [143, 162, 189, 199] rfl (by decide +kernel) w h).1
set_option maxRecDepth 20000 in
theorem wsN_r4 : ∀ w ∈ wsL_law0_r4, w ∈ lw_tbl := fun w h => (goodIn_p wsL_law0_r4 [205, 323] rfl (by decide +kernel) w h).1
set_option maxRecDepth 20000 in
theorem wsN_r5 : ∀ w ∈ wsL_law0_r5, w ∈ lw_tbl := fun w h => (goodIn_p wsL_law0_r5 [327, 331, 337, 341, 344] rfl (by decide +kernel) w h).1
set_option maxRecDepth 20000 in
theorem wsN_r6 : ∀ w ∈ wsL_law0_r6, w ∈ lw_tbl := fun w h => (goodIn_p wsL_law0_r6 [347, 352, 355, 358, 361, 365] rfl (by decide +kernel) w h).1
set_option maxRecDepth 20000 in
theorem wsN_r7 : ∀ w ∈ wsL_law0_r7, w ∈ lw_tbl := fun w h => (goodIn_p wsL_law0_r7 [375, 379, 383, 386, 390] rfl (by decide +kernel) w h).1
set_option maxRecDepth 20000 in
theorem wsN_r8 : ∀ w ∈ wsL_law0_r8, w ∈ lw_tbl := fun w h => (goodIn_p wsL_law0_r8 [394, 397, 400, 404, 408] rfl (by decide +kernel) w h).1
set_option maxRecDepth 20000 in
theorem wsN_r9 : ∀ w ∈ wsL_law0_r9, w ∈ lw_tbl := fun w h => (goodIn_p wsL_law0_r9 [413, 417, 423, 427, 432] rfl (by decide +kernel) w h).1
set_option maxRecDepth 20000 in
theorem wsN_r10 : ∀ w ∈ wsL_law0_r10, w ∈ lw_tbl := fun w h => (goodIn_p wsL_law0_r10 [438, 442, 447, 451, 455, 459] rfl (by decide +kernel) w h).1
set_option maxRecDepth 20000 in
theorem wsN_r11 : ∀ w ∈ wsL_law0_r11, w ∈ lw_tbl := fun w h => (goodIn_p wsL_law0_r11 [464, 469, 474, 481, 485, 488] rfl (by decide +kernel) w h).1
set_option maxRecDepth 20000 in
theorem wsN_r12 : ∀ w ∈ wsL_law0_r12, w ∈ lw_tbl := fun w h => (goodIn_p wsL_law0_r12 [492, 496, 501, 529] rfl (by decide +kernel) w h).1
set_option maxRecDepth 20000 in
theorem wsN_r13 : ∀ w ∈ wsL_law0_r13, w ∈ lw_tbl := fun w h => (goodIn_p wsL_law0_r13 [535, 613] rfl (by decide +kernel) w h).1
set_option maxRecDepth 20000 in
theorem wsN_r14 : ∀ w ∈ wsL_law0_r14, w ∈ lw_tbl := fun w h => (goodIn_p wsL_law0_r14 [641, 1511] rfl (by decide +kernel) w h).1
set_option maxRecDepth 20000 in
theorem wsN_r15 : ∀ w ∈ wsL_law0_r15, w ∈ lw_tbl := fun w h => (goodIn_p wsL_law0_r15 [1519, 1523, 1526] rfl (by decide +kernel) w h).1
set_option maxRecDepth 20000 in
theorem wsN_r16 : ∀ w ∈ wsL_law0_r16, w ∈ lw_tbl := fun w h => (goodIn_p wsL_law0_r16 [1529, 1533, 1538, 1542, 1546, 1549, 1553] rfl (by decide +kernel) w h).1
set_option maxRecDepth 20000 in
theorem wsN_r17 : ∀ w ∈ wsL_law0_r17, w ∈ lw_tbl := fun w h => (goodIn_p wsL_law0_r17 [1558, 1562, 1566, 1570, 1574, 1579] rfl (by decide +kernel) w h).1
set_option maxRecDepth 20000 in
theorem wsN_r18 : ∀ w ∈ wsL_law0_r18, w ∈ lw_tbl := fun w h => (goodIn_p wsL_law0_r18 [1583, 1587, 1592, 1599] rfl (by decide +kernel) w h).1
set_option maxRecDepth 20000 in
theorem wsN_r19 : ∀ w ∈ wsL_law0_r19, w ∈ lw_tbl := fun w h => (goodIn_p wsL_law0_r19 [913, 985, 1661, 1665, 1669, 1506] rfl (by decide +kernel) w h).1
set_option maxRecDepth 20000 in
theorem wsN_r20 : ∀ w ∈ wsL_law0_r20, w ∈ lw_tbl := fun w h => (goodIn_p wsL_law0_r20 [993, 1673, 1017] rfl (by decide +kernel) w h).1
set_option maxRecDepth 20000 in
theorem wsN_r21 : ∀ w ∈ wsL_law0_r21, w ∈ lw_tbl := fun w h => (goodIn_p wsL_law0_r21 [1021, 1026, 1677, 1681, 697, 1840] rfl (by decide +kernel) w h).1
set_option maxRecDepth 20000 in
theorem wsN_r22 : ∀ w ∈ wsL_law0_r22, w ∈ lw_tbl := fun w h => (goodIn_p wsL_law0_r22 [701, 1844, 705, 1848, 1852, 709] rfl (by decide +kernel) w h).1
set_option maxRecDepth 20000 in
theorem wsN_r23 : ∀ w ∈ wsL_law0_r23, w ∈ lw_tbl := fun w h => (goodIn_p wsL_law0_r23 [1856, 713, 1860, 717, 1864, 721] rfl (by decide +kernel) w h).1
set_option maxRecDepth 20000 in
theorem wsN_r24 : ∀ w ∈ wsL_law0_r24, w ∈ lw_tbl := fun w h => (goodIn_p wsL_law0_r24 [725, 1868, 1760, 1728, 1033, 900] rfl (by decide +kernel) w h).1
set_option maxRecDepth 20000 in
theorem wsN_r25 : ∀ w ∈ wsL_law0_r25, w ∈ lw_tbl := fun w h => (goodIn_p wsL_law0_r25 [1872, 1752, 730, 733, 1876, 737] rfl (by decide +kernel) w h).1
set_option maxRecDepth 20000 in
theorem wsN_r26 : ∀ w ∈ wsL_law0_r26, w ∈ lw_tbl := fun w h => (goodIn_p wsL_law0_r26 [1880, 741, 1884, 745, 1888] rfl (by decide +kernel) w h).1
set_option maxRecDepth 20000 in
theorem wsN_r27 : ∀ w ∈ wsL_law0_r27, w ∈ lw_tbl := fun w h => (goodIn_p wsL_law0_r27 [1042, 1046, 1892, 1896, 1828] rfl (by decide +kernel) w h).1
set_option maxRecDepth 20000 in
theorem wsN_r28 : ∀ w ∈ wsL_law0_r28, w ∈ lw_tbl := fun w h => (goodIn_p wsL_law0_r28 [1069, 849, 814, 1900, 1820] rfl (by decide +kernel) w h).1
set_option maxRecDepth 20000 in
theorem wsN_r29 : ∀ w ∈ wsL_law0_r29, w ∈ lw_tbl := fun w h => (goodIn_p wsL_law0_r29 [1824, 1740, 1744, 1077, 1081] rfl (by decide +kernel) w h).1
set_option maxRecDepth 20000 in
theorem wsN_r30 : ∀ w ∈ wsL_law0_r30, w ∈ lw_tbl := fun w h => (goodIn_p wsL_law0_r30 [1904, 1908, 1912, 1089, 1916] rfl (by decide +kernel) w h).1
set_option maxRecDepth 20000 in
theorem wsN_r31 : ∀ w ∈ wsL_law0_r31, w ∈ lw_tbl := fun w h => (goodIn_p wsL_law0_r31 [1096, 1920, 1103, 1924] rfl (by decide +kernel) w h).1
set_option maxRecDepth 20000 in
theorem wsN_r32 : ∀ w ∈ wsL_law0_r32, w ∈ lw_tbl := fun w h => (goodIn_p wsL_law0_r32 [1111, 1928, 1118, 1932] rfl (by decide +kernel) w h).1
set_option maxRecDepth 20000 in
theorem wsN_r33 : ∀ w ∈ wsL_law0_r33, w ∈ lw_tbl := fun w h => (goodIn_p wsL_law0_r33 [1125, 1936, 1940, 1132, 1136, 1944] rfl (by decide +kernel) w h).1
set_option maxRecDepth 20000 in
theorem wsN_r34 : ∀ w ∈ wsL_law0_r34, w ∈ lw_tbl := fun w h => (goodIn_p wsL_law0_r34 [1144, 757, 761, 1948, 1792] rfl (by decide +kernel) w h).1
set_option maxRecDepth 20000 in
theorem wsN_r35 : ∀ w ∈ wsL_law0_r35, w ∈ lw_tbl := fun w h => (goodIn_p wsL_law0_r35 [1152, 1952, 1161] rfl (by decide +kernel) w h).1
set_option maxRecDepth 20000 in
theorem wsN_r36 : ∀ w ∈ wsL_law0_r36, w ∈ lw_tbl := fun w h => (goodIn_p wsL_law0_r36 [1956, 1185, 1960, 1192, 1964] rfl (by decide +kernel) w h).1
set_option maxRecDepth 20000 in
theorem wsN_r37 : ∀ w ∈ wsL_law0_r37, w ∈ lw_tbl := fun w h => (goodIn_p wsL_law0_r37 [1199, 1968, 1206, 1972] rfl (by decide +kernel) w h).1
set_option maxRecDepth 20000 in
theorem wsN_r38 : ∀ w ∈ wsL_law0_r38, w ∈ lw_tbl := fun w h => (goodIn_p wsL_law0_r38 [1213, 829, 1976, 1736, 749, 753] rfl (by decide +kernel) w h).1
set_option maxRecDepth 20000 in
theorem wsN_r39 : ∀ w ∈ wsL_law0_r39, w ∈ lw_tbl := fun w h => (goodIn_p wsL_law0_r39 [765, 769, 1980, 1788, 1796] rfl (by decide +kernel) w h).1
set_option maxRecDepth 20000 in
theorem wsN_r40 : ∀ w ∈ wsL_law0_r40, w ∈ lw_tbl := fun w h => (goodIn_p wsL_law0_r40 [1800, 1221, 1225, 845, 841] rfl (by decide +kernel) w h).1
set_option maxRecDepth 20000 in
theorem wsN_r41 : ∀ w ∈ wsL_law0_r41, w ∈ lw_tbl := fun w h => (goodIn_p wsL_law0_r41 [1984, 1988, 1816, 1808, 1812] rfl (by decide +kernel) w h).1
set_option maxRecDepth 20000 in
theorem wsN_r42 : ∀ w ∈ wsL_law0_r42, w ∈ lw_tbl := fun w h => (goodIn_p wsL_law0_r42 [1232, 1236, 1241, 1244, 1992, 1996] rfl (by decide +kernel) w h).1
set_option maxRecDepth 20000 in
theorem wsN_r43 : ∀ w ∈ wsL_law0_r43, w ∈ lw_tbl := fun w h => (goodIn_p wsL_law0_r43 [1251, 1255, 2000, 773, 777, 2004] rfl (by decide +kernel) w h).1
set_option maxRecDepth 20000 in
theorem wsN_r44 : ∀ w ∈ wsL_law0_r44, w ∈ lw_tbl := fun w h => (goodIn_p wsL_law0_r44 [1748, 1756, 782, 786, 2008] rfl (by decide +kernel) w h).1
set_option maxRecDepth 20000 in
theorem wsN_r45 : ∀ w ∈ wsL_law0_r45, w ∈ lw_tbl := fun w h => (goodIn_p wsL_law0_r45 [1262, 1266, 1269, 2012, 2016, 2020] rfl (by decide +kernel) w h).1
set_option maxRecDepth 20000 in
theorem wsN_r46 : ∀ w ∈ wsL_law0_r46, w ∈ lw_tbl := fun w h => (goodIn_p wsL_law0_r46 [791, 795, 799, 803, 807, 811] rfl (by decide +kernel) w h).1
set_option maxRecDepth 20000 in
theorem wsN_r47 : ∀ w ∈ wsL_law0_r47, w ∈ lw_tbl := fun w h => (goodIn_p wsL_law0_r47 [821, 825, 833, 837, 853, 2024] rfl (by decide +kernel) w h).1
set_option maxRecDepth 20000 in
theorem wsN_r48 : ∀ w ∈ wsL_law0_r48, w ∈ lw_tbl := fun w h => (goodIn_p wsL_law0_r48 [2028, 1772, 1776, 1780, 1784, 1804] rfl (by decide +kernel) w h).1
set_option maxRecDepth 20000 in
theorem wsN_r49 : ∀ w ∈ wsL_law0_r49, w ∈ lw_tbl := fun w h => (goodIn_p wsL_law0_r49 [1276, 1281, 2032, 1768] rfl (by decide +kernel) w h).1
set_option maxRecDepth 20000 in
theorem wsN_r50 : ∀ w ∈ wsL_law0_r50, w ∈ lw_tbl := fun w h => (goodIn_p wsL_law0_r50 [1288, 1292, 2036, 1299, 1303] rfl (by decide +kernel) w h).1
set_option maxRecDepth 20000 in
theorem wsN_r51 : ∀ w ∈ wsL_law0_r51, w ∈ lw_tbl := fun w h => (goodIn_p wsL_law0_r51 [1307, 861, 2040, 2044, 857, 2048] rfl (by decide +kernel) w h).1
set_option maxRecDepth 20000 in
theorem wsN_r52 : ∀ w ∈ wsL_law0_r52, w ∈ lw_tbl := fun w h => (goodIn_p wsL_law0_r52 [1315, 1319, 2052, 865, 2056, 869] rfl (by decide +kernel) w h).1
set_option maxRecDepth 20000 in
theorem wsN_r53 : ∀ w ∈ wsL_law0_r53, w ∈ lw_tbl := fun w h => (goodIn_p wsL_law0_r53 [2060, 874, 2064, 878, 882, 2068] rfl (by decide +kernel) w h).1
set_option maxRecDepth 20000 in
theorem wsN_r54 : ∀ w ∈ wsL_law0_r54, w ∈ lw_tbl := fun w h => (goodIn_p wsL_law0_r54 [1327, 1331, 1335, 1340, 1344] rfl (by decide +kernel) w h).1
set_option maxRecDepth 20000 in
theorem wsN_r55 : ∀ w ∈ wsL_law0_r55, w ∈ lw_tbl := fun w h => (goodIn_p wsL_law0_r55 [2072, 1720, 1351, 1355, 2076] rfl (by decide +kernel) w h).1
set_option maxRecDepth 20000 in
theorem wsN_r56 : ∀ w ∈ wsL_law0_r56, w ∈ lw_tbl := fun w h => (goodIn_p wsL_law0_r56 [1364, 1369, 2080, 1832] rfl (by decide +kernel) w h).1
set_option maxRecDepth 20000 in
theorem wsN_r57 : ∀ w ∈ wsL_law0_r57, w ∈ lw_tbl := fun w h => (goodIn_p wsL_law0_r57 [1376, 1380, 1385, 2084, 1732, 1836] rfl (by decide +kernel) w h).1
set_option maxRecDepth 20000 in
theorem wsN_r58 : ∀ w ∈ wsL_law0_r58, w ∈ lw_tbl := fun w h => (goodIn_p wsL_law0_r58 [1392, 2088, 1399, 1403, 2092] rfl (by decide +kernel) w h).1
set_option maxRecDepth 20000 in
theorem wsN_r59 : ∀ w ∈ wsL_law0_r59, w ∈ lw_tbl := fun w h => (goodIn_p wsL_law0_r59 [1411, 2096, 1419, 1423] rfl (by decide +kernel) w h).1
set_option maxRecDepth 20000 in
theorem wsN_r60 : ∀ w ∈ wsL_law0_r60, w ∈ lw_tbl := fun w h => (goodIn_p wsL_law0_r60 [1429, 1433, 1442, 1449] rfl (by decide +kernel) w h).1
set_option maxRecDepth 20000 in
theorem wsN_r61 : ∀ w ∈ wsL_law0_r61, w ∈ lw_tbl := fun w h => (goodIn_p wsL_law0_r61 [1457, 1461, 1685, 1689, 1693] rfl (by decide +kernel) w h).1
set_option maxRecDepth 20000 in
theorem wsN_r62 : ∀ w ∈ wsL_law0_r62, w ∈ lw_tbl := fun w h => (goodIn_p wsL_law0_r62 [1696, 1708, 1712, 1716, 1724, 1764] rfl (by decide +kernel) w h).1
set_option maxRecDepth 20000 in
theorem wsN_r63 : ∀ w ∈ wsL_law0_r63, w ∈ lw_tbl := fun w h => (goodIn_p wsL_law0_r63 [1468, 1473, 2100, 1480, 1484] rfl (by decide +kernel) w h).1
set_option maxRecDepth 20000 in
theorem wsN_r64 : ∀ w ∈ wsL_law0_r64, w ∈ lw_tbl := fun w h => (goodIn_p wsL_law0_r64 [2104, 1493, 2108, 886] rfl (by decide +kernel) w h).1
set_option maxRecDepth 20000 in
theorem wsN_r65 : ∀ w ∈ wsL_law0_r65, w ∈ lw_tbl := fun w h => (goodIn_p wsL_law0_r65 [891, 896, 905, 2112, 2116, 2120] rfl (by decide +kernel) w h).1
set_option maxRecDepth 20000 in
theorem wsN_r66 : ∀ w ∈ wsL_law0_r66, w ∈ lw_tbl := fun w h => (goodIn_p wsL_law0_r66 [1501, 2124] rfl (by decide +kernel) w h).1
theorem wsN_wsX110 : ∀ w ∈ wsX110, w ∈ lw_tbl := by decide +kernel
theorem wsN_wsX120 : ∀ w ∈ wsX120, w ∈ lw_tbl := by decide +kernel
theorem wsN_wsX90 : ∀ w ∈ wsX90, w ∈ lw_tbl := by decide +kernel
theorem wsN_wsX100 : ∀ w ∈ wsX100, w ∈ lw_tbl := by decide +kernel
theorem wsN_wsX70 : ∀ w ∈ wsX70, w ∈ lw_tbl := by decide +kernel
theorem wsN_wsX50 : ∀ w ∈ wsX50, w ∈ lw_tbl := by decide +kernel
theorem wsN_wsX60 : ∀ w ∈ wsX60, w ∈ lw_tbl := by decide +kernel
theorem wsN_wsX30 : ∀ w ∈ wsX30, w ∈ lw_tbl := by decide +kernel
theorem wsN_wsX20 : ∀ w ∈ wsX20, w ∈ lw_tbl := by decide +kernel
theorem wsN_wsX80 : ∀ w ∈ wsX80, w ∈ lw_tbl := by decide +kernel
theorem wsN_wsX40 : ∀ w ∈ wsX40, w ∈ lw_tbl := by decide +kernel
theorem wsN_ns : ∀ w ∈ (ns_at RX11 254).filter goodWord, w ∈ lw_tbl := by decide +kernel
def wsN_law : List Cond := wsL_law0 ++ (vx_atS RX11 100 "java/lang/IllegalStateException" ["java/lang/RuntimeException", "java/lang/Exception"]).filter goodWord ++ (vx_atS RX11 113 "java/lang/IllegalArgumentException" ["java/lang/RuntimeException", "java/lang/Exception"]).filter goodWord ++ (vx_atS RX11 241 "java/lang/IndexOutOfBoundsException" ["java/lang/RuntimeException", "java/lang/Exception"]).filter goodWord ++ (ns_at RX11 254).filter goodWord
theorem or2 {A B : List Cond} {S : List Cond} (ha : ∀ w ∈ A, w ∈ S) (hb : ∀ w ∈ B, w ∈ S) : ∀ w ∈ A ++ B, w ∈ S := fun w h => (List.mem_append.mp h).elim (ha w) (hb w)
theorem wsN_in0 : ∀ w ∈ wsL_law0, w ∈ lw_tbl := (or2 (or2 (or2 (or2 (or2 (or2 (or2 (or2 (or2 (or2 (or2 (or2 (or2 wsN_r1 (or2 wsN_r2 (or2 wsN_r3 (or2 wsN_r4 (or2 wsN_r5 (or2 wsN_r6 (or2 wsN_r7 (or2 wsN_r8 (or2 wsN_r9 (or2 wsN_r10 (or2 wsN_r11 (or2 wsN_r12 (or2 wsN_r13 (or2 wsN_r14 (or2 wsN_r15 (or2 wsN_r16 (or2 wsN_r17 (or2 wsN_r18 (or2 wsN_r19 (or2 wsN_r20 (or2 wsN_r21 (or2 wsN_r22 (or2 wsN_r23 (or2 wsN_r24 (or2 wsN_r25 (or2 wsN_r26 (or2 wsN_r27 (or2 wsN_r28 (or2 wsN_r29 (or2 wsN_r30 (or2 wsN_r31 (or2 wsN_r32 (or2 wsN_r33 (or2 wsN_r34 (or2 wsN_r35 (or2 wsN_r36 (or2 wsN_r37 (or2 wsN_r38 (or2 wsN_r39 (or2 wsN_r40 (or2 wsN_r41 (or2 wsN_r42 (or2 wsN_r43 (or2 wsN_r44 (or2 wsN_r45 (or2 wsN_r46 (or2 wsN_r47 (or2 wsN_r48 (or2 wsN_r49 (or2 wsN_r50 (or2 wsN_r51 (or2 wsN_r52 (or2 wsN_r53 (or2 wsN_r54 (or2 wsN_r55 (or2 wsN_r56 (or2 wsN_r57 (or2 wsN_r58 (or2 wsN_r59 (or2 wsN_r60 (or2 wsN_r61 (or2 wsN_r62 (or2 wsN_r63 (or2 wsN_r64 (or2 wsN_r65 (wsN_r66)))))))))))))))))))))))))))))))))))))))))))))))))))))))))))))))))) wsN_wsX110) wsN_wsX120) wsN_wsX90) wsN_wsX100) wsN_wsX70) wsN_wsX50) wsN_wsX60) wsN_wsX30) wsN_wsX20) wsN_wsX80) wsN_wsX40) (fun _ h => absurd h List.not_mem_nil))
theorem wsN_in : ∀ w ∈ wsN_law, w ∈ lw_tbl := or2 (or2 (or2 (or2 wsN_in0 wsL_law_x0) wsL_law_x1) wsL_law_x2) wsN_ns
