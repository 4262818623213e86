set_option maxRecDepth 20000 in
theorem ggL_law_X11_init : GoodIn wsN_law wsX11_init := goodIn_r _ [9, 10, 11, 12, 13, 14, 15, 16, 17, 18, 19, 20, 21, 22, 23, 24, 25, 26, 27, 28, 29, 30, 31, 32, 33, 34, 35, 36, 37, 38, 39, 40, 41, 42, 43, 44, 45, 46, 47, 48, 49, 50, 51, 52, 53, 54, 55, 56, 57, 58, 59, 60, 61, 62, 63, 64, 65, 66, 67, 68, 69, 70, 71, 72, 73, 74, 75, 76, 77, 78, 79, 80, 81, 82, 83, 84, 85, 86, 87, 88, 89, 90, 91, 92, 93, 94, 95, 96, 97, 98, 99, 100, 101, 102, 103, 104, 105, 106, 107, 108, 109, 110, 111, 112, 113, 114, 115, 116, 117, 118, 119, 120, 121, 122, 123, 124, 125, 126, 127, 128, 129, 130, 131, 132, 133, 134, 135, 136, 137, 138, 139, 140, 141, 142, 143, 144, 145, 146, 147, 148, 149, 150, 151, 152, 153, 154, 155, 156, 157, 158, 159, 160, 161, 162, 163, 164, 165, 166, 167, 168, 169, 170, 171, 172, 173, 174, 175, 176, 177, 178, 179, 2, 180, 181, 182, 183, 184, 185, 186, 187, 188, 189, 190, 191, 192, 193, 194, 195, 196, 197, 198, 199, 200, 201, 202, 203, 204, 205, 206, 207, 208, 209, 210, 211, 212, 213, 214, 215, 216, 217, 218, 219, 220, 221, 222, 223, 224, 225, 226, 227, 228, 229, 230, 231, 232, 233, 234, 235, 236, 237, 238, 239, 240, 241, 242, 243, 244, 245, 246, 247, 248, 249, 250, 251, 252, 253, 254, 255, 256, 257, 258, 259, 260, 261, 262, 263, 264, 265, 266, 267, 268, 269, 270, 271, 272, 273, 274, 275, 276, 277, 278, 279, 280, 281, 282, 283, 284, 285, 286, 287, 288, 289, 290, 291, 292, 293, 294, 295, 296, 297, 298, 299, 300, 301, 302, 303, 304, 305, 306, 307, 308, 309, 310, 311, 312, 313, 314, 315, 316, 317, 318, 319, 320, 321, 1599, 1600, 1601, 1602, 1603, 1604, 1605, 1606, 1607, 1608, 1609, 1610, 1611, 1612, 1613, 1614, 1615, 1616, 1617, 1618, 1619, 1620, 1621, 1622, 1623, 1624, 1569, 1570, 1571, 1572, 1573, 1574, 1575, 1576, 1577, 1578, 1579, 1625, 1626, 1627, 1628, 1629, 1630, 1631, 1632, 1633, 1634, 1635, 1636, 1637, 1638, 1639, 1640, 1641, 1642, 1643, 1644, 1645, 1646, 1647, 1648, 1649, 1650, 1651, 1652, 1653, 1654, 1655] rfl (by decide +kernel)
set_option maxRecDepth 20000 in
theorem gL_law_X11_init : GoodIn wsN_law (wsX11_init) := ggL_law_X11_init
set_option maxRecDepth 20000 in
theorem ggL_law_X12_init : GoodIn wsN_law wsX12_init := goodIn_r _ [324, 325, 11, 12, 73, 326, 46, 327, 328, 329, 330, 331, 332, 333, 334, 335, 336, 337, 338, 339, 340, 341, 342, 343, 344, 345, 97, 98, 99, 100, 101, 102, 103, 104, 105, 106, 107, 346, 109, 110, 111, 112, 113, 114, 115, 116, 117, 118, 119, 120, 121, 122, 123, 124, 125, 126, 127, 128, 129, 130, 131, 132, 133, 134, 135, 136, 137, 138, 139, 140, 141, 142, 143, 144, 347, 348, 349, 5, 350, 351, 352, 353, 354, 355, 356, 357, 358, 359, 360, 361, 362, 363, 364, 365, 366, 367, 368, 369, 370, 371, 372, 373, 374, 375, 376, 377, 378, 379, 380, 381, 382, 383, 384, 385, 386, 387, 388, 389, 390, 391, 392, 393, 394, 395, 396, 397, 398, 399, 400, 401, 402, 403, 404, 405, 406, 407, 408, 409, 410, 411, 412, 413, 414, 415, 416, 417, 418, 419, 420, 421, 422, 423, 1580, 1581, 1582, 1583, 1584, 1585, 1586, 1587, 1588, 1589, 1590, 1591, 1592, 1593, 1594, 1595, 1596, 1597, 1598] rfl (by decide +kernel)
set_option maxRecDepth 20000 in
theorem gL_law_X12_init : GoodIn wsN_law (wsX12_init) := ggL_law_X12_init
set_option maxRecDepth 20000 in
theorem ggL_law_L_append : GoodIn wsN_law wsL_append := goodIn_ca (goodIn_r _ [427, 428, 429, 430, 431, 2, 432, 433, 434, 25, 435, 436, 437, 15, 438, 145, 146, 147, 148, 149, 54, 1569, 1570, 1571, 1572, 1573, 1574, 1575, 1576, 1577, 1578, 1579, 1599, 1600] rfl (by decide +kernel)) (goodIn_sub (fun _ h => List.mem_append_left _ (List.mem_append_left _ (List.mem_append_left _ (List.mem_append_right _ h)))) (by decide +kernel))
set_option maxRecDepth 20000 in
theorem gL_law_L_append : GoodIn wsN_law (va_wsS RL 153 yL_append wsL_append) := goodIn_app (goodIn_of _ (by decide +kernel)) ggL_law_L_append
set_option maxRecDepth 20000 in
theorem ggL_law_X12_append : GoodIn wsN_law wsX12_append := goodIn_r _ [442, 330, 443, 444, 445, 5, 446, 335, 447, 448, 449, 450, 329, 1580, 1581, 1582, 1583, 1584, 1585, 1586, 1587, 1588, 1589, 1590, 1591, 1592, 1593, 1594, 1595, 1596, 1597, 1598] rfl (by decide +kernel)
set_option maxRecDepth 20000 in
theorem gL_law_X12_append : GoodIn wsN_law (wsV RL 158 RX12 yX12_append wsX12_append) := goodIn_app (goodIn_of _ (by decide +kernel)) ggL_law_X12_append
set_option maxRecDepth 20000 in
theorem ggL_law_X12_thrown : GoodIn wsN_law wsX12_thrown := goodIn_r _ [454, 335, 1580, 1581, 1582, 1583, 1584, 1585, 1586, 1587, 1588, 1589, 1590, 1591, 1592, 1593, 1594, 1595, 1596, 1597, 1598] rfl (by decide +kernel)
set_option maxRecDepth 20000 in
theorem gL_law_X12_thrown : GoodIn wsN_law (wsV RL 159 RX12 yX12_thrown wsX12_thrown) := goodIn_app (goodIn_of _ (by decide +kernel)) ggL_law_X12_thrown
set_option maxRecDepth 20000 in
theorem ggL_law_L_truncate : GoodIn wsN_law wsL_truncate := goodIn_ca (goodIn_r _ [457, 458, 459, 460, 461, 2, 462, 463, 464, 25, 465, 179, 180, 1569, 1570, 1571, 1572, 1573, 1574, 1575, 1576, 1577, 1578, 1579, 1599, 1600] rfl (by decide +kernel)) (goodIn_sub (fun _ h => List.mem_append_left _ (List.mem_append_left _ (List.mem_append_right _ h))) (by decide +kernel))
set_option maxRecDepth 20000 in
theorem gL_law_L_truncate : GoodIn wsN_law (va_wsS RL 162 yL_truncate wsL_truncate) := goodIn_app (goodIn_of _ (by decide +kernel)) ggL_law_L_truncate
set_option maxRecDepth 20000 in
theorem ggL_law_X12_truncate : GoodIn wsN_law wsX12_truncate := goodIn_r _ [469, 330, 377, 378, 5, 379, 443, 444, 445, 446, 335, 1580, 1581, 1582, 1583, 1584, 1585, 1586, 1587, 1588, 1589, 1590, 1591, 1592, 1593, 1594, 1595, 1596, 1597, 1598] rfl (by decide +kernel)
set_option maxRecDepth 20000 in
theorem gL_law_X12_truncate : GoodIn wsN_law (wsV RL 165 RX12 yX12_truncate wsX12_truncate) := goodIn_app (goodIn_of _ (by decide +kernel)) ggL_law_X12_truncate
set_option maxRecDepth 20000 in
theorem ggL_law_L_load : GoodIn wsN_law wsL_load := goodIn_ca (goodIn_r _ [472, 458, 473, 474, 475, 2, 476, 28, 48, 25, 36, 47, 41, 150, 151, 152, 21, 153, 65, 154, 155, 156, 24, 157, 72, 76, 158, 159, 75, 82, 83, 84, 160, 161, 162, 163, 164, 165, 166, 18, 167, 168, 60, 169, 170, 171, 172, 173, 174, 59, 175, 176, 177, 178, 179, 180, 181, 182, 183, 184, 185, 186, 187, 188, 189, 190, 191, 192, 193, 194, 195, 196, 197, 97, 98, 99, 100, 101, 102, 103, 104, 105, 106, 107, 198, 109, 110, 111, 112, 113, 114, 115, 116, 117, 118, 119, 120, 121, 122, 123, 124, 125, 126, 127, 128, 129, 130, 131, 132, 133, 134, 135, 136, 137, 138, 139, 140, 141, 142, 143, 144, 199, 200, 201, 202, 203, 204, 205, 206, 207, 208, 209, 210, 211, 212, 213, 214, 215, 216, 217, 218, 219, 71, 220, 221, 91, 222, 223, 224, 225, 226, 227, 228, 229, 230, 231, 232, 233, 234, 90, 235, 236, 237, 238, 239, 240, 241, 242, 243, 244, 245, 246, 247, 248, 249, 250, 251, 252, 253, 254, 255, 256, 257, 258, 259, 260, 261, 262, 263, 264, 265, 81, 266, 267, 268, 269, 477, 478, 479, 480, 463, 464, 27, 481, 482, 483, 35, 484, 288, 284, 298, 299, 300, 45, 301, 302, 303, 304, 305, 306, 307, 308, 309, 310, 292, 311, 312, 313, 314, 293, 294, 295, 296, 297, 315, 1569, 1570, 1571, 1572, 1573, 1574, 1575, 1576, 1577, 1578, 1579, 1599, 1600, 1630, 1631, 1632, 1633, 1634, 1635, 1636, 1637, 1608, 1609, 1610, 1611, 1612, 1613, 1614, 1615, 1616, 1617, 1618, 1619, 1620, 1621, 1622, 1623, 1624, 1653, 1654, 1655, 1607, 1601, 1602, 1603, 1604, 1605, 1606, 1638, 1639, 1640, 1641, 1642, 1643, 1644, 1645, 1646, 1647, 1648, 1649, 1650, 1651, 1652] rfl (by decide +kernel)) (goodIn_sub (fun _ h => List.mem_append_left _ (List.mem_append_left _ (List.mem_append_right _ h))) (by decide +kernel))
set_option maxRecDepth 20000 in
theorem gL_law_L_load : GoodIn wsN_law (va_wsS RL 166 yL_load wsL_load) := goodIn_app (goodIn_of _ (by decide +kernel)) ggL_law_L_load
set_option maxRecDepth 20000 in
theorem ggL_law_X12_load : GoodIn wsN_law wsX12_load := goodIn_r _ [488, 330, 328, 327, 326, 489, 490, 491, 5, 492, 347, 348, 349, 350, 331, 332, 340, 351, 352, 353, 354, 329, 342, 341, 343, 355, 356, 357, 358, 359, 360, 361, 362, 363, 364, 365, 366, 367, 368, 345, 97, 98, 99, 100, 101, 102, 103, 104, 105, 106, 107, 346, 109, 110, 111, 112, 113, 114, 115, 116, 117, 118, 119, 120, 121, 122, 123, 124, 125, 126, 127, 128, 129, 130, 131, 132, 133, 134, 135, 136, 137, 138, 139, 140, 141, 142, 143, 144, 369, 370, 371, 372, 373, 374, 375, 376, 377, 378, 379, 380, 381, 382, 383, 384, 385, 386, 387, 388, 389, 390, 391, 392, 393, 394, 395, 396, 397, 398, 399, 400, 401, 402, 403, 404, 405, 406, 407, 408, 409, 410, 411, 412, 413, 414, 415, 416, 417, 418, 419, 420, 421, 422, 423, 443, 444, 445, 446, 335, 1580, 1581, 1582, 1583, 1584, 1585, 1586, 1587, 1588, 1589, 1590, 1591, 1592, 1593, 1594, 1595, 1596, 1597, 1598] rfl (by decide +kernel)
set_option maxRecDepth 20000 in
theorem gL_law_X12_load : GoodIn wsN_law (wsV RL 169 RX12 yX12_load wsX12_load) := goodIn_app (goodIn_of _ (by decide +kernel)) ggL_law_X12_load
set_option maxRecDepth 20000 in
theorem ggL_law_X11_errorCode : GoodIn wsN_law wsX11_errorCode := goodIn_r _ [496, 27, 1569, 1570, 1571, 1572, 1573, 1574, 1575, 1576, 1577, 1578, 1579, 1601, 1602, 1603, 1604, 1605, 1606] rfl (by decide +kernel)
set_option maxRecDepth 20000 in
theorem gL_law_X11_errorCode : GoodIn wsN_law (wsV RL 170 RX11 yX11_errorCode wsX11_errorCode) := goodIn_app (goodIn_of _ (by decide +kernel)) ggL_law_X11_errorCode
set_option maxRecDepth 20000 in
theorem ggL_law_X12_errorCode : GoodIn wsN_law wsX12_errorCode := goodIn_r _ [500, 335, 331, 1580, 1581, 1582, 1583, 1584, 1585, 1586, 1587, 1588, 1589, 1590, 1591, 1592, 1593, 1594, 1595, 1596, 1597, 1598] rfl (by decide +kernel)
set_option maxRecDepth 20000 in
theorem gL_law_X12_errorCode : GoodIn wsN_law (wsV RL 173 RX12 yX12_errorCode wsX12_errorCode) := goodIn_app (goodIn_of _ (by decide +kernel)) ggL_law_X12_errorCode
set_option maxRecDepth 20000 in
theorem ggL_law_X11_errorPosition : GoodIn wsN_law wsX11_errorPosition := goodIn_r _ [504, 27, 1569, 1570, 1571, 1572, 1573, 1574, 1575, 1576, 1577, 1578, 1579, 1601, 1602, 1603, 1604, 1605, 1606] rfl (by decide +kernel)
set_option maxRecDepth 20000 in
theorem gL_law_X11_errorPosition : GoodIn wsN_law (wsV RL 174 RX11 yX11_errorPosition wsX11_errorPosition) := goodIn_app (goodIn_of _ (by decide +kernel)) ggL_law_X11_errorPosition
set_option maxRecDepth 20000 in
theorem ggL_law_X12_errorPosition : GoodIn wsN_law wsX12_errorPosition := goodIn_r _ [508, 335, 332, 1580, 1581, 1582, 1583, 1584, 1585, 1586, 1587, 1588, 1589, 1590, 1591, 1592, 1593, 1594, 1595, 1596, 1597, 1598] rfl (by decide +kernel)
set_option maxRecDepth 20000 in
theorem gL_law_X12_errorPosition : GoodIn wsN_law (wsV RL 177 RX12 yX12_errorPosition wsX12_errorPosition) := goodIn_app (goodIn_of _ (by decide +kernel)) ggL_law_X12_errorPosition
set_option maxRecDepth 20000 in
theorem ggL_law_X11_stepCount : GoodIn wsN_law wsX11_stepCount := goodIn_r _ [512, 36, 1569, 1570, 1571, 1572, 1573, 1574, 1575, 1576, 1577, 1578, 1579, 1630, 1631, 1632, 1633, 1634, 1608, 1609, 1610, 1611, 1612, 1613, 1614, 1615, 1616, 1617, 1618, 1619, 1620, 1621, 1622, 1623, 1624, 1653, 1654, 1655] rfl (by decide +kernel)
set_option maxRecDepth 20000 in
theorem gL_law_X11_stepCount : GoodIn wsN_law (wsV RL 178 RX11 yX11_stepCount wsX11_stepCount) := goodIn_app (goodIn_of _ (by decide +kernel)) ggL_law_X11_stepCount
set_option maxRecDepth 20000 in
theorem ggL_law_X12_stepCount : GoodIn wsN_law wsX12_stepCount := goodIn_r _ [516, 326, 517, 518, 519, 5, 520, 335, 1580, 1581, 1582, 1583, 1584, 1585, 1586, 1587, 1588, 1589, 1590, 1591, 1592, 1593, 1594, 1595, 1596, 1597, 1598] rfl (by decide +kernel)
set_option maxRecDepth 20000 in
theorem gL_law_X12_stepCount : GoodIn wsN_law (wsV RL 181 RX12 yX12_stepCount wsX12_stepCount) := goodIn_app (goodIn_of _ (by decide +kernel)) ggL_law_X12_stepCount
set_option maxRecDepth 20000 in
theorem ggL_law_X11_cooks : GoodIn wsN_law wsX11_cooks := goodIn_r _ [524, 36, 1569, 1570, 1571, 1572, 1573, 1574, 1575, 1576, 1577, 1578, 1579, 1630, 1631, 1632, 1633, 1634, 1638, 1639, 1640, 1641, 1642, 1643, 1644, 1645, 1646, 1647, 1648, 1649, 1650, 1651, 1652] rfl (by decide +kernel)
set_option maxRecDepth 20000 in
theorem gL_law_X11_cooks : GoodIn wsN_law (wsV RL 182 RX11 yX11_cooks wsX11_cooks) := goodIn_app (goodIn_of _ (by decide +kernel)) ggL_law_X11_cooks
set_option maxRecDepth 20000 in
theorem ggL_law_X12_cooks : GoodIn wsN_law wsX12_cooks := goodIn_r _ [528, 326, 517, 518, 519, 5, 520, 335, 1580, 1581, 1582, 1583, 1584, 1585, 1586, 1587, 1588, 1589, 1590, 1591, 1592, 1593, 1594, 1595, 1596, 1597, 1598] rfl (by decide +kernel)
set_option maxRecDepth 20000 in
theorem gL_law_X12_cooks : GoodIn wsN_law (wsV RL 185 RX12 yX12_cooks wsX12_cooks) := goodIn_app (goodIn_of _ (by decide +kernel)) ggL_law_X12_cooks
set_option maxRecDepth 20000 in
theorem ggL_law_X11_minute : GoodIn wsN_law wsX11_minute := goodIn_r _ [532, 36, 1569, 1570, 1571, 1572, 1573, 1574, 1575, 1576, 1577, 1578, 1579, 1630, 1631, 1632, 1633, 1634, 1638, 1639, 1640, 1641, 1642, 1643, 1644, 1645, 1646, 1647, 1648, 1649, 1650, 1651, 1652] rfl (by decide +kernel)
set_option maxRecDepth 20000 in
theorem gL_law_X11_minute : GoodIn wsN_law (wsV RL 186 RX11 yX11_minute wsX11_minute) := goodIn_app (goodIn_of _ (by decide +kernel)) ggL_law_X11_minute
set_option maxRecDepth 20000 in
theorem ggL_law_X12_minute : GoodIn wsN_law wsX12_minute := goodIn_r _ [536, 326, 517, 518, 519, 5, 520, 335, 1580, 1581, 1582, 1583, 1584, 1585, 1586, 1587, 1588, 1589, 1590, 1591, 1592, 1593, 1594, 1595, 1596, 1597, 1598] rfl (by decide +kernel)
set_option maxRecDepth 20000 in
theorem gL_law_X12_minute : GoodIn wsN_law (wsV RL 189 RX12 yX12_minute wsX12_minute) := goodIn_app (goodIn_of _ (by decide +kernel)) ggL_law_X12_minute
set_option maxRecDepth 20000 in
theorem ggL_law_X11_salt : GoodIn wsN_law wsX11_salt := goodIn_r _ [540, 36, 1569, 1570, 1571, 1572, 1573, 1574, 1575, 1576, 1577, 1578, 1579, 1630, 1631, 1632, 1633, 1634, 1638, 1639, 1640, 1641, 1642, 1643, 1644, 1645, 1646, 1647, 1648, 1649, 1650, 1651, 1652] rfl (by decide +kernel)
set_option maxRecDepth 20000 in
theorem gL_law_X11_salt : GoodIn wsN_law (wsV RL 190 RX11 yX11_salt wsX11_salt) := goodIn_app (goodIn_of _ (by decide +kernel)) ggL_law_X11_salt
set_option maxRecDepth 20000 in
theorem ggL_law_X12_salt : GoodIn wsN_law wsX12_salt := goodIn_r _ [544, 326, 517, 518, 519, 5, 520, 335, 1580, 1581, 1582, 1583, 1584, 1585, 1586, 1587, 1588, 1589, 1590, 1591, 1592, 1593, 1594, 1595, 1596, 1597, 1598] rfl (by decide +kernel)
set_option maxRecDepth 20000 in
theorem gL_law_X12_salt : GoodIn wsN_law (wsV RL 193 RX12 yX12_salt wsX12_salt) := goodIn_app (goodIn_of _ (by decide +kernel)) ggL_law_X12_salt
set_option maxRecDepth 20000 in
theorem ggL_law_X11_taste : GoodIn wsN_law wsX11_taste := goodIn_r _ [548, 36, 549, 550, 551, 35, 552, 284, 288, 260, 2, 261, 1569, 1570, 1571, 1572, 1573, 1574, 1575, 1576, 1577, 1578, 1579, 1630, 1631, 1632, 1633, 1634, 1638, 1639, 1640, 1641, 1642, 1643, 1644, 1645, 1646, 1647, 1648, 1649, 1650, 1651, 1652, 1608, 1609, 1610, 1611, 1612, 1613, 1614, 1615, 1616, 1617, 1618, 1619, 1620, 1621, 1622, 1623, 1624, 1653, 1654, 1655] rfl (by decide +kernel)
set_option maxRecDepth 20000 in
theorem gL_law_X11_taste : GoodIn wsN_law (wsV RL 194 RX11 yX11_taste wsX11_taste) := goodIn_app (goodIn_of _ (by decide +kernel)) ggL_law_X11_taste
set_option maxRecDepth 20000 in
theorem ggL_law_X12_taste : GoodIn wsN_law wsX12_taste := goodIn_r _ [556, 557, 558, 559, 5, 560, 326, 561, 562, 563, 564, 517, 518, 519, 520, 335, 1580, 1581, 1582, 1583, 1584, 1585, 1586, 1587, 1588, 1589, 1590, 1591, 1592, 1593, 1594, 1595, 1596, 1597, 1598] rfl (by decide +kernel)
set_option maxRecDepth 20000 in
theorem gL_law_X12_taste : GoodIn wsN_law (wsV RL 197 RX12 yX12_taste wsX12_taste) := goodIn_app (goodIn_of _ (by decide +kernel)) ggL_law_X12_taste
set_option maxRecDepth 20000 in
theorem ggL_law_L_countWithStatus : GoodIn wsN_law wsL_countWithStatus := goodIn_ca (goodIn_r _ [567, 458, 568, 569, 570, 2, 571, 463, 464, 36, 465, 179, 180, 572, 573, 574, 45, 575, 308, 309, 310, 260, 261, 1569, 1570, 1571, 1572, 1573, 1574, 1575, 1576, 1577, 1578, 1579, 1630, 1631, 1632, 1633, 1634, 1608, 1609, 1610, 1611, 1612, 1613, 1614, 1615, 1616, 1617, 1618, 1619, 1620, 1621, 1622, 1623, 1624, 1653, 1654, 1655, 1638, 1639, 1640, 1641, 1642, 1643, 1644, 1645, 1646, 1647, 1648, 1649, 1650, 1651, 1652] rfl (by decide +kernel)) (goodIn_sub (fun _ h => List.mem_append_left _ (List.mem_append_left _ (List.mem_append_right _ h))) (by decide +kernel))
set_option maxRecDepth 20000 in
theorem gL_law_L_countWithStatus : GoodIn wsN_law (va_wsS RL 198 yL_countWithStatus wsL_countWithStatus) := goodIn_app (goodIn_of _ (by decide +kernel)) ggL_law_L_countWithStatus
set_option maxRecDepth 20000 in
theorem ggL_law_X12_countWithStatus : GoodIn wsN_law wsX12_countWithStatus := goodIn_r _ [579, 377, 378, 5, 379, 443, 444, 445, 446, 335, 580, 581, 582, 583, 326, 561, 562, 563, 564, 1580, 1581, 1582, 1583, 1584, 1585, 1586, 1587, 1588, 1589, 1590, 1591, 1592, 1593, 1594, 1595, 1596, 1597, 1598] rfl (by decide +kernel)
set_option maxRecDepth 20000 in
theorem gL_law_X12_countWithStatus : GoodIn wsN_law (wsV RL 200 RX12 yX12_countWithStatus wsX12_countWithStatus) := goodIn_app (goodIn_of _ (by decide +kernel)) ggL_law_X12_countWithStatus
set_option maxRecDepth 20000 in
theorem ggL_law_X11_starts : GoodIn wsN_law wsX11_starts := goodIn_r _ [587, 36, 588, 589, 2, 590, 1569, 1570, 1571, 1572, 1573, 1574, 1575, 1576, 1577, 1578, 1579, 1630, 1631, 1632, 1633, 1634, 1638, 1639, 1640, 1641, 1642, 1643, 1644, 1645, 1646, 1647, 1648, 1649, 1650, 1651, 1652, 1608, 1609, 1610, 1611, 1612, 1613, 1614, 1615, 1616, 1617, 1618, 1619, 1620, 1621, 1622, 1623, 1624, 1653, 1654, 1655] rfl (by decide +kernel)
set_option maxRecDepth 20000 in
theorem gL_law_X11_starts : GoodIn wsN_law (wsV RL 201 RX11 yX11_starts wsX11_starts) := goodIn_app (goodIn_of _ (by decide +kernel)) ggL_law_X11_starts
set_option maxRecDepth 20000 in
theorem ggL_law_X12_starts : GoodIn wsN_law wsX12_starts := goodIn_r _ [594, 326, 517, 518, 519, 5, 520, 335, 1580, 1581, 1582, 1583, 1584, 1585, 1586, 1587, 1588, 1589, 1590, 1591, 1592, 1593, 1594, 1595, 1596, 1597, 1598] rfl (by decide +kernel)
set_option maxRecDepth 20000 in
theorem gL_law_X12_starts : GoodIn wsN_law (wsV RL 204 RX12 yX12_starts wsX12_starts) := goodIn_app (goodIn_of _ (by decide +kernel)) ggL_law_X12_starts
set_option maxRecDepth 20000 in
theorem ggL_law_X11_completions : GoodIn wsN_law wsX11_completions := goodIn_r _ [598, 36, 588, 589, 2, 590, 1569, 1570, 1571, 1572, 1573, 1574, 1575, 1576, 1577, 1578, 1579, 1630, 1631, 1632, 1633, 1634, 1638, 1639, 1640, 1641, 1642, 1643, 1644, 1645, 1646, 1647, 1648, 1649, 1650, 1651, 1652, 1608, 1609, 1610, 1611, 1612, 1613, 1614, 1615, 1616, 1617, 1618, 1619, 1620, 1621, 1622, 1623, 1624, 1653, 1654, 1655] rfl (by decide +kernel)
set_option maxRecDepth 20000 in
theorem gL_law_X11_completions : GoodIn wsN_law (wsV RL 205 RX11 yX11_completions wsX11_completions) := goodIn_app (goodIn_of _ (by decide +kernel)) ggL_law_X11_completions
set_option maxRecDepth 20000 in
theorem ggL_law_X12_completions : GoodIn wsN_law wsX12_completions := goodIn_r _ [602, 326, 517, 518, 519, 5, 520, 335, 1580, 1581, 1582, 1583, 1584, 1585, 1586, 1587, 1588, 1589, 1590, 1591, 1592, 1593, 1594, 1595, 1596, 1597, 1598] rfl (by decide +kernel)
set_option maxRecDepth 20000 in
theorem gL_law_X12_completions : GoodIn wsN_law (wsV RL 208 RX12 yX12_completions wsX12_completions) := goodIn_app (goodIn_of _ (by decide +kernel)) ggL_law_X12_completions
set_option maxRecDepth 20000 in
theorem ggL_law_X11_burns : GoodIn wsN_law wsX11_burns := goodIn_r _ [606, 36, 588, 589, 2, 590, 1569, 1570, 1571, 1572, 1573, 1574, 1575, 1576, 1577, 1578, 1579, 1630, 1631, 1632, 1633, 1634, 1638, 1639, 1640, 1641, 1642, 1643, 1644, 1645, 1646, 1647, 1648, 1649, 1650, 1651, 1652, 1608, 1609, 1610, 1611, 1612, 1613, 1614, 1615, 1616, 1617, 1618, 1619, 1620, 1621, 1622, 1623, 1624, 1653, 1654, 1655] rfl (by decide +kernel)
set_option maxRecDepth 20000 in
theorem gL_law_X11_burns : GoodIn wsN_law (wsV RL 209 RX11 yX11_burns wsX11_burns) := goodIn_app (goodIn_of _ (by decide +kernel)) ggL_law_X11_burns
set_option maxRecDepth 20000 in
theorem ggL_law_X12_burns : GoodIn wsN_law wsX12_burns := goodIn_r _ [610, 326, 517, 518, 519, 5, 520, 335, 1580, 1581, 1582, 1583, 1584, 1585, 1586, 1587, 1588, 1589, 1590, 1591, 1592, 1593, 1594, 1595, 1596, 1597, 1598] rfl (by decide +kernel)
set_option maxRecDepth 20000 in
theorem gL_law_X12_burns : GoodIn wsN_law (wsV RL 212 RX12 yX12_burns wsX12_burns) := goodIn_app (goodIn_of _ (by decide +kernel)) ggL_law_X12_burns
set_option maxRecDepth 20000 in
theorem ggL_law_X11_cookMinutes : GoodIn wsN_law wsX11_cookMinutes := goodIn_r _ [614, 36, 1569, 1570, 1571, 1572, 1573, 1574, 1575, 1576, 1577, 1578, 1579, 1630, 1631, 1632, 1633, 1634, 1638, 1639, 1640, 1641, 1642, 1643, 1644, 1645, 1646, 1647, 1648, 1649, 1650, 1651, 1652] rfl (by decide +kernel)
set_option maxRecDepth 20000 in
theorem gL_law_X11_cookMinutes : GoodIn wsN_law (wsV RL 213 RX11 yX11_cookMinutes wsX11_cookMinutes) := goodIn_app (goodIn_of _ (by decide +kernel)) ggL_law_X11_cookMinutes
set_option maxRecDepth 20000 in
theorem ggL_law_X12_cookMinutes : GoodIn wsN_law wsX12_cookMinutes := goodIn_r _ [618, 326, 517, 518, 519, 5, 520, 335, 1580, 1581, 1582, 1583, 1584, 1585, 1586, 1587, 1588, 1589, 1590, 1591, 1592, 1593, 1594, 1595, 1596, 1597, 1598] rfl (by decide +kernel)
set_option maxRecDepth 20000 in
theorem gL_law_X12_cookMinutes : GoodIn wsN_law (wsV RL 216 RX12 yX12_cookMinutes wsX12_cookMinutes) := goodIn_app (goodIn_of _ (by decide +kernel)) ggL_law_X12_cookMinutes
set_option maxRecDepth 20000 in
theorem ggL_law_L_panCapacity : GoodIn wsN_law wsL_panCapacity := goodIn_ca (goodIn_r _ [621, 622, 623, 624, 625, 2, 626, 36, 627, 628, 629, 630, 631, 632, 465, 179, 180, 1569, 1570, 1571, 1572, 1573, 1574, 1575, 1576, 1577, 1578, 1579, 1630, 1631, 1632, 1633, 1634, 1608, 1609, 1610, 1611, 1612, 1613, 1614, 1615, 1616, 1617, 1618, 1619, 1620, 1621, 1622, 1623, 1624, 1653, 1654, 1655] rfl (by decide +kernel)) (goodIn_sub (fun _ h => List.mem_append_left _ (List.mem_append_right _ h)) (by decide +kernel))
set_option maxRecDepth 20000 in
theorem gL_law_L_panCapacity : GoodIn wsN_law (va_wsS RL 217 yL_panCapacity wsL_panCapacity) := goodIn_app (goodIn_of _ (by decide +kernel)) ggL_law_L_panCapacity
set_option maxRecDepth 20000 in
theorem ggL_law_X12_panCapacity : GoodIn wsN_law wsX12_panCapacity := goodIn_r _ [636, 637, 638, 639, 5, 640, 326, 377, 378, 379, 443, 444, 445, 446, 335, 641, 642, 643, 644, 1580, 1581, 1582, 1583, 1584, 1585, 1586, 1587, 1588, 1589, 1590, 1591, 1592, 1593, 1594, 1595, 1596, 1597, 1598] rfl (by decide +kernel)
set_option maxRecDepth 20000 in
theorem gL_law_X12_panCapacity : GoodIn wsN_law (wsV RL 219 RX12 yX12_panCapacity wsX12_panCapacity) := goodIn_app (goodIn_of _ (by decide +kernel)) ggL_law_X12_panCapacity
set_option maxRecDepth 20000 in
theorem ggL_law_L_pansInUse : GoodIn wsN_law wsL_pansInUse := goodIn_ca (goodIn_r _ [647, 622, 648, 649, 650, 2, 651, 36, 627, 628, 629, 630, 631, 632, 465, 179, 180, 652, 653, 654, 35, 655, 288, 284, 656, 657, 658, 659, 660, 661, 662, 1569, 1570, 1571, 1572, 1573, 1574, 1575, 1576, 1577, 1578, 1579, 1630, 1631, 1632, 1633, 1634, 1608, 1609, 1610, 1611, 1612, 1613, 1614, 1615, 1616, 1617, 1618, 1619, 1620, 1621, 1622, 1623, 1624, 1653, 1654, 1655, 1638, 1639, 1640, 1641, 1642, 1643, 1644, 1645, 1646, 1647, 1648, 1649, 1650, 1651, 1652] rfl (by decide +kernel)) (goodIn_sub (fun _ h => List.mem_append_left _ (List.mem_append_right _ h)) (by decide +kernel))
set_option maxRecDepth 20000 in
theorem gL_law_L_pansInUse : GoodIn wsN_law (va_wsS RL 220 yL_pansInUse wsL_pansInUse) := goodIn_app (goodIn_of _ (by decide +kernel)) ggL_law_L_pansInUse
set_option maxRecDepth 20000 in
theorem ggL_law_X12_pansInUse : GoodIn wsN_law wsX12_pansInUse := goodIn_r _ [666, 637, 638, 639, 5, 640, 326, 377, 378, 379, 443, 444, 445, 446, 335, 667, 668, 669, 670, 671, 672, 673, 674, 561, 562, 563, 564, 675, 676, 677, 678, 679, 680, 681, 682, 1580, 1581, 1582, 1583, 1584, 1585, 1586, 1587, 1588, 1589, 1590, 1591, 1592, 1593, 1594, 1595, 1596, 1597, 1598] rfl (by decide +kernel)
set_option maxRecDepth 20000 in
theorem gL_law_X12_pansInUse : GoodIn wsN_law (wsV RL 222 RX12 yX12_pansInUse wsX12_pansInUse) := goodIn_app (goodIn_of _ (by decide +kernel)) ggL_law_X12_pansInUse
set_option maxRecDepth 20000 in
theorem ggL_law_L_duration : GoodIn wsN_law wsL_duration := goodIn_ca (goodIn_r _ [685, 622, 686, 687, 688, 2, 689, 36, 690, 691, 692, 693, 631, 632, 465, 179, 180, 1569, 1570, 1571, 1572, 1573, 1574, 1575, 1576, 1577, 1578, 1579, 1630, 1631, 1632, 1633, 1634, 1638, 1639, 1640, 1641, 1642, 1643, 1644, 1645, 1646, 1647, 1648, 1649, 1650, 1651, 1652, 1608, 1609, 1610, 1611, 1612, 1613, 1614, 1615, 1616, 1617, 1618, 1619, 1620, 1621, 1622, 1623, 1624, 1653, 1654, 1655] rfl (by decide +kernel)) (goodIn_sub (fun _ h => List.mem_append_left _ (List.mem_append_right _ h)) (by decide +kernel))
set_option maxRecDepth 20000 in
theorem gL_law_L_duration : GoodIn wsN_law (va_wsS RL 223 yL_duration wsL_duration) := goodIn_app (goodIn_of _ (by decide +kernel)) ggL_law_L_duration
set_option maxRecDepth 20000 in
theorem ggL_law_X12_duration : GoodIn wsN_law wsX12_duration := goodIn_r _ [697, 698, 699, 700, 5, 701, 702, 703, 704, 705, 326, 377, 378, 379, 443, 444, 445, 446, 335, 561, 562, 563, 564, 1580, 1581, 1582, 1583, 1584, 1585, 1586, 1587, 1588, 1589, 1590, 1591, 1592, 1593, 1594, 1595, 1596, 1597, 1598] rfl (by decide +kernel)
set_option maxRecDepth 20000 in
theorem gL_law_X12_duration : GoodIn wsN_law (wsV RL 225 RX12 yX12_duration wsX12_duration) := goodIn_app (goodIn_of _ (by decide +kernel)) ggL_law_X12_duration
set_option maxRecDepth 20000 in
theorem ggL_law_L_stepTaste : GoodIn wsN_law wsL_stepTaste := goodIn_ca (goodIn_r _ [708, 622, 709, 710, 711, 2, 712, 36, 690, 691, 692, 693, 631, 632, 465, 179, 180, 1569, 1570, 1571, 1572, 1573, 1574, 1575, 1576, 1577, 1578, 1579, 1630, 1631, 1632, 1633, 1634, 1608, 1609, 1610, 1611, 1612, 1613, 1614, 1615, 1616, 1617, 1618, 1619, 1620, 1621, 1622, 1623, 1624, 1653, 1654, 1655] rfl (by decide +kernel)) (goodIn_sub (fun _ h => List.mem_append_left _ (List.mem_append_right _ h)) (by decide +kernel))
set_option maxRecDepth 20000 in
theorem gL_law_L_stepTaste : GoodIn wsN_law (va_wsS RL 226 yL_stepTaste wsL_stepTaste) := goodIn_app (goodIn_of _ (by decide +kernel)) ggL_law_L_stepTaste
set_option maxRecDepth 20000 in
theorem ggL_law_X12_stepTaste : GoodIn wsN_law wsX12_stepTaste := goodIn_r _ [716, 698, 699, 700, 5, 701, 702, 703, 704, 705, 326, 377, 378, 379, 443, 444, 445, 446, 335, 561, 562, 563, 564, 1580, 1581, 1582, 1583, 1584, 1585, 1586, 1587, 1588, 1589, 1590, 1591, 1592, 1593, 1594, 1595, 1596, 1597, 1598] rfl (by decide +kernel)
set_option maxRecDepth 20000 in
theorem gL_law_X12_stepTaste : GoodIn wsN_law (wsV RL 228 RX12 yX12_stepTaste wsX12_stepTaste) := goodIn_app (goodIn_of _ (by decide +kernel)) ggL_law_X12_stepTaste
set_option maxRecDepth 20000 in
theorem ggL_law_L_panType : GoodIn wsN_law wsL_panType := goodIn_ca (goodIn_r _ [719, 622, 720, 721, 722, 2, 723, 36, 690, 691, 692, 693, 631, 632, 465, 179, 180, 1569, 1570, 1571, 1572, 1573, 1574, 1575, 1576, 1577, 1578, 1579, 1630, 1631, 1632, 1633, 1634, 1608, 1609, 1610, 1611, 1612, 1613, 1614, 1615, 1616, 1617, 1618, 1619, 1620, 1621, 1622, 1623, 1624, 1653, 1654, 1655] rfl (by decide +kernel)) (goodIn_sub (fun _ h => List.mem_append_left _ (List.mem_append_right _ h)) (by decide +kernel))
set_option maxRecDepth 20000 in
theorem gL_law_L_panType : GoodIn wsN_law (va_wsS RL 229 yL_panType wsL_panType) := goodIn_app (goodIn_of _ (by decide +kernel)) ggL_law_L_panType
set_option maxRecDepth 20000 in
theorem ggL_law_X12_panType : GoodIn wsN_law wsX12_panType := goodIn_r _ [727, 698, 699, 700, 5, 701, 702, 703, 704, 705, 326, 377, 378, 379, 443, 444, 445, 446, 335, 561, 562, 563, 564, 1580, 1581, 1582, 1583, 1584, 1585, 1586, 1587, 1588, 1589, 1590, 1591, 1592, 1593, 1594, 1595, 1596, 1597, 1598] rfl (by decide +kernel)
set_option maxRecDepth 20000 in
theorem gL_law_X12_panType : GoodIn wsN_law (wsV RL 231 RX12 yX12_panType wsX12_panType) := goodIn_app (goodIn_of _ (by decide +kernel)) ggL_law_X12_panType
