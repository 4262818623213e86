set_option maxRecDepth 20000 in
theorem ggL_law_L_isHot : GoodIn wsN_law wsL_isHot := goodIn_ca (goodIn_r _ [730, 622, 731, 732, 733, 2, 734, 36, 690, 691, 692, 693, 631, 632, 465, 179, 180, 735, 260, 261, 1569, 1570, 1571, 1572, 1573, 1574, 1575, 1576, 1577, 1578, 1579, 1630, 1631, 1632, 1633, 1634, 1608, 1609, 1610, 1611, 1612, 1613, 1614, 1615, 1616, 1617, 1618, 1619, 1620, 1621, 1622, 1623, 1624, 1653, 1654, 1655] rfl (by decide +kernel)) (goodIn_sub (fun _ h => List.mem_append_left _ (List.mem_append_right _ h)) (by decide +kernel))
set_option maxRecDepth 20000 in
theorem gL_law_L_isHot : GoodIn wsN_law (va_wsS RL 232 yL_isHot wsL_isHot) := goodIn_app (goodIn_of _ (by decide +kernel)) ggL_law_L_isHot
set_option maxRecDepth 20000 in
theorem ggL_law_X12_isHot : GoodIn wsN_law wsX12_isHot := goodIn_r _ [739, 698, 699, 700, 5, 701, 702, 703, 704, 705, 326, 377, 378, 379, 443, 444, 445, 446, 335, 561, 562, 563, 564, 1580, 1581, 1582, 1583, 1584, 1585, 1586, 1587, 1588, 1589, 1590, 1591, 1592, 1593, 1594, 1595, 1596, 1597, 1598] rfl (by decide +kernel)
set_option maxRecDepth 20000 in
theorem gL_law_X12_isHot : GoodIn wsN_law (wsV RL 234 RX12 yX12_isHot wsX12_isHot) := goodIn_app (goodIn_of _ (by decide +kernel)) ggL_law_X12_isHot
set_option maxRecDepth 20000 in
theorem ggL_law_L_isUnattended : GoodIn wsN_law wsL_isUnattended := goodIn_ca (goodIn_r _ [742, 622, 743, 744, 745, 2, 746, 36, 690, 691, 692, 693, 631, 632, 465, 179, 180, 735, 260, 261, 1569, 1570, 1571, 1572, 1573, 1574, 1575, 1576, 1577, 1578, 1579, 1630, 1631, 1632, 1633, 1634, 1608, 1609, 1610, 1611, 1612, 1613, 1614, 1615, 1616, 1617, 1618, 1619, 1620, 1621, 1622, 1623, 1624, 1653, 1654, 1655] rfl (by decide +kernel)) (goodIn_sub (fun _ h => List.mem_append_left _ (List.mem_append_right _ h)) (by decide +kernel))
set_option maxRecDepth 20000 in
theorem gL_law_L_isUnattended : GoodIn wsN_law (va_wsS RL 235 yL_isUnattended wsL_isUnattended) := goodIn_app (goodIn_of _ (by decide +kernel)) ggL_law_L_isUnattended
set_option maxRecDepth 20000 in
theorem ggL_law_X12_isUnattended : GoodIn wsN_law wsX12_isUnattended := goodIn_r _ [750, 698, 699, 700, 5, 701, 702, 703, 704, 705, 326, 377, 378, 379, 443, 444, 445, 446, 335, 561, 562, 563, 564, 1580, 1581, 1582, 1583, 1584, 1585, 1586, 1587, 1588, 1589, 1590, 1591, 1592, 1593, 1594, 1595, 1596, 1597, 1598] rfl (by decide +kernel)
set_option maxRecDepth 20000 in
theorem gL_law_X12_isUnattended : GoodIn wsN_law (wsV RL 237 RX12 yX12_isUnattended wsX12_isUnattended) := goodIn_app (goodIn_of _ (by decide +kernel)) ggL_law_X12_isUnattended
set_option maxRecDepth 20000 in
theorem ggL_law_L_predecessor : GoodIn wsN_law wsL_predecessor := goodIn_ca (goodIn_r _ [753, 622, 754, 755, 756, 2, 757, 36, 690, 691, 692, 693, 631, 632, 465, 179, 180, 1569, 1570, 1571, 1572, 1573, 1574, 1575, 1576, 1577, 1578, 1579, 1630, 1631, 1632, 1633, 1634, 1608, 1609, 1610, 1611, 1612, 1613, 1614, 1615, 1616, 1617, 1618, 1619, 1620, 1621, 1622, 1623, 1624, 1653, 1654, 1655] rfl (by decide +kernel)) (goodIn_sub (fun _ h => List.mem_append_left _ (List.mem_append_right _ h)) (by decide +kernel))
set_option maxRecDepth 20000 in
theorem gL_law_L_predecessor : GoodIn wsN_law (va_wsS RL 238 yL_predecessor wsL_predecessor) := goodIn_app (goodIn_of _ (by decide +kernel)) ggL_law_L_predecessor
set_option maxRecDepth 20000 in
theorem ggL_law_X12_predecessor : GoodIn wsN_law wsX12_predecessor := goodIn_r _ [761, 702, 703, 704, 5, 705, 326, 377, 378, 379, 443, 444, 445, 446, 335, 561, 562, 563, 564, 1580, 1581, 1582, 1583, 1584, 1585, 1586, 1587, 1588, 1589, 1590, 1591, 1592, 1593, 1594, 1595, 1596, 1597, 1598] rfl (by decide +kernel)
set_option maxRecDepth 20000 in
theorem gL_law_X12_predecessor : GoodIn wsN_law (wsV RL 241 RX12 yX12_predecessor wsX12_predecessor) := goodIn_app (goodIn_of _ (by decide +kernel)) ggL_law_X12_predecessor
set_option maxRecDepth 20000 in
theorem ggL_law_L_successorCount : GoodIn wsN_law wsL_successorCount := goodIn_ca (goodIn_r _ [764, 622, 765, 766, 767, 2, 768, 36, 690, 691, 692, 693, 631, 632, 465, 179, 180, 656, 657, 658, 659, 660, 661, 662, 1569, 1570, 1571, 1572, 1573, 1574, 1575, 1576, 1577, 1578, 1579, 1630, 1631, 1632, 1633, 1634, 1608, 1609, 1610, 1611, 1612, 1613, 1614, 1615, 1616, 1617, 1618, 1619, 1620, 1621, 1622, 1623, 1624, 1653, 1654, 1655] rfl (by decide +kernel)) (goodIn_sub (fun _ h => List.mem_append_left _ (List.mem_append_right _ h)) (by decide +kernel))
set_option maxRecDepth 20000 in
theorem gL_law_L_successorCount : GoodIn wsN_law (va_wsS RL 242 yL_successorCount wsL_successorCount) := goodIn_app (goodIn_of _ (by decide +kernel)) ggL_law_L_successorCount
set_option maxRecDepth 20000 in
theorem ggL_law_X12_successorCount : GoodIn wsN_law wsX12_successorCount := goodIn_r _ [772, 702, 703, 704, 5, 705, 326, 377, 378, 379, 443, 444, 445, 446, 335, 773, 774, 775, 776, 679, 680, 681, 682, 561, 562, 563, 564, 1580, 1581, 1582, 1583, 1584, 1585, 1586, 1587, 1588, 1589, 1590, 1591, 1592, 1593, 1594, 1595, 1596, 1597, 1598] rfl (by decide +kernel)
set_option maxRecDepth 20000 in
theorem gL_law_X12_successorCount : GoodIn wsN_law (wsV RL 244 RX12 yX12_successorCount wsX12_successorCount) := goodIn_app (goodIn_of _ (by decide +kernel)) ggL_law_X12_successorCount
set_option maxRecDepth 20000 in
theorem ggL_law_L_dependsOn : GoodIn wsN_law wsL_dependsOn := goodIn_ca (goodIn_r _ [779, 622, 780, 781, 782, 2, 783, 36, 690, 691, 692, 693, 631, 632, 465, 179, 180, 784, 785, 786, 24, 787, 83, 260, 261, 735, 1569, 1570, 1571, 1572, 1573, 1574, 1575, 1576, 1577, 1578, 1579, 1630, 1631, 1632, 1633, 1634, 1608, 1609, 1610, 1611, 1612, 1613, 1614, 1615, 1616, 1617, 1618, 1619, 1620, 1621, 1622, 1623, 1624, 1653, 1654, 1655] rfl (by decide +kernel)) (goodIn_sub (fun _ h => List.mem_append_left _ (List.mem_append_right _ h)) (by decide +kernel))
set_option maxRecDepth 20000 in
theorem gL_law_L_dependsOn : GoodIn wsN_law (va_wsS RL 245 yL_dependsOn wsL_dependsOn) := goodIn_app (goodIn_of _ (by decide +kernel)) ggL_law_L_dependsOn
set_option maxRecDepth 20000 in
theorem ggL_law_X12_dependsOn : GoodIn wsN_law wsX12_dependsOn := goodIn_r _ [791, 326, 338, 702, 703, 704, 5, 705, 377, 378, 379, 443, 444, 445, 446, 335, 561, 562, 563, 564, 1580, 1581, 1582, 1583, 1584, 1585, 1586, 1587, 1588, 1589, 1590, 1591, 1592, 1593, 1594, 1595, 1596, 1597, 1598] rfl (by decide +kernel)
set_option maxRecDepth 20000 in
theorem gL_law_X12_dependsOn : GoodIn wsN_law (wsV RL 247 RX12 yX12_dependsOn wsX12_dependsOn) := goodIn_app (goodIn_of _ (by decide +kernel)) ggL_law_X12_dependsOn
set_option maxRecDepth 20000 in
theorem ggL_law_L_pathLength : GoodIn wsN_law wsL_pathLength := goodIn_ca (goodIn_r _ [794, 622, 795, 796, 797, 2, 798, 36, 690, 691, 692, 693, 631, 632, 465, 179, 180, 799, 800, 801, 35, 802, 288, 285, 284, 286, 803, 804, 805, 806, 260, 261, 1569, 1570, 1571, 1572, 1573, 1574, 1575, 1576, 1577, 1578, 1579, 1630, 1631, 1632, 1633, 1634, 1608, 1609, 1610, 1611, 1612, 1613, 1614, 1615, 1616, 1617, 1618, 1619, 1620, 1621, 1622, 1623, 1624, 1653, 1654, 1655, 1638, 1639, 1640, 1641, 1642, 1643, 1644, 1645, 1646, 1647, 1648, 1649, 1650, 1651, 1652] rfl (by decide +kernel)) (goodIn_sub (fun _ h => List.mem_append_left _ (List.mem_append_right _ h)) (by decide +kernel))
set_option maxRecDepth 20000 in
theorem gL_law_L_pathLength : GoodIn wsN_law (va_wsS RL 248 yL_pathLength wsL_pathLength) := goodIn_app (goodIn_of _ (by decide +kernel)) ggL_law_L_pathLength
set_option maxRecDepth 20000 in
theorem ggL_law_X12_pathLength : GoodIn wsN_law wsX12_pathLength := goodIn_r _ [810, 336, 702, 703, 704, 5, 705, 326, 377, 378, 379, 443, 444, 445, 446, 335, 811, 812, 813, 814, 679, 680, 681, 682, 561, 562, 563, 564, 1580, 1581, 1582, 1583, 1584, 1585, 1586, 1587, 1588, 1589, 1590, 1591, 1592, 1593, 1594, 1595, 1596, 1597, 1598] rfl (by decide +kernel)
set_option maxRecDepth 20000 in
theorem gL_law_X12_pathLength : GoodIn wsN_law (wsV RL 250 RX12 yX12_pathLength wsX12_pathLength) := goodIn_app (goodIn_of _ (by decide +kernel)) ggL_law_X12_pathLength
set_option maxRecDepth 20000 in
theorem ggL_law_L_nameLetter : GoodIn wsN_law wsL_nameLetter := goodIn_ca (goodIn_r _ [817, 622, 818, 819, 820, 2, 821, 631, 632, 36, 690, 691, 692, 693, 465, 179, 180, 1569, 1570, 1571, 1572, 1573, 1574, 1575, 1576, 1577, 1578, 1579, 1630, 1631, 1632, 1633, 1634, 1608, 1609, 1610, 1611, 1612, 1613, 1614, 1615, 1616, 1617, 1618, 1619, 1620, 1621, 1622, 1623, 1624, 1653, 1654, 1655] rfl (by decide +kernel)) (goodIn_sub (fun _ h => List.mem_append_left _ (List.mem_append_right _ h)) (by decide +kernel))
set_option maxRecDepth 20000 in
theorem gL_law_L_nameLetter : GoodIn wsN_law (va_wsS RL 251 yL_nameLetter wsL_nameLetter) := goodIn_app (goodIn_of _ (by decide +kernel)) ggL_law_L_nameLetter
set_option maxRecDepth 20000 in
theorem ggL_law_X12_nameLetter : GoodIn wsN_law wsX12_nameLetter := goodIn_r _ [825, 702, 703, 704, 5, 705, 326, 377, 378, 379, 561, 562, 563, 564, 443, 444, 445, 446, 335, 1580, 1581, 1582, 1583, 1584, 1585, 1586, 1587, 1588, 1589, 1590, 1591, 1592, 1593, 1594, 1595, 1596, 1597, 1598] rfl (by decide +kernel)
set_option maxRecDepth 20000 in
theorem gL_law_X12_nameLetter : GoodIn wsN_law (wsV RL 253 RX12 yX12_nameLetter wsX12_nameLetter) := goodIn_app (goodIn_of _ (by decide +kernel)) ggL_law_X12_nameLetter
set_option maxRecDepth 20000 in
theorem ggL_law_L_findStep : GoodIn wsN_law wsNL_findStep := goodIn_ca (goodIn_r _ [828, 829, 830, 831, 832, 2, 833, 834, 835, 36, 25, 836, 228, 229, 71, 230, 221, 91, 231, 232, 233, 234, 90, 1569, 1570, 1571, 1572, 1573, 1574, 1575, 1576, 1577, 1578, 1579, 1630, 1631, 1632, 1633, 1634, 1608, 1609, 1610, 1611, 1612, 1613, 1614, 1615, 1616, 1617, 1618, 1619, 1620, 1621, 1622, 1623, 1624, 1599, 1600, 1653, 1654, 1655] rfl (by decide +kernel)) (goodIn_sub (fun _ h => List.mem_append_right _ h) (by decide +kernel))
set_option maxRecDepth 20000 in
theorem gL_law_L_findStep : GoodIn wsN_law (va_wsS RL 254 yL_findStep wsNL_findStep) := goodIn_app (goodIn_of _ (by decide +kernel)) ggL_law_L_findStep
set_option maxRecDepth 20000 in
theorem ggL_law_X12_findStep : GoodIn wsN_law wsX12_findStep := goodIn_r _ [840, 330, 408, 409, 410, 5, 411, 326, 396, 397, 398, 399, 329, 443, 444, 445, 446, 335, 1580, 1581, 1582, 1583, 1584, 1585, 1586, 1587, 1588, 1589, 1590, 1591, 1592, 1593, 1594, 1595, 1596, 1597, 1598] rfl (by decide +kernel)
set_option maxRecDepth 20000 in
theorem gL_law_X12_findStep : GoodIn wsN_law (wsV RL 256 RX12 yX12_findStep wsX12_findStep) := goodIn_app (goodIn_of _ (by decide +kernel)) ggL_law_X12_findStep
set_option maxRecDepth 20000 in
theorem ggL_law_L_status : GoodIn wsN_law wsL_status := goodIn_ca (goodIn_r _ [843, 622, 844, 845, 846, 2, 847, 36, 690, 691, 692, 693, 631, 632, 465, 179, 180, 572, 573, 574, 45, 575, 308, 309, 310, 260, 261, 1569, 1570, 1571, 1572, 1573, 1574, 1575, 1576, 1577, 1578, 1579, 1630, 1631, 1632, 1633, 1634, 1608, 1609, 1610, 1611, 1612, 1613, 1614, 1615, 1616, 1617, 1618, 1619, 1620, 1621, 1622, 1623, 1624, 1653, 1654, 1655, 1638, 1639, 1640, 1641, 1642, 1643, 1644, 1645, 1646, 1647, 1648, 1649, 1650, 1651, 1652] rfl (by decide +kernel)) (goodIn_sub (fun _ h => List.mem_append_left _ (List.mem_append_right _ h)) (by decide +kernel))
set_option maxRecDepth 20000 in
theorem gL_law_L_status : GoodIn wsN_law (va_wsS RL 257 yL_status wsL_status) := goodIn_app (goodIn_of _ (by decide +kernel)) ggL_law_L_status
set_option maxRecDepth 20000 in
theorem ggL_law_X12_status : GoodIn wsN_law wsX12_status := goodIn_r _ [851, 698, 699, 700, 5, 701, 702, 703, 704, 705, 326, 377, 378, 379, 443, 444, 445, 446, 335, 561, 562, 563, 564, 1580, 1581, 1582, 1583, 1584, 1585, 1586, 1587, 1588, 1589, 1590, 1591, 1592, 1593, 1594, 1595, 1596, 1597, 1598] rfl (by decide +kernel)
set_option maxRecDepth 20000 in
theorem gL_law_X12_status : GoodIn wsN_law (wsV RL 259 RX12 yX12_status wsX12_status) := goodIn_app (goodIn_of _ (by decide +kernel)) ggL_law_X12_status
set_option maxRecDepth 20000 in
theorem ggL_law_L_remaining : GoodIn wsN_law wsL_remaining := goodIn_ca (goodIn_r _ [854, 622, 855, 856, 857, 2, 858, 36, 690, 691, 692, 693, 631, 632, 465, 179, 180, 1569, 1570, 1571, 1572, 1573, 1574, 1575, 1576, 1577, 1578, 1579, 1630, 1631, 1632, 1633, 1634, 1638, 1639, 1640, 1641, 1642, 1643, 1644, 1645, 1646, 1647, 1648, 1649, 1650, 1651, 1652, 1608, 1609, 1610, 1611, 1612, 1613, 1614, 1615, 1616, 1617, 1618, 1619, 1620, 1621, 1622, 1623, 1624, 1653, 1654, 1655] rfl (by decide +kernel)) (goodIn_sub (fun _ h => List.mem_append_left _ (List.mem_append_right _ h)) (by decide +kernel))
set_option maxRecDepth 20000 in
theorem gL_law_L_remaining : GoodIn wsN_law (va_wsS RL 260 yL_remaining wsL_remaining) := goodIn_app (goodIn_of _ (by decide +kernel)) ggL_law_L_remaining
set_option maxRecDepth 20000 in
theorem ggL_law_X12_remaining : GoodIn wsN_law wsX12_remaining := goodIn_r _ [862, 698, 699, 700, 5, 701, 702, 703, 704, 705, 326, 377, 378, 379, 443, 444, 445, 446, 335, 561, 562, 563, 564, 1580, 1581, 1582, 1583, 1584, 1585, 1586, 1587, 1588, 1589, 1590, 1591, 1592, 1593, 1594, 1595, 1596, 1597, 1598] rfl (by decide +kernel)
set_option maxRecDepth 20000 in
theorem gL_law_X12_remaining : GoodIn wsN_law (wsV RL 262 RX12 yX12_remaining wsX12_remaining) := goodIn_app (goodIn_of _ (by decide +kernel)) ggL_law_X12_remaining
set_option maxRecDepth 20000 in
theorem ggL_law_L_age : GoodIn wsN_law wsL_age := goodIn_ca (goodIn_r _ [865, 622, 866, 867, 868, 2, 869, 36, 690, 691, 692, 693, 631, 632, 465, 179, 180, 1569, 1570, 1571, 1572, 1573, 1574, 1575, 1576, 1577, 1578, 1579, 1630, 1631, 1632, 1633, 1634, 1638, 1639, 1640, 1641, 1642, 1643, 1644, 1645, 1646, 1647, 1648, 1649, 1650, 1651, 1652, 1608, 1609, 1610, 1611, 1612, 1613, 1614, 1615, 1616, 1617, 1618, 1619, 1620, 1621, 1622, 1623, 1624, 1653, 1654, 1655] rfl (by decide +kernel)) (goodIn_sub (fun _ h => List.mem_append_left _ (List.mem_append_right _ h)) (by decide +kernel))
set_option maxRecDepth 20000 in
theorem gL_law_L_age : GoodIn wsN_law (va_wsS RL 263 yL_age wsL_age) := goodIn_app (goodIn_of _ (by decide +kernel)) ggL_law_L_age
set_option maxRecDepth 20000 in
theorem ggL_law_X12_age : GoodIn wsN_law wsX12_age := goodIn_r _ [873, 698, 699, 700, 5, 701, 702, 703, 704, 705, 326, 377, 378, 379, 443, 444, 445, 446, 335, 561, 562, 563, 564, 1580, 1581, 1582, 1583, 1584, 1585, 1586, 1587, 1588, 1589, 1590, 1591, 1592, 1593, 1594, 1595, 1596, 1597, 1598] rfl (by decide +kernel)
set_option maxRecDepth 20000 in
theorem gL_law_X12_age : GoodIn wsN_law (wsV RL 265 RX12 yX12_age wsX12_age) := goodIn_app (goodIn_of _ (by decide +kernel)) ggL_law_X12_age
set_option maxRecDepth 20000 in
theorem ggL_law_L_startsOf : GoodIn wsN_law wsL_startsOf := goodIn_ca (goodIn_r _ [876, 622, 877, 878, 879, 2, 880, 36, 690, 691, 692, 693, 631, 632, 465, 179, 180, 1569, 1570, 1571, 1572, 1573, 1574, 1575, 1576, 1577, 1578, 1579, 1630, 1631, 1632, 1633, 1634, 1638, 1639, 1640, 1641, 1642, 1643, 1644, 1645, 1646, 1647, 1648, 1649, 1650, 1651, 1652, 1608, 1609, 1610, 1611, 1612, 1613, 1614, 1615, 1616, 1617, 1618, 1619, 1620, 1621, 1622, 1623, 1624, 1653, 1654, 1655] rfl (by decide +kernel)) (goodIn_sub (fun _ h => List.mem_append_left _ (List.mem_append_right _ h)) (by decide +kernel))
set_option maxRecDepth 20000 in
theorem gL_law_L_startsOf : GoodIn wsN_law (va_wsS RL 266 yL_startsOf wsL_startsOf) := goodIn_app (goodIn_of _ (by decide +kernel)) ggL_law_L_startsOf
set_option maxRecDepth 20000 in
theorem ggL_law_X12_startsOf : GoodIn wsN_law wsX12_startsOf := goodIn_r _ [884, 698, 699, 700, 5, 701, 702, 703, 704, 705, 326, 377, 378, 379, 443, 444, 445, 446, 335, 561, 562, 563, 564, 1580, 1581, 1582, 1583, 1584, 1585, 1586, 1587, 1588, 1589, 1590, 1591, 1592, 1593, 1594, 1595, 1596, 1597, 1598] rfl (by decide +kernel)
set_option maxRecDepth 20000 in
theorem gL_law_X12_startsOf : GoodIn wsN_law (wsV RL 268 RX12 yX12_startsOf wsX12_startsOf) := goodIn_app (goodIn_of _ (by decide +kernel)) ggL_law_X12_startsOf
set_option maxRecDepth 20000 in
theorem ggL_law_L_isTakenUp : GoodIn wsN_law wsL_isTakenUp := goodIn_ca (goodIn_r _ [887, 622, 888, 889, 890, 2, 891, 36, 690, 691, 692, 693, 631, 632, 465, 179, 180, 735, 260, 261, 892, 893, 894, 35, 895, 288, 284, 1569, 1570, 1571, 1572, 1573, 1574, 1575, 1576, 1577, 1578, 1579, 1630, 1631, 1632, 1633, 1634, 1638, 1639, 1640, 1641, 1642, 1643, 1644, 1645, 1646, 1647, 1648, 1649, 1650, 1651, 1652, 1608, 1609, 1610, 1611, 1612, 1613, 1614, 1615, 1616, 1617, 1618, 1619, 1620, 1621, 1622, 1623, 1624, 1653, 1654, 1655] rfl (by decide +kernel)) (goodIn_sub (fun _ h => List.mem_append_left _ (List.mem_append_right _ h)) (by decide +kernel))
set_option maxRecDepth 20000 in
theorem gL_law_L_isTakenUp : GoodIn wsN_law (va_wsS RL 269 yL_isTakenUp wsL_isTakenUp) := goodIn_app (goodIn_of _ (by decide +kernel)) ggL_law_L_isTakenUp
set_option maxRecDepth 20000 in
theorem ggL_law_X12_isTakenUp : GoodIn wsN_law wsX12_isTakenUp := goodIn_r _ [899, 702, 703, 704, 5, 705, 326, 377, 378, 379, 443, 444, 445, 446, 335, 900, 901, 902, 903, 561, 562, 563, 564, 675, 676, 677, 678, 679, 680, 681, 682, 1580, 1581, 1582, 1583, 1584, 1585, 1586, 1587, 1588, 1589, 1590, 1591, 1592, 1593, 1594, 1595, 1596, 1597, 1598] rfl (by decide +kernel)
set_option maxRecDepth 20000 in
theorem gL_law_X12_isTakenUp : GoodIn wsN_law (wsV RL 271 RX12 yX12_isTakenUp wsX12_isTakenUp) := goodIn_app (goodIn_of _ (by decide +kernel)) ggL_law_X12_isTakenUp
set_option maxRecDepth 20000 in
theorem ggL_law_X11_readyStep : GoodIn wsN_law wsX11_readyStep := goodIn_r _ [907, 36, 908, 909, 910, 35, 911, 288, 286, 912, 800, 801, 802, 285, 284, 803, 804, 805, 806, 260, 2, 261, 913, 914, 915, 916, 917, 918, 919, 24, 920, 76, 1569, 1570, 1571, 1572, 1573, 1574, 1575, 1576, 1577, 1578, 1579, 1630, 1631, 1632, 1633, 1634, 1608, 1609, 1610, 1611, 1612, 1613, 1614, 1615, 1616, 1617, 1618, 1619, 1620, 1621, 1622, 1623, 1624, 1653, 1654, 1655, 1638, 1639, 1640, 1641, 1642, 1643, 1644, 1645, 1646, 1647, 1648, 1649, 1650, 1651, 1652] rfl (by decide +kernel)
set_option maxRecDepth 20000 in
theorem gL_law_X11_readyStep : GoodIn wsN_law (wsV RL 272 RX11 yX11_readyStep wsX11_readyStep) := goodIn_app (goodIn_of _ (by decide +kernel)) ggL_law_X11_readyStep
set_option maxRecDepth 20000 in
theorem ggL_law_X12_readyStep : GoodIn wsN_law wsX12_readyStep := goodIn_r _ [924, 335, 339, 925, 926, 927, 5, 928, 326, 336, 811, 812, 813, 814, 679, 680, 681, 682, 561, 562, 563, 564, 929, 930, 931, 932, 933, 934, 935, 936, 377, 378, 379, 1580, 1581, 1582, 1583, 1584, 1585, 1586, 1587, 1588, 1589, 1590, 1591, 1592, 1593, 1594, 1595, 1596, 1597, 1598] rfl (by decide +kernel)
set_option maxRecDepth 20000 in
theorem gL_law_X12_readyStep : GoodIn wsN_law (wsV RL 275 RX12 yX12_readyStep wsX12_readyStep) := goodIn_app (goodIn_of _ (by decide +kernel)) ggL_law_X12_readyStep
set_option maxRecDepth 20000 in
theorem ggL_law_L_whyNotRunning : GoodIn wsN_law wsL_whyNotRunning := goodIn_ca (goodIn_r _ [939, 622, 940, 941, 942, 2, 943, 36, 690, 691, 692, 693, 631, 632, 465, 179, 180, 944, 945, 946, 35, 947, 284, 288, 260, 261, 948, 949, 950, 951, 952, 653, 654, 655, 953, 657, 658, 659, 660, 661, 662, 954, 955, 956, 957, 1569, 1570, 1571, 1572, 1573, 1574, 1575, 1576, 1577, 1578, 1579, 1630, 1631, 1632, 1633, 1634, 1608, 1609, 1610, 1611, 1612, 1613, 1614, 1615, 1616, 1617, 1618, 1619, 1620, 1621, 1622, 1623, 1624, 1653, 1654, 1655, 1638, 1639, 1640, 1641, 1642, 1643, 1644, 1645, 1646, 1647, 1648, 1649, 1650, 1651, 1652] rfl (by decide +kernel)) (goodIn_sub (fun _ h => List.mem_append_left _ (List.mem_append_right _ h)) (by decide +kernel))
set_option maxRecDepth 20000 in
theorem gL_law_L_whyNotRunning : GoodIn wsN_law (va_wsS RL 276 yL_whyNotRunning wsL_whyNotRunning) := goodIn_app (goodIn_of _ (by decide +kernel)) ggL_law_L_whyNotRunning
set_option maxRecDepth 20000 in
theorem ggL_law_X12_whyNotRunning : GoodIn wsN_law wsX12_whyNotRunning := goodIn_r _ [961, 702, 703, 704, 5, 705, 326, 377, 378, 379, 443, 444, 445, 446, 335, 962, 963, 964, 965, 561, 562, 563, 564, 933, 934, 935, 936, 966, 967, 968, 969, 667, 668, 669, 670, 671, 672, 673, 674, 675, 676, 677, 678, 679, 680, 681, 682, 641, 642, 643, 644, 970, 971, 972, 973, 974, 975, 976, 977, 1580, 1581, 1582, 1583, 1584, 1585, 1586, 1587, 1588, 1589, 1590, 1591, 1592, 1593, 1594, 1595, 1596, 1597, 1598] rfl (by decide +kernel)
set_option maxRecDepth 20000 in
theorem gL_law_X12_whyNotRunning : GoodIn wsN_law (wsV RL 278 RX12 yX12_whyNotRunning wsX12_whyNotRunning) := goodIn_app (goodIn_of _ (by decide +kernel)) ggL_law_X12_whyNotRunning
set_option maxRecDepth 20000 in
theorem ggL_law_L_blockingStep : GoodIn wsN_law wsL_blockingStep := goodIn_ca (goodIn_r _ [980, 622, 981, 982, 983, 2, 984, 36, 690, 691, 692, 693, 631, 632, 465, 179, 180, 985, 986, 987, 35, 988, 288, 284, 989, 945, 946, 947, 260, 261, 948, 949, 950, 951, 952, 653, 654, 655, 953, 657, 658, 659, 660, 661, 662, 954, 955, 956, 957, 990, 991, 992, 993, 994, 995, 735, 1569, 1570, 1571, 1572, 1573, 1574, 1575, 1576, 1577, 1578, 1579, 1630, 1631, 1632, 1633, 1634, 1608, 1609, 1610, 1611, 1612, 1613, 1614, 1615, 1616, 1617, 1618, 1619, 1620, 1621, 1622, 1623, 1624, 1653, 1654, 1655, 1638, 1639, 1640, 1641, 1642, 1643, 1644, 1645, 1646, 1647, 1648, 1649, 1650, 1651, 1652] rfl (by decide +kernel)) (goodIn_sub (fun _ h => List.mem_append_left _ (List.mem_append_right _ h)) (by decide +kernel))
set_option maxRecDepth 20000 in
theorem gL_law_L_blockingStep : GoodIn wsN_law (va_wsS RL 279 yL_blockingStep wsL_blockingStep) := goodIn_app (goodIn_of _ (by decide +kernel)) ggL_law_L_blockingStep
set_option maxRecDepth 20000 in
theorem ggL_law_X12_blockingStep : GoodIn wsN_law wsX12_blockingStep := goodIn_r _ [999, 702, 703, 704, 5, 705, 326, 377, 378, 379, 443, 444, 445, 446, 335, 1000, 1001, 1002, 1003, 962, 963, 964, 965, 561, 562, 563, 564, 933, 934, 935, 936, 966, 967, 968, 969, 667, 668, 669, 670, 671, 672, 673, 674, 675, 676, 677, 678, 679, 680, 681, 682, 641, 642, 643, 644, 970, 971, 972, 973, 974, 975, 976, 977, 1580, 1581, 1582, 1583, 1584, 1585, 1586, 1587, 1588, 1589, 1590, 1591, 1592, 1593, 1594, 1595, 1596, 1597, 1598] rfl (by decide +kernel)
set_option maxRecDepth 20000 in
theorem gL_law_X12_blockingStep : GoodIn wsN_law (wsV RL 281 RX12 yX12_blockingStep wsX12_blockingStep) := goodIn_app (goodIn_of _ (by decide +kernel)) ggL_law_X12_blockingStep
set_option maxRecDepth 20000 in
theorem ggL_law_L_rootBlocker : GoodIn wsN_law wsL_rootBlocker := goodIn_ca (goodIn_r _ [1006, 622, 1007, 1008, 1009, 2, 1010, 36, 690, 691, 692, 693, 631, 632, 465, 179, 180, 1011, 1012, 1013, 35, 1014, 989, 945, 946, 947, 284, 288, 260, 261, 948, 949, 950, 951, 952, 653, 654, 655, 953, 657, 658, 659, 660, 661, 662, 954, 955, 956, 957, 990, 991, 992, 993, 1569, 1570, 1571, 1572, 1573, 1574, 1575, 1576, 1577, 1578, 1579, 1630, 1631, 1632, 1633, 1634, 1608, 1609, 1610, 1611, 1612, 1613, 1614, 1615, 1616, 1617, 1618, 1619, 1620, 1621, 1622, 1623, 1624, 1653, 1654, 1655, 1638, 1639, 1640, 1641, 1642, 1643, 1644, 1645, 1646, 1647, 1648, 1649, 1650, 1651, 1652] rfl (by decide +kernel)) (goodIn_sub (fun _ h => List.mem_append_left _ (List.mem_append_right _ h)) (by decide +kernel))
set_option maxRecDepth 20000 in
theorem gL_law_L_rootBlocker : GoodIn wsN_law (va_wsS RL 282 yL_rootBlocker wsL_rootBlocker) := goodIn_app (goodIn_of _ (by decide +kernel)) ggL_law_L_rootBlocker
set_option maxRecDepth 20000 in
theorem ggL_law_X12_rootBlocker : GoodIn wsN_law wsX12_rootBlocker := goodIn_r _ [1018, 702, 703, 704, 5, 705, 326, 377, 378, 379, 443, 444, 445, 446, 335, 962, 963, 964, 965, 561, 562, 563, 564, 933, 934, 935, 936, 966, 967, 968, 969, 667, 668, 669, 670, 671, 672, 673, 674, 675, 676, 677, 678, 679, 680, 681, 682, 641, 642, 643, 644, 970, 971, 972, 973, 974, 975, 976, 977, 1580, 1581, 1582, 1583, 1584, 1585, 1586, 1587, 1588, 1589, 1590, 1591, 1592, 1593, 1594, 1595, 1596, 1597, 1598] rfl (by decide +kernel)
set_option maxRecDepth 20000 in
theorem gL_law_X12_rootBlocker : GoodIn wsN_law (wsV RL 284 RX12 yX12_rootBlocker wsX12_rootBlocker) := goodIn_app (goodIn_of _ (by decide +kernel)) ggL_law_X12_rootBlocker
set_option maxRecDepth 20000 in
theorem ggL_law_X11_whyNotServed : GoodIn wsN_law wsX11_whyNotServed := goodIn_r _ [1022, 36, 1023, 1024, 1025, 35, 1026, 284, 288, 917, 918, 919, 24, 920, 76, 1027, 550, 551, 552, 260, 2, 261, 1569, 1570, 1571, 1572, 1573, 1574, 1575, 1576, 1577, 1578, 1579, 1630, 1631, 1632, 1633, 1634, 1638, 1639, 1640, 1641, 1642, 1643, 1644, 1645, 1646, 1647, 1648, 1649, 1650, 1651, 1652, 1608, 1609, 1610, 1611, 1612, 1613, 1614, 1615, 1616, 1617, 1618, 1619, 1620, 1621, 1622, 1623, 1624, 1653, 1654, 1655] rfl (by decide +kernel)
set_option maxRecDepth 20000 in
theorem gL_law_X11_whyNotServed : GoodIn wsN_law (wsV RL 285 RX11 yX11_whyNotServed wsX11_whyNotServed) := goodIn_app (goodIn_of _ (by decide +kernel)) ggL_law_X11_whyNotServed
set_option maxRecDepth 20000 in
theorem ggL_law_X12_whyNotServed : GoodIn wsN_law wsX12_whyNotServed := goodIn_r _ [1031, 335, 1032, 1033, 1034, 5, 1035, 326, 580, 581, 582, 583, 561, 562, 563, 564, 1036, 1037, 1038, 1039, 557, 558, 559, 560, 1580, 1581, 1582, 1583, 1584, 1585, 1586, 1587, 1588, 1589, 1590, 1591, 1592, 1593, 1594, 1595, 1596, 1597, 1598] rfl (by decide +kernel)
set_option maxRecDepth 20000 in
theorem gL_law_X12_whyNotServed : GoodIn wsN_law (wsV RL 288 RX12 yX12_whyNotServed wsX12_whyNotServed) := goodIn_app (goodIn_of _ (by decide +kernel)) ggL_law_X12_whyNotServed
set_option maxRecDepth 20000 in
theorem ggL_law_X11_criticalStep : GoodIn wsN_law wsX11_criticalStep := goodIn_r _ [1043, 36, 1044, 1045, 1046, 35, 1047, 288, 179, 2, 180, 912, 800, 801, 802, 285, 284, 286, 803, 804, 805, 806, 260, 261, 917, 918, 919, 24, 920, 76, 1569, 1570, 1571, 1572, 1573, 1574, 1575, 1576, 1577, 1578, 1579, 1630, 1631, 1632, 1633, 1634, 1608, 1609, 1610, 1611, 1612, 1613, 1614, 1615, 1616, 1617, 1618, 1619, 1620, 1621, 1622, 1623, 1624, 1653, 1654, 1655, 1638, 1639, 1640, 1641, 1642, 1643, 1644, 1645, 1646, 1647, 1648, 1649, 1650, 1651, 1652] rfl (by decide +kernel)
set_option maxRecDepth 20000 in
theorem gL_law_X11_criticalStep : GoodIn wsN_law (wsV RL 289 RX11 yX11_criticalStep wsX11_criticalStep) := goodIn_app (goodIn_of _ (by decide +kernel)) ggL_law_X11_criticalStep
set_option maxRecDepth 20000 in
theorem ggL_law_X12_criticalStep : GoodIn wsN_law wsX12_criticalStep := goodIn_r _ [1051, 335, 326, 336, 811, 812, 813, 5, 814, 679, 680, 681, 682, 561, 562, 563, 564, 1580, 1581, 1582, 1583, 1584, 1585, 1586, 1587, 1588, 1589, 1590, 1591, 1592, 1593, 1594, 1595, 1596, 1597, 1598] rfl (by decide +kernel)
set_option maxRecDepth 20000 in
theorem gL_law_X12_criticalStep : GoodIn wsN_law (wsV RL 292 RX12 yX12_criticalStep wsX12_criticalStep) := goodIn_app (goodIn_of _ (by decide +kernel)) ggL_law_X12_criticalStep
set_option maxRecDepth 20000 in
theorem ggL_law_L_slack : GoodIn wsN_law wsL_slack := goodIn_ca (goodIn_r _ [1054, 622, 1055, 1056, 1057, 2, 1058, 36, 690, 691, 692, 693, 631, 632, 465, 179, 180, 1059, 1060, 1061, 35, 1062, 287, 288, 284, 1063, 1064, 1065, 1066, 285, 286, 912, 800, 801, 802, 803, 804, 805, 806, 260, 261, 1569, 1570, 1571, 1572, 1573, 1574, 1575, 1576, 1577, 1578, 1579, 1630, 1631, 1632, 1633, 1634, 1608, 1609, 1610, 1611, 1612, 1613, 1614, 1615, 1616, 1617, 1618, 1619, 1620, 1621, 1622, 1623, 1624, 1653, 1654, 1655, 1638, 1639, 1640, 1641, 1642, 1643, 1644, 1645, 1646, 1647, 1648, 1649, 1650, 1651, 1652] rfl (by decide +kernel)) (goodIn_sub (fun _ h => List.mem_append_left _ (List.mem_append_right _ h)) (by decide +kernel))
set_option maxRecDepth 20000 in
theorem gL_law_L_slack : GoodIn wsN_law (va_wsS RL 293 yL_slack wsL_slack) := goodIn_app (goodIn_of _ (by decide +kernel)) ggL_law_L_slack
set_option maxRecDepth 20000 in
theorem ggL_law_X12_slack : GoodIn wsN_law wsX12_slack := goodIn_r _ [1070, 336, 337, 702, 703, 704, 5, 705, 326, 377, 378, 379, 443, 444, 445, 446, 335, 811, 812, 813, 814, 679, 680, 681, 682, 561, 562, 563, 564, 1071, 1072, 1073, 1074, 1075, 1076, 1077, 1078, 1580, 1581, 1582, 1583, 1584, 1585, 1586, 1587, 1588, 1589, 1590, 1591, 1592, 1593, 1594, 1595, 1596, 1597, 1598] rfl (by decide +kernel)
set_option maxRecDepth 20000 in
theorem gL_law_X12_slack : GoodIn wsN_law (wsV RL 295 RX12 yX12_slack wsX12_slack) := goodIn_app (goodIn_of _ (by decide +kernel)) ggL_law_X12_slack
set_option maxRecDepth 20000 in
theorem ggL_law_X11_minutesToFinish : GoodIn wsN_law wsX11_minutesToFinish := goodIn_r _ [1082, 37, 36, 1083, 1084, 1085, 35, 1086, 288, 284, 1087, 1088, 1089, 45, 1090, 302, 303, 304, 305, 306, 307, 308, 309, 310, 292, 311, 312, 313, 314, 293, 294, 295, 296, 297, 1091, 1092, 1093, 1094, 912, 800, 801, 802, 285, 286, 803, 804, 805, 806, 260, 2, 261, 917, 918, 919, 24, 920, 76, 1095, 1096, 1097, 1098, 1099, 1100, 1101, 1102, 953, 657, 658, 659, 660, 661, 662, 1103, 1104, 1105, 1106, 1107, 1108, 1109, 1110, 1111, 893, 894, 895, 1112, 1113, 1114, 1115, 1116, 1117, 1118, 1119, 913, 914, 915, 916, 954, 955, 956, 957, 948, 949, 950, 951, 952, 653, 654, 655, 1120, 1121, 1122, 1123, 1569, 1570, 1571, 1572, 1573, 1574, 1575, 1576, 1577, 1578, 1579, 1630, 1631, 1632, 1633, 1634, 1638, 1639, 1640, 1641, 1642, 1643, 1644, 1645, 1646, 1647, 1648, 1649, 1650, 1651, 1652, 1608, 1609, 1610, 1611, 1612, 1613, 1614, 1615, 1616, 1617, 1618, 1619, 1620, 1621, 1622, 1623, 1624, 1653, 1654, 1655] rfl (by decide +kernel)
set_option maxRecDepth 20000 in
theorem gL_law_X11_minutesToFinish : GoodIn wsN_law (wsV RL 296 RX11 yX11_minutesToFinish wsX11_minutesToFinish) := goodIn_app (goodIn_of _ (by decide +kernel)) ggL_law_X11_minutesToFinish
set_option maxRecDepth 20000 in
theorem ggL_law_X12_minutesToFinish : GoodIn wsN_law wsX12_minutesToFinish := goodIn_r _ [1127, 335, 489, 490, 491, 5, 492, 326, 1128, 1129, 1130, 1131, 1036, 1037, 1038, 1039, 580, 581, 582, 583, 561, 562, 563, 564, 1132, 1133, 1134, 1135, 339, 1136, 1137, 1138, 1139, 1140, 1141, 1142, 1143, 1144, 1145, 1146, 1147, 900, 901, 902, 903, 675, 676, 677, 678, 679, 680, 681, 682, 925, 926, 927, 928, 336, 811, 812, 813, 814, 929, 930, 931, 932, 933, 934, 935, 936, 1148, 1149, 1150, 1151, 970, 971, 972, 973, 974, 975, 976, 977, 966, 967, 968, 969, 667, 668, 669, 670, 671, 672, 673, 674, 641, 642, 643, 644, 1580, 1581, 1582, 1583, 1584, 1585, 1586, 1587, 1588, 1589, 1590, 1591, 1592, 1593, 1594, 1595, 1596, 1597, 1598] rfl (by decide +kernel)
set_option maxRecDepth 20000 in
theorem gL_law_X12_minutesToFinish : GoodIn wsN_law (wsV RL 299 RX12 yX12_minutesToFinish wsX12_minutesToFinish) := goodIn_app (goodIn_of _ (by decide +kernel)) ggL_law_X12_minutesToFinish
set_option maxRecDepth 20000 in
theorem ggL_law_L_statusAfter : GoodIn wsN_law wsL_statusAfter := goodIn_ca (goodIn_ca (goodIn_r _ [1154, 622, 1155, 1156, 1157, 2, 1158, 463, 464, 37, 36, 690, 691, 692, 693, 631, 632, 465, 179, 180, 1083, 1084, 1085, 35, 1086, 288, 284, 1087, 1088, 1089, 45, 1090, 302, 303, 304, 305, 306, 307, 308, 309, 310, 292, 311, 312, 313, 314, 293, 294, 295, 296, 297, 1159, 1160, 1161, 1162, 912, 800, 801, 802, 285, 286, 803, 804, 805, 806, 260, 261, 1095, 1096, 1097, 1098, 1099, 1100, 1101, 1102, 953, 657, 658, 659, 660, 661, 662, 1103, 1104, 1105, 1106, 1107, 1108, 1109, 1110, 1111, 893, 894, 895, 1112, 1113, 1114, 1115, 1116, 1117, 1118, 1119, 913, 914, 915, 916, 917, 918, 919, 24, 920, 76, 954, 955, 956, 957, 948, 949, 950, 951, 952, 653, 654, 655, 1120, 1121, 1122, 1123, 572, 573, 574, 575, 1569, 1570, 1571, 1572, 1573, 1574, 1575, 1576, 1577, 1578, 1579, 1630, 1631, 1632, 1633, 1634, 1608, 1609, 1610, 1611, 1612, 1613, 1614, 1615, 1616, 1617, 1618, 1619, 1620, 1621, 1622, 1623, 1624, 1653, 1654, 1655, 1638, 1639, 1640, 1641, 1642, 1643, 1644, 1645, 1646, 1647, 1648, 1649, 1650, 1651, 1652] rfl (by decide +kernel)) (goodIn_sub (fun _ h => List.mem_append_left _ (List.mem_append_left _ (List.mem_append_right _ h))) (by decide +kernel))) (goodIn_sub (fun _ h => List.mem_append_left _ (List.mem_append_right _ h)) (by decide +kernel))
set_option maxRecDepth 20000 in
theorem gL_law_L_statusAfter : GoodIn wsN_law (va_wsS RL 300 yL_statusAfter wsLx_statusAfter) := goodIn_app (goodIn_of _ (by decide +kernel)) (goodIn_app ggL_law_L_statusAfter (goodIn_of _ (by decide +kernel)))
