def fl_sb : List Cond := [.selects "java/lang/StringBuilder" ⟨"java/lang/AbstractStringBuilder", "ensureCapacityInternal", "(I)V"⟩ ⟨"java/lang/AbstractStringBuilder", "ensureCapacityInternal", "(I)V"⟩, .selects "java/lang/StringBuilder" ⟨"java/lang/AbstractStringBuilder", "newCapacity", "(I)I"⟩ ⟨"java/lang/AbstractStringBuilder", "newCapacity", "(I)I"⟩, .selects "java/lang/StringBuilder" ⟨"java/lang/AbstractStringBuilder", "inflate", "()V"⟩ ⟨"java/lang/AbstractStringBuilder", "inflate", "()V"⟩]
def fl_tbl : List Cond := lw_tbl ++ fl_sb
theorem fl_pos {L T : List Cond} (ps : List Nat) (h : ps.map (fun i => T[i]?) = L.map some) : ∀ w ∈ L, w ∈ T := by
  intro w hw
  have q : some w ∈ L.map some := List.mem_map.mpr ⟨w, hw, rfl⟩
  rw [← h] at q
  obtain ⟨i, _, hi⟩ := List.mem_map.mp q
  exact List.mem_of_getElem? hi
set_option maxRecDepth 20000 in
theorem wl_wsL_law0_r1 : ∀ w ∈ wsL_law0_r1, w ∈ fl_tbl := fl_pos [118, 119, 87, 1203, 1204, 95, 1987, 1988, 120, 121, 122, 123, 124, 125, 126, 352, 128, 129, 88, 353, 205, 206, 90, 354] (by decide +kernel)
set_option maxRecDepth 20000 in
theorem wl_wsL_law0_r2 : ∀ w ∈ wsL_law0_r2, w ∈ fl_tbl := fl_pos [220, 221, 91, 355, 262, 263, 92, 356, 275, 276, 93, 357, 325, 326, 94, 358, 359, 360, 361, 135, 89, 131, 132, 133] (by decide +kernel)
set_option maxRecDepth 20000 in
theorem wl_wsL_law0_r3 : ∀ w ∈ wsL_law0_r3, w ∈ fl_tbl := fl_pos [187, 189, 134, 194, 136, 137, 138, 139, 140, 188, 145, 152, 158, 163, 164, 165, 208, 209, 210, 211, 223, 224, 225, 226] (by decide +kernel)
set_option maxRecDepth 20000 in
theorem wl_wsL_law0_r4 : ∀ w ∈ wsL_law0_r4, w ∈ fl_tbl := fl_pos [228, 229, 230, 231, 232, 233, 236, 239, 265, 266, 267, 268, 278, 279, 280, 281, 285, 288, 291, 293, 295, 298, 300, 282] (by decide +kernel)
set_option maxRecDepth 20000 in
theorem wl_wsL_law0_r5 : ∀ w ∈ wsL_law0_r5, w ∈ fl_tbl := fl_pos [328, 329, 330, 331, 335, 333, 336, 338, 340, 334, 351, 1205, 1206, 1207, 1208, 1209, 1211, 96, 1249, 1251, 1255, 1256, 1257, 1238] (by decide +kernel)
set_option maxRecDepth 20000 in
theorem wl_wsL_law0_r6 : ∀ w ∈ wsL_law0_r6, w ∈ fl_tbl := fl_pos [1258, 1259, 1260, 1261, 1262, 1263, 1265, 1266, 1267, 1268, 1269, 1270, 1271, 1239, 1274, 1276, 1213, 1214, 1215, 1216, 1218, 1220, 1222, 1243] (by decide +kernel)
set_option maxRecDepth 20000 in
theorem wl_wsL_law0_r7 : ∀ w ∈ wsL_law0_r7, w ∈ fl_tbl := fl_pos [45, 1244, 1224, 1245, 1247, 46, 1248, 429, 430, 86, 431, 432, 433, 434, 435, 436, 441, 100, 191, 437, 438, 439, 440, 190] (by decide +kernel)
set_option maxRecDepth 20000 in
theorem wl_wsL_law0_r8 : ∀ w ∈ wsL_law0_r8, w ∈ fl_tbl := fl_pos [1347, 1348, 1349, 1350, 1250, 1252, 1351, 1353, 47, 1354, 1343, 1344, 1345, 1346, 511, 512, 513, 514, 515, 516, 517, 518, 519, 576] (by decide +kernel)
set_option maxRecDepth 20000 in
theorem wl_wsL_law0_r9 : ∀ w ∈ wsL_law0_r9, w ∈ fl_tbl := fl_pos [102, 193, 195, 169, 520, 522, 3, 523, 524, 101, 540, 541, 542, 543, 192, 171, 544, 546, 4, 547, 548, 550, 5, 551] (by decide +kernel)
set_option maxRecDepth 20000 in
theorem wl_wsL_law0_r10 : ∀ w ∈ wsL_law0_r10, w ∈ fl_tbl := fl_pos [392, 393, 553, 554, 555, 556, 557, 559, 6, 560, 149, 561, 405, 406, 407, 562, 564, 7, 565, 155, 567, 568, 569, 571] (by decide +kernel)
set_option maxRecDepth 20000 in
theorem wl_wsL_law0_r11 : ∀ w ∈ wsL_law0_r11, w ∈ fl_tbl := fl_pos [8, 572, 160, 574, 575, 592, 593, 594, 595, 596, 598, 597, 103, 1355, 1356, 1357, 1358, 1253, 1254, 1359, 1360, 1361, 1362, 1363] (by decide +kernel)
set_option maxRecDepth 20000 in
theorem wl_wsL_law0_r12 : ∀ w ∈ wsL_law0_r12, w ∈ fl_tbl := fl_pos [1364, 1365, 1367, 48, 1368, 1369, 1371, 49, 1372, 1373, 1375, 50, 1376, 1377, 1379, 51, 1380, 1383, 52, 1384, 1385, 1387, 53, 1388] (by decide +kernel)
set_option maxRecDepth 20000 in
theorem wl_wsL_law0_r13 : ∀ w ∈ wsL_law0_r13, w ∈ fl_tbl := fl_pos [1391, 54, 1392, 599, 600, 601, 602, 603, 604, 605, 606, 607, 104, 1393, 1394, 1395, 1396, 623, 624, 625, 626, 627, 628, 629] (by decide +kernel)
set_option maxRecDepth 20000 in
theorem wl_wsL_law0_r14 : ∀ w ∈ wsL_law0_r14, w ∈ fl_tbl := fl_pos [214, 630, 631, 632, 633, 170, 634, 635, 636, 637, 638, 639, 640, 641, 213, 642, 644, 9, 645, 646, 648, 10, 649, 142] (by decide +kernel)
set_option maxRecDepth 20000 in
theorem wl_wsL_law0_r15 : ∀ w ∈ wsL_law0_r15, w ∈ fl_tbl := fl_pos [148, 154, 650, 651, 652, 653, 1397, 1398, 1399, 1400, 1401, 1402, 106, 1403, 1404, 1405, 1406, 1407, 105, 1408, 1409, 1410, 510, 1419] (by decide +kernel)
set_option maxRecDepth 20000 in
theorem wl_wsL_law0_r16 : ∀ w ∈ wsL_law0_r16, w ∈ fl_tbl := fl_pos [1420, 1412, 1413, 108, 1414, 1415, 1416, 1417, 1418, 1432, 1434, 55, 1435, 1436, 1437, 1438, 1439, 1440, 1990, 1431, 1441, 1442, 1422, 1443] (by decide +kernel)
set_option maxRecDepth 20000 in
theorem wl_wsL_law0_r17 : ∀ w ∈ wsL_law0_r17, w ∈ fl_tbl := fl_pos [1991, 2018, 1445, 1446, 1447, 1992, 2019, 1449, 1450, 1461, 1451, 1452, 109, 1453, 1454, 1455, 110, 1456, 1457, 1458, 1459, 1460, 1462, 1463] (by decide +kernel)
set_option maxRecDepth 20000 in
theorem wl_wsL_law0_r18 : ∀ w ∈ wsL_law0_r18, w ∈ fl_tbl := fl_pos [111, 1464, 1465, 1466, 1467, 1468, 1469, 1471, 1472, 924, 925, 1473, 1474, 1476, 1477, 1475, 1478, 1479, 1480, 112, 1481, 1482, 1993, 2020] (by decide +kernel)
set_option maxRecDepth 20000 in
theorem wl_wsL_law0_r19 : ∀ w ∈ wsL_law0_r19, w ∈ fl_tbl := fl_pos [1484, 1485, 1486, 1487, 1488, 1489, 1490, 1491, 1492, 1493, 1494, 1495, 1496, 1497, 1498, 1499, 107, 1500, 1501, 1503, 1504, 113, 1505, 1506] (by decide +kernel)
set_option maxRecDepth 20000 in
theorem wl_wsL_law0_r20 : ∀ w ∈ wsL_law0_r20, w ∈ fl_tbl := fl_pos [1507, 1508, 1509, 1511, 1513, 1515, 1516, 1517, 1518, 1519, 1520, 1521, 1522, 1523, 1524, 1525, 1526, 1527, 1528, 1529, 1530, 1531, 1994, 1532] (by decide +kernel)
set_option maxRecDepth 20000 in
theorem wl_wsL_law0_r21 : ∀ w ∈ wsL_law0_r21, w ∈ fl_tbl := fl_pos [1533, 1534, 1535, 115, 1536, 1537, 1538, 1539, 1540, 1542, 1544, 1545, 1546, 1547, 1548, 1549, 1550, 1551, 1552, 1553, 1554, 1555, 1556, 1557] (by decide +kernel)
set_option maxRecDepth 20000 in
theorem wl_wsL_law0_r22 : ∀ w ∈ wsL_law0_r22, w ∈ fl_tbl := fl_pos [1558, 1559, 1560, 1563, 56, 1564, 1567, 57, 1568, 1569, 1570, 1571, 1572, 1573, 1574, 1575, 1576, 1577, 1578, 1579, 1580, 1581, 1582, 1665] (by decide +kernel)
set_option maxRecDepth 20000 in
theorem wl_wsL_law0_r23 : ∀ w ∈ wsL_law0_r23, w ∈ fl_tbl := fl_pos [1664, 1633, 1421, 1583, 1585, 1586, 1584, 1587, 1588, 1590, 1589, 1591, 1592, 1593, 1594, 1589, 1595, 1596, 1597, 1598, 1599, 1600, 1601, 1602] (by decide +kernel)
set_option maxRecDepth 20000 in
theorem wl_wsL_law0_r24 : ∀ w ∈ wsL_law0_r24, w ∈ fl_tbl := fl_pos [1603, 1604, 1605, 1607, 1651, 1652, 1653, 1654, 1655, 1656, 1657, 1658, 1659, 1660, 1661, 1662, 1663, 1675, 1626, 1627, 1628, 1629, 1630, 1631] (by decide +kernel)
set_option maxRecDepth 20000 in
theorem wl_wsL_law0_r25 : ∀ w ∈ wsL_law0_r25, w ∈ fl_tbl := fl_pos [1632, 654, 655, 656, 657, 658, 659, 660, 305, 297, 661, 663, 11, 664, 284, 666, 667, 668, 669, 670, 671, 1676, 1677, 1678] (by decide +kernel)
set_option maxRecDepth 20000 in
theorem wl_wsL_law0_r26 : ∀ w ∈ wsL_law0_r26, w ∈ fl_tbl := fl_pos [1679, 1272, 1273, 672, 673, 674, 675, 676, 677, 678, 212, 1680, 1681, 1682, 1683, 1684, 1685, 1686, 1687, 1688, 1689, 1690, 1691, 1692] (by decide +kernel)
set_option maxRecDepth 20000 in
theorem wl_wsL_law0_r27 : ∀ w ∈ wsL_law0_r27, w ∈ fl_tbl := fl_pos [1693, 1694, 1695, 1696, 1697, 1698, 680, 681, 682, 683, 684, 685, 686, 687, 689, 12, 690, 691, 426, 427, 428, 693, 694, 695] (by decide +kernel)
set_option maxRecDepth 20000 in
theorem wl_wsL_law0_r28 : ∀ w ∈ wsL_law0_r28, w ∈ fl_tbl := fl_pos [696, 698, 700, 13, 701, 702, 704, 705, 706, 707, 708, 709, 710, 711, 712, 713, 714, 715, 716, 717, 718, 719, 720, 722] (by decide +kernel)
set_option maxRecDepth 20000 in
theorem wl_wsL_law0_r29 : ∀ w ∈ wsL_law0_r29, w ∈ fl_tbl := fl_pos [14, 723, 725, 1699, 1700, 1701, 1702, 1703, 1705, 58, 1706, 1707, 1709, 59, 1710, 1711, 1712, 1713, 1716, 60, 1717, 1720, 61, 1721] (by decide +kernel)
set_option maxRecDepth 20000 in
theorem wl_wsL_law0_r30 : ∀ w ∈ wsL_law0_r30, w ∈ fl_tbl := fl_pos [726, 727, 728, 729, 730, 731, 732, 733, 734, 116, 750, 751, 752, 753, 1723, 1724, 1725, 1726, 754, 755, 756, 757, 758, 759] (by decide +kernel)
set_option maxRecDepth 20000 in
theorem wl_wsL_law0_r31 : ∀ w ∈ wsL_law0_r31, w ∈ fl_tbl := fl_pos [760, 144, 761, 762, 763, 764, 1727, 1728, 1729, 1730, 765, 766, 767, 768, 769, 770, 771, 162, 151, 772, 395, 396, 775, 1731] (by decide +kernel)
set_option maxRecDepth 20000 in
theorem wl_wsL_law0_r32 : ∀ w ∈ wsL_law0_r32, w ∈ fl_tbl := fl_pos [1732, 1733, 1734, 777, 778, 779, 780, 781, 782, 783, 157, 784, 398, 399, 1735, 1736, 1737, 1738, 786, 787, 788, 789, 790, 791] (by decide +kernel)
set_option maxRecDepth 20000 in
theorem wl_wsL_law0_r33 : ∀ w ∈ wsL_law0_r33, w ∈ fl_tbl := fl_pos [792, 1739, 1740, 1741, 1742, 1743, 1745, 62, 1746, 793, 794, 795, 796, 797, 798, 799, 1747, 1748, 1749, 1750, 800, 801, 802, 803] (by decide +kernel)
set_option maxRecDepth 20000 in
theorem wl_wsL_law0_r34 : ∀ w ∈ wsL_law0_r34, w ∈ fl_tbl := fl_pos [804, 805, 806, 1751, 1752, 1753, 1754, 807, 808, 809, 810, 811, 812, 813, 1755, 1756, 1757, 1758, 814, 815, 816, 817, 818, 819] (by decide +kernel)
set_option maxRecDepth 20000 in
theorem wl_wsL_law0_r35 : ∀ w ∈ wsL_law0_r35, w ∈ fl_tbl := fl_pos [820, 1759, 1760, 1761, 1762, 821, 822, 823, 824, 825, 826, 827, 1763, 1764, 1765, 1766, 828, 829, 830, 831, 832, 833, 834, 1767] (by decide +kernel)
set_option maxRecDepth 20000 in
theorem wl_wsL_law0_r36 : ∀ w ∈ wsL_law0_r36, w ∈ fl_tbl := fl_pos [1768, 1769, 1770, 836, 837, 838, 839, 840, 841, 842, 843, 1771, 1772, 1773, 1774, 844, 845, 846, 847, 848, 849, 850, 851, 852] (by decide +kernel)
set_option maxRecDepth 20000 in
theorem wl_wsL_law0_r37 : ∀ w ∈ wsL_law0_r37, w ∈ fl_tbl := fl_pos [853, 854, 855, 1775, 1776, 1777, 1778, 1781, 63, 1782, 1783, 1784, 856, 857, 858, 859, 860, 861, 862, 863, 864, 865, 866, 867] (by decide +kernel)
set_option maxRecDepth 20000 in
theorem wl_wsL_law0_r38 : ∀ w ∈ wsL_law0_r38, w ∈ fl_tbl := fl_pos [868, 869, 870, 1785, 1786, 1787, 1788, 1789, 1790, 1791, 871, 872, 873, 874, 875, 876, 877, 1792, 1793, 1794, 1795, 1796, 1798, 64] (by decide +kernel)
set_option maxRecDepth 20000 in
theorem wl_wsL_law0_r39 : ∀ w ∈ wsL_law0_r39, w ∈ fl_tbl := fl_pos [1799, 879, 880, 881, 882, 883, 884, 885, 886, 1800, 1801, 1802, 1803, 888, 889, 890, 891, 892, 893, 894, 895, 896, 897, 898] (by decide +kernel)
set_option maxRecDepth 20000 in
theorem wl_wsL_law0_r40 : ∀ w ∈ wsL_law0_r40, w ∈ fl_tbl := fl_pos [167, 234, 235, 899, 900, 901, 902, 903, 904, 905, 906, 907, 909, 15, 910, 911, 913, 16, 914, 923, 915, 917, 17, 918] (by decide +kernel)
set_option maxRecDepth 20000 in
theorem wl_wsL_law0_r41 : ∀ w ∈ wsL_law0_r41, w ∈ fl_tbl := fl_pos [919, 921, 18, 922, 926, 928, 19, 929, 147, 930, 932, 20, 933, 935, 936, 1804, 1805, 1806, 1807, 1808, 1810, 65, 1811, 1812] (by decide +kernel)
set_option maxRecDepth 20000 in
theorem wl_wsL_law0_r42 : ∀ w ∈ wsL_law0_r42, w ∈ fl_tbl := fl_pos [1814, 66, 1815, 1816, 1817, 937, 938, 939, 940, 941, 942, 943, 945, 946, 947, 948, 166, 269, 949, 950, 951, 957, 952, 954] (by decide +kernel)
set_option maxRecDepth 20000 in
theorem wl_wsL_law0_r43 : ∀ w ∈ wsL_law0_r43, w ∈ fl_tbl := fl_pos [21, 955, 958, 960, 22, 961, 159, 146, 1818, 1819, 1820, 1821, 963, 964, 965, 966, 967, 968, 969, 1822, 1823, 1824, 1825, 970] (by decide +kernel)
set_option maxRecDepth 20000 in
theorem wl_wsL_law0_r44 : ∀ w ∈ wsL_law0_r44, w ∈ fl_tbl := fl_pos [971, 972, 973, 974, 975, 976, 977, 978, 979, 980, 237, 998, 240, 283, 981, 982, 983, 984, 985, 986, 987, 988, 989, 990] (by decide +kernel)
set_option maxRecDepth 20000 in
theorem wl_wsL_law0_r45 : ∀ w ∈ wsL_law0_r45, w ∈ fl_tbl := fl_pos [992, 23, 993, 994, 996, 24, 997, 999, 1001, 25, 1002, 303, 168, 1003, 1005, 26, 1006, 141, 153, 1007, 1009, 27, 1010, 1011] (by decide +kernel)
set_option maxRecDepth 20000 in
theorem wl_wsL_law0_r46 : ∀ w ∈ wsL_law0_r46, w ∈ fl_tbl := fl_pos [1013, 28, 1014, 1015, 1016, 1017, 1019, 29, 1020, 1021, 1023, 30, 1024, 1025, 1026, 1028, 31, 1029, 1826, 1827, 1828, 1829, 1264, 1830] (by decide +kernel)
set_option maxRecDepth 20000 in
theorem wl_wsL_law0_r47 : ∀ w ∈ wsL_law0_r47, w ∈ fl_tbl := fl_pos [1832, 67, 1833, 1834, 1836, 68, 1837, 1838, 1840, 69, 1841, 1842, 1844, 70, 1845, 1030, 1031, 1032, 1033, 1034, 1035, 1036, 1846, 1847] (by decide +kernel)
set_option maxRecDepth 20000 in
theorem wl_wsL_law0_r48 : ∀ w ∈ wsL_law0_r48, w ∈ fl_tbl := fl_pos [1848, 1849, 1850, 1852, 71, 1853, 1037, 1038, 1039, 1040, 1041, 1042, 1043, 1044, 1046, 32, 1047, 1854, 1855, 1856, 1857, 1858, 1860, 72] (by decide +kernel)
set_option maxRecDepth 20000 in
theorem wl_wsL_law0_r49 : ∀ w ∈ wsL_law0_r49, w ∈ fl_tbl := fl_pos [1861, 1049, 1050, 1051, 1052, 1053, 1054, 1055, 1862, 1863, 1864, 1865, 1056, 1057, 1058, 1059, 1060, 1061, 1062, 302, 1866, 1867, 1868, 1869] (by decide +kernel)
set_option maxRecDepth 20000 in
theorem wl_wsL_law0_r50 : ∀ w ∈ wsL_law0_r50, w ∈ fl_tbl := fl_pos [1064, 1065, 1066, 1067, 1068, 1069, 1070, 287, 292, 1870, 1871, 1872, 1873, 1072, 1073, 1074, 1075, 1076, 1077, 1078, 1079, 1080, 1081, 1082] (by decide +kernel)
set_option maxRecDepth 20000 in
theorem wl_wsL_law0_r51 : ∀ w ∈ wsL_law0_r51, w ∈ fl_tbl := fl_pos [1874, 1875, 1876, 1877, 1083, 1084, 1085, 1086, 1087, 1088, 1089, 1090, 1091, 1092, 1093, 1094, 1096, 33, 1097, 1098, 1099, 1878, 1879, 1880] (by decide +kernel)
set_option maxRecDepth 20000 in
theorem wl_wsL_law0_r52 : ∀ w ∈ wsL_law0_r52, w ∈ fl_tbl := fl_pos [1881, 1882, 1884, 73, 1885, 1100, 1101, 1102, 1103, 1104, 1105, 1106, 337, 290, 1107, 1108, 1109, 1110, 286, 1111, 1112, 1113, 1114, 1115] (by decide +kernel)
set_option maxRecDepth 20000 in
theorem wl_wsL_law0_r53 : ∀ w ∈ wsL_law0_r53, w ∈ fl_tbl := fl_pos [1116, 1117, 1119, 34, 1120, 304, 296, 1121, 1123, 35, 1124, 299, 238, 1126, 1127, 1128, 1129, 1130, 1131, 1132, 1134, 36, 1135, 1136] (by decide +kernel)
set_option maxRecDepth 20000 in
theorem wl_wsL_law0_r54 : ∀ w ∈ wsL_law0_r54, w ∈ fl_tbl := fl_pos [1138, 37, 1139, 1140, 1142, 38, 1143, 301, 143, 289, 156, 1144, 1146, 39, 1147, 1148, 1150, 40, 1151, 1152, 1154, 41, 1155, 1156] (by decide +kernel)
set_option maxRecDepth 20000 in
theorem wl_wsL_law0_r55 : ∀ w ∈ wsL_law0_r55, w ∈ fl_tbl := fl_pos [1158, 42, 1159, 161, 150, 1160, 1162, 43, 1163, 294, 1164, 1165, 1167, 44, 1168, 1169, 1170, 1171, 1172, 1173, 1174, 1175, 1176, 1177] (by decide +kernel)
set_option maxRecDepth 20000 in
theorem wl_wsL_law0_r56 : ∀ w ∈ wsL_law0_r56, w ∈ fl_tbl := fl_pos [1178, 1179, 1886, 1887, 1888, 1889, 1890, 1892, 74, 1893, 1275, 1277, 1279, 1894, 1895, 1896, 1897, 117, 1899, 1900, 1901, 1902, 1911, 1928] (by decide +kernel)
set_option maxRecDepth 20000 in
theorem wl_wsL_law0_r57 : ∀ w ∈ wsL_law0_r57, w ∈ fl_tbl := fl_pos [75, 1929, 1907, 1909, 1930, 1932, 76, 1933, 1934, 1936, 77, 1937, 1938, 1940, 78, 1941, 1944, 79, 1945, 1946, 1948, 80, 1949, 1950] (by decide +kernel)
set_option maxRecDepth 20000 in
theorem wl_wsL_law0_r58 : ∀ w ∈ wsL_law0_r58, w ∈ fl_tbl := fl_pos [1952, 81, 1953, 1954, 1956, 82, 1957, 1960, 83, 1961, 1904, 1962, 1964, 84, 1965, 1967, 1969, 85, 1970, 1180, 1181, 1182, 1183, 1184] (by decide +kernel)
set_option maxRecDepth 20000 in
theorem wl_wsL_law0_r59 : ∀ w ∈ wsL_law0_r59, w ∈ fl_tbl := fl_pos [1185, 1186, 339, 341, 1971, 1972, 1973, 1974, 1278, 1188, 1189, 1190, 1191, 1192, 1193, 1194, 1975, 1976, 1977, 1978, 1196, 1197, 1198, 1199] (by decide +kernel)
set_option maxRecDepth 20000 in
theorem wl_wsL_law0_r60 : ∀ w ∈ wsL_law0_r60, w ∈ fl_tbl := fl_pos [1200, 1201, 1202, 1979, 1980, 1981, 1982, 383, 384, 385, 386, 387, 388, 389, 390, 400, 402, 0, 403, 404, 408, 409, 410, 411] (by decide +kernel)
set_option maxRecDepth 20000 in
theorem wl_wsL_law0_r61 : ∀ w ∈ wsL_law0_r61, w ∈ fl_tbl := fl_pos [412, 413, 414, 415, 416, 417, 418, 419, 420, 421, 423, 1, 424, 425, 1983, 1984, 1985, 1986] (by decide +kernel)
theorem wl_wsX00 : ∀ w ∈ wsX00, w ∈ fl_tbl := by decide +kernel
theorem wl_wsX10 : ∀ w ∈ wsX10, w ∈ fl_tbl := by decide +kernel
theorem wl_wsX20 : ∀ w ∈ wsX20, w ∈ fl_tbl := by decide +kernel
theorem wl_wsX30 : ∀ w ∈ wsX30, w ∈ fl_tbl := by decide +kernel
theorem wl_wsX40 : ∀ w ∈ wsX40, w ∈ fl_tbl := by decide +kernel
theorem wl_wsX50 : ∀ w ∈ wsX50, w ∈ fl_tbl := by decide +kernel
theorem wl_wsX60 : ∀ w ∈ wsX60, w ∈ fl_tbl := by decide +kernel
theorem wl_wsX70 : ∀ w ∈ wsX70, w ∈ fl_tbl := by decide +kernel
theorem wl_wsX80 : ∀ w ∈ wsX80, w ∈ fl_tbl := by decide +kernel
theorem wl_wsX90 : ∀ w ∈ wsX90, w ∈ fl_tbl := by decide +kernel
theorem wl_wsX100 : ∀ w ∈ wsX100, w ∈ fl_tbl := by decide +kernel
theorem wl_wsJ50 : ∀ w ∈ wsJ50, w ∈ fl_tbl := by decide +kernel
theorem wl_wsJ60 : ∀ w ∈ wsJ60, w ∈ fl_tbl := by decide +kernel
theorem wl_wsJ90 : ∀ w ∈ wsJ90, w ∈ fl_tbl := by decide +kernel
theorem wl_wsJ00 : ∀ w ∈ wsJ00, w ∈ fl_tbl := by decide +kernel
theorem wl_wsJ40 : ∀ w ∈ wsJ40, w ∈ fl_tbl := by decide +kernel
theorem wl_wsJ10 : ∀ w ∈ wsJ10, w ∈ fl_tbl := by decide +kernel
theorem wl_wsJ20 : ∀ w ∈ wsJ20, w ∈ fl_tbl := by decide +kernel
theorem wl_wsJ100 : ∀ w ∈ wsJ100, w ∈ fl_tbl := by decide +kernel
theorem wl_wsJ70 : ∀ w ∈ wsJ70, w ∈ fl_tbl := by decide +kernel
theorem wl_wsJ80 : ∀ w ∈ wsJ80, w ∈ fl_tbl := by decide +kernel
theorem wl_wsJ30 : ∀ w ∈ wsJ30, w ∈ fl_tbl := by decide +kernel
theorem wl_law0 : ∀ w ∈ wsL_law0, w ∈ fl_tbl := (List.forall_mem_append.mpr ⟨(List.forall_mem_append.mpr ⟨(List.forall_mem_append.mpr ⟨(List.forall_mem_append.mpr ⟨(List.forall_mem_append.mpr ⟨(List.forall_mem_append.mpr ⟨(List.forall_mem_append.mpr ⟨(List.forall_mem_append.mpr ⟨(List.forall_mem_append.mpr ⟨(List.forall_mem_append.mpr ⟨(List.forall_mem_append.mpr ⟨(List.forall_mem_append.mpr ⟨(List.forall_mem_append.mpr ⟨(List.forall_mem_append.mpr ⟨(List.forall_mem_append.mpr ⟨wl_wsL_law0_r1, (List.forall_mem_append.mpr ⟨wl_wsL_law0_r2, (List.forall_mem_append.mpr ⟨wl_wsL_law0_r3, (List.forall_mem_append.mpr ⟨wl_wsL_law0_r4, (List.forall_mem_append.mpr ⟨wl_wsL_law0_r5, (List.forall_mem_append.mpr ⟨wl_wsL_law0_r6, (List.forall_mem_append.mpr ⟨wl_wsL_law0_r7, (List.forall_mem_append.mpr ⟨wl_wsL_law0_r8, (List.forall_mem_append.mpr ⟨wl_wsL_law0_r9, (List.forall_mem_append.mpr ⟨wl_wsL_law0_r10, (List.forall_mem_append.mpr ⟨wl_wsL_law0_r11, (List.forall_mem_append.mpr ⟨wl_wsL_law0_r12, (List.forall_mem_append.mpr ⟨wl_wsL_law0_r13, (List.forall_mem_append.mpr ⟨wl_wsL_law0_r14, (List.forall_mem_append.mpr ⟨wl_wsL_law0_r15, (List.forall_mem_append.mpr ⟨wl_wsL_law0_r16, (List.forall_mem_append.mpr ⟨wl_wsL_law0_r17, (List.forall_mem_append.mpr ⟨wl_wsL_law0_r18, (List.forall_mem_append.mpr ⟨wl_wsL_law0_r19, (List.forall_mem_append.mpr ⟨wl_wsL_law0_r20, (List.forall_mem_append.mpr ⟨wl_wsL_law0_r21, (List.forall_mem_append.mpr ⟨wl_wsL_law0_r22, (List.forall_mem_append.mpr ⟨wl_wsL_law0_r23, (List.forall_mem_append.mpr ⟨wl_wsL_law0_r24, (List.forall_mem_append.mpr ⟨wl_wsL_law0_r25, (List.forall_mem_append.mpr ⟨wl_wsL_law0_r26, (List.forall_mem_append.mpr ⟨wl_wsL_law0_r27, (List.forall_mem_append.mpr ⟨wl_wsL_law0_r28, (List.forall_mem_append.mpr ⟨wl_wsL_law0_r29, (List.forall_mem_append.mpr ⟨wl_wsL_law0_r30, (List.forall_mem_append.mpr ⟨wl_wsL_law0_r31, (List.forall_mem_append.mpr ⟨wl_wsL_law0_r32, (List.forall_mem_append.mpr ⟨wl_wsL_law0_r33, (List.forall_mem_append.mpr ⟨wl_wsL_law0_r34, (List.forall_mem_append.mpr ⟨wl_wsL_law0_r35, (List.forall_mem_append.mpr ⟨wl_wsL_law0_r36, (List.forall_mem_append.mpr ⟨wl_wsL_law0_r37, (List.forall_mem_append.mpr ⟨wl_wsL_law0_r38, (List.forall_mem_append.mpr ⟨wl_wsL_law0_r39, (List.forall_mem_append.mpr ⟨wl_wsL_law0_r40, (List.forall_mem_append.mpr ⟨wl_wsL_law0_r41, (List.forall_mem_append.mpr ⟨wl_wsL_law0_r42, (List.forall_mem_append.mpr ⟨wl_wsL_law0_r43, (List.forall_mem_append.mpr ⟨wl_wsL_law0_r44, (List.forall_mem_append.mpr ⟨wl_wsL_law0_r45, (List.forall_mem_append.mpr ⟨wl_wsL_law0_r46, (List.forall_mem_append.mpr ⟨wl_wsL_law0_r47, (List.forall_mem_append.mpr ⟨wl_wsL_law0_r48, (List.forall_mem_append.mpr ⟨wl_wsL_law0_r49, (List.forall_mem_append.mpr ⟨wl_wsL_law0_r50, (List.forall_mem_append.mpr ⟨wl_wsL_law0_r51, (List.forall_mem_append.mpr ⟨wl_wsL_law0_r52, (List.forall_mem_append.mpr ⟨wl_wsL_law0_r53, (List.forall_mem_append.mpr ⟨wl_wsL_law0_r54, (List.forall_mem_append.mpr ⟨wl_wsL_law0_r55, (List.forall_mem_append.mpr ⟨wl_wsL_law0_r56, (List.forall_mem_append.mpr ⟨wl_wsL_law0_r57, (List.forall_mem_append.mpr ⟨wl_wsL_law0_r58, (List.forall_mem_append.mpr ⟨wl_wsL_law0_r59, (List.forall_mem_append.mpr ⟨wl_wsL_law0_r60, wl_wsL_law0_r61⟩)⟩)⟩)⟩)⟩)⟩)⟩)⟩)⟩)⟩)⟩)⟩)⟩)⟩)⟩)⟩)⟩)⟩)⟩)⟩)⟩)⟩)⟩)⟩)⟩)⟩)⟩)⟩)⟩)⟩)⟩)⟩)⟩)⟩)⟩)⟩)⟩)⟩)⟩)⟩)⟩)⟩)⟩)⟩)⟩)⟩)⟩)⟩)⟩)⟩)⟩)⟩)⟩)⟩)⟩)⟩)⟩)⟩)⟩)⟩), wl_wsX70⟩), wl_wsX100⟩), wl_wsX40⟩), wl_wsX00⟩), wl_wsX10⟩), wl_wsX60⟩), wl_wsX30⟩), wl_wsX20⟩), wl_wsX50⟩), wl_wsX90⟩), wl_wsJ40⟩), wl_wsJ00⟩), wl_wsX80⟩), (fun _ h => absurd h List.not_mem_nil)⟩)
theorem wl_x0 : ∀ w ∈ (vx_atS RX7 77 "java/lang/IllegalStateException" ["java/lang/RuntimeException", "java/lang/Exception"]).filter goodWord, w ∈ fl_tbl := by decide +kernel
theorem wl_x1 : ∀ w ∈ (vx_atS RX7 98 "java/lang/IllegalArgumentException" ["java/lang/RuntimeException", "java/lang/Exception"]).filter goodWord, w ∈ fl_tbl := by decide +kernel
theorem wl_x2 : ∀ w ∈ (vx_atS RX7 142 "java/lang/IndexOutOfBoundsException" ["java/lang/RuntimeException", "java/lang/Exception"]).filter goodWord, w ∈ fl_tbl := by decide +kernel
theorem wl_x3 : ∀ w ∈ (fl_atS RX7 114 "java/util/NoSuchElementException" ["java/lang/RuntimeException", "java/lang/Exception"]).filter goodWord, w ∈ fl_tbl := by decide +kernel
theorem wl_x4 : ∀ w ∈ (vx_atS RX7 176 "java/lang/UnsupportedOperationException" ["java/lang/RuntimeException", "java/lang/Exception"]).filter goodWord, w ∈ fl_tbl := by decide +kernel
theorem wl_law : ∀ w ∈ wsL_law, w ∈ fl_tbl := (List.forall_mem_append.mpr ⟨(List.forall_mem_append.mpr ⟨(List.forall_mem_append.mpr ⟨(List.forall_mem_append.mpr ⟨(List.forall_mem_append.mpr ⟨wl_law0, wl_x0⟩), wl_x1⟩), wl_x2⟩), wl_x3⟩), wl_x4⟩)
theorem fl_sel {C : String} {y y0 : MethodName} {s : State} {args : Array Value} (hy : y.cls ≠ "java/lang/invoke/MethodHandle" ∧ y.cls ≠ "java/lang/invoke/VarHandle") (hc0 : y0.cls = y.cls)
    (hs : (Cond.selects C y0 y0).before args s = true) (hpriv : (Cond.privateMethod y).before args s = true) (hinst : (Cond.instanceMethod y).before args s = true) :
    (Cond.selects C y y).before args s = true := by
  obtain ⟨c, r, m0, g1, g2, g3, g4, kM, g5, g6⟩ := Cond.selects_spec hs
  obtain ⟨mk, methM, hnamed, hmethM, -, -⟩ := Cond.instanceMethod_spec hinst
  have hfound : s.methodFound? y.cls y.name y.desc = some mk := State.methodFound?_of_named hnamed hy
  have h0 : s.vm.findClass y.cls = some m0.cls := by
    rw [← hc0]
    exact findClass_of_methodNamed g3
  have e : mk.cls = m0.cls := Option.some.inj ((findClass_of_methodNamed hnamed).symm.trans h0)
  have hsel : selectMethod {} s.vm c mk = .method mk := selectMethod_private hmethM (Cond.privateMethod_at hpriv mk methM hnamed hmethM)
  simp only [Cond.before, Cond.holds, Cond.value, g1, hfound, hnamed, hsel, e, g5]
  simp
  exact g6
theorem fl_hts {args : Array Value} {s : State} (h : ∀ w ∈ lw_tbl, w.before args s = true) : ∀ w ∈ wsL_law, w.before args s = true := fun w hw => (List.mem_append.mp (wl_law w hw)).elim (h w) (fun hw => by
  simp only [fl_sb, List.mem_cons, List.not_mem_nil, or_false] at hw
  rcases hw with rfl | rfl | rfl
  · exact fl_sel (y0 := ⟨"java/lang/AbstractStringBuilder", "isLatin1", "()Z"⟩) ⟨by decide, by decide⟩ rfl (h _ (List.mem_of_getElem? (i := 1477) (by decide +kernel))) (h _ (List.mem_of_getElem? (i := 1444) (by decide +kernel))) (h _ (List.mem_of_getElem? (i := 1445) (by decide +kernel)))
  · exact fl_sel (y0 := ⟨"java/lang/AbstractStringBuilder", "isLatin1", "()Z"⟩) ⟨by decide, by decide⟩ rfl (h _ (List.mem_of_getElem? (i := 1477) (by decide +kernel))) (h _ (List.mem_of_getElem? (i := 1448) (by decide +kernel))) (h _ (List.mem_of_getElem? (i := 1449) (by decide +kernel)))
  · exact fl_sel (y0 := ⟨"java/lang/AbstractStringBuilder", "isLatin1", "()Z"⟩) ⟨by decide, by decide⟩ rfl (h _ (List.mem_of_getElem? (i := 1477) (by decide +kernel))) (h _ (List.mem_of_getElem? (i := 1483) (by decide +kernel))) (h _ (List.mem_of_getElem? (i := 1484) (by decide +kernel))))
