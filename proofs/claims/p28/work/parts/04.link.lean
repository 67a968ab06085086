/-! what the tables say of every link of the program, by places in lw_tbl -/
def lMinf0 : List (Nat × Nat × Nat × Nat × Nat) := [(295, 294, 0, 143, 0), (1450, 1448, 1449, 143, 1), (1421, 1419, 1420, 143, 2), (547, 546, 0, 148, 2), (987, 985, 986, 148, 1), (992, 991, 25, 148, 1), (1062, 1060, 1061, 148, 1), (1075, 1073, 1074, 148, 1), (1066, 1065, 29, 148, 1), (1083, 1081, 1082, 148, 2), (1091, 1089, 1090, 148, 2), (1099, 1097, 1098, 148, 1), (1164, 1162, 1163, 148, 2), (1168, 1167, 34, 148, 0), (1172, 1171, 35, 148, 1), (1135, 1133, 1134, 148, 1), (1139, 1138, 31, 148, 2), (1148, 1147, 32, 148, 2), (1153, 1152, 33, 148, 2), (172, 171, 0, 139, 0)]
def lMinf1 : List (Nat × Nat × Nat × Nat × Nat) := [(1436, 1434, 1435, 139, 1), (671, 669, 670, 139, 2), (275, 274, 0, 142, 0), (1446, 1444, 1445, 142, 1), (996, 994, 995, 142, 1), (1181, 1179, 1180, 142, 1), (528, 527, 0, 147, 2), (950, 949, 0, 147, 2), (1007, 1005, 1006, 147, 1), (1234, 1232, 1233, 147, 1), (1411, 1409, 1410, 147, 2), (1417, 1415, 1416, 147, 2), (1426, 1424, 1425, 147, 1), (1016, 1015, 26, 147, 1), (1026, 1025, 27, 147, 1), (1035, 1034, 28, 147, 2), (1038, 1037, 0, 147, 3), (1041, 1040, 0, 147, 1), (178, 177, 0, 140, 0), (1440, 1438, 1439, 140, 1)]
def lMinf2 : List (Nat × Nat × Nat × Nat × Nat) := [(691, 689, 690, 140, 1), (1111, 1109, 1110, 140, 1), (687, 685, 686, 140, 2), (1123, 1121, 1122, 140, 2), (679, 677, 678, 140, 4), (683, 682, 0, 140, 3), (700, 698, 699, 140, 3), (1031, 1029, 1030, 140, 1), (1127, 1125, 1126, 140, 2), (1119, 1117, 1118, 140, 3), (1224, 1222, 1223, 140, 2), (1115, 1114, 30, 140, 1), (1107, 1105, 1106, 140, 2), (1262, 1260, 1261, 140, 1), (1250, 1248, 1249, 140, 1), (1383, 1381, 1382, 140, 2), (563, 562, 0, 149, 1), (1246, 1244, 1245, 149, 1), (1253, 1252, 0, 149, 5), (1282, 1280, 1281, 149, 1)]
def lMinf3 : List (Nat × Nat × Nat × Nat × Nat) := [(1271, 1269, 1270, 149, 3), (1275, 1274, 37, 149, 2), (1323, 1321, 1322, 149, 2), (1327, 1326, 40, 149, 1), (1297, 1295, 1296, 149, 1), (1306, 1304, 1305, 149, 1), (1311, 1310, 38, 149, 2), (1315, 1314, 39, 149, 0), (593, 592, 0, 150, 1), (1209, 1207, 1208, 150, 2), (1214, 1213, 36, 150, 2), (1335, 1333, 1334, 150, 1), (1339, 1338, 41, 150, 4), (1343, 1342, 42, 150, 0), (1352, 1350, 1351, 150, 1), (1356, 1355, 43, 150, 4), (1366, 1364, 1365, 150, 1), (1371, 1370, 44, 150, 3), (1375, 1374, 45, 150, 1), (1395, 1393, 1394, 150, 2)]
def lMinf4 : List (Nat × Nat × Nat × Nat × Nat) := [(1399, 1398, 46, 150, 1), (1403, 1402, 47, 150, 1), (488, 487, 0, 146, 1), (724, 722, 723, 146, 1), (872, 871, 6, 146, 1), (864, 863, 4, 146, 0), (927, 926, 15, 146, 1), (904, 903, 11, 146, 1), (923, 922, 14, 146, 1), (954, 953, 20, 146, 1), (868, 867, 5, 146, 0), (884, 883, 7, 146, 1), (919, 918, 13, 146, 1), (888, 887, 8, 146, 0), (892, 891, 9, 146, 1), (896, 895, 10, 146, 2), (908, 907, 12, 146, 1), (958, 957, 21, 146, 1), (962, 961, 22, 146, 2), (966, 965, 23, 146, 0)]
def lMinf5 : List (Nat × Nat × Nat × Nat × Nat) := [(931, 930, 16, 146, 2), (935, 934, 17, 146, 2), (939, 938, 18, 146, 2), (947, 946, 19, 146, 1), (227, 226, 0, 141, 0), (1000, 998, 999, 141, 1), (1012, 1010, 1011, 141, 1), (1021, 1019, 1020, 141, 0), (1103, 1101, 1102, 141, 0), (1049, 1047, 1048, 141, 1), (452, 451, 0, 145, 0), (708, 706, 707, 145, 1), (712, 710, 711, 145, 1), (732, 730, 731, 145, 0), (736, 735, 1, 145, 1), (796, 795, 3, 145, 4), (743, 742, 2, 145, 2), (739, 738, 0, 145, 1), (799, 798, 0, 145, 1), (395, 394, 0, 144, 0)]
def lMinf6 : List (Nat × Nat × Nat × Nat × Nat) := [(728, 726, 727, 144, 0), (876, 874, 875, 144, 1), (880, 878, 879, 144, 1), (943, 941, 942, 144, 1), (900, 898, 899, 144, 2), (164, 163, 0, 138, 0), (664, 662, 663, 138, 2), (675, 673, 674, 138, 3), (695, 693, 694, 138, 1), (704, 702, 703, 138, 5), (716, 714, 715, 138, 1), (720, 718, 719, 138, 0), (971, 969, 970, 138, 1), (975, 973, 974, 138, 1), (983, 981, 982, 138, 1), (1054, 1052, 1053, 138, 1), (1071, 1069, 1070, 138, 1), (1079, 1077, 1078, 138, 2), (1087, 1085, 1086, 138, 2), (1095, 1093, 1094, 138, 1)]
def lMinf7 : List (Nat × Nat × Nat × Nat × Nat) := [(1131, 1129, 1130, 138, 1), (1160, 1158, 1159, 138, 2), (1177, 1175, 1176, 138, 0), (1185, 1183, 1184, 138, 2), (1192, 1190, 1191, 138, 2), (1199, 1197, 1198, 138, 2), (1205, 1203, 1204, 138, 2), (1219, 1217, 1218, 138, 3), (1230, 1228, 1229, 138, 1), (1242, 1240, 1241, 138, 1), (1258, 1256, 1257, 138, 1), (1266, 1264, 1265, 138, 4), (1289, 1287, 1288, 138, 1), (1293, 1291, 1292, 138, 1), (1302, 1300, 1301, 138, 2), (1319, 1317, 1318, 138, 3), (1331, 1329, 1330, 138, 2), (1348, 1346, 1347, 138, 2), (1362, 1360, 1361, 138, 2), (1379, 1377, 1378, 138, 2)]
def lMinf8 : List (Nat × Nat × Nat × Nat × Nat) := [(1387, 1385, 1386, 138, 3), (1391, 1389, 1390, 138, 2), (1407, 1405, 1406, 138, 2), (1432, 1430, 1431, 138, 0), (1456, 1454, 1455, 138, 0), (1460, 1458, 1459, 138, 1), (979, 978, 24, 138, 1), (667, 666, 0, 138, 1), (1057, 1056, 0, 138, 1), (1285, 1284, 0, 138, 2), (1465, 1464, 0, 151, 0), (1469, 1468, 0, 151, 2), (1599, 1598, 0, 151, 3), (1602, 1601, 0, 151, 2), (1845, 1844, 0, 151, 1), (1596, 1595, 0, 151, 1), (1878, 1877, 0, 151, 1), (1988, 1987, 112, 151, 1), (1903, 1902, 97, 151, 1), (1838, 1837, 91, 151, 1)]
def lMinf9 : List (Nat × Nat × Nat × Nat × Nat) := [(1626, 1625, 52, 151, 2), (1622, 1621, 51, 151, 1), (1923, 1922, 102, 151, 1), (1856, 1855, 94, 151, 1), (1852, 1851, 93, 151, 1), (1593, 1591, 1592, 151, 2), (1618, 1617, 50, 151, 0), (1614, 1613, 49, 151, 1), (1610, 1609, 48, 151, 2), (1606, 1604, 1605, 151, 3), (1635, 1634, 53, 151, 0), (1630, 1628, 1629, 151, 1), (1911, 1910, 99, 151, 1), (1915, 1914, 100, 151, 2), (1643, 1642, 54, 151, 1), (1639, 1637, 1638, 151, 5), (1647, 1645, 1646, 151, 1), (1663, 1662, 57, 151, 1), (1670, 1669, 0, 151, 1), (1666, 1665, 0, 151, 1)]
def lMinf10 : List (Nat × Nat × Nat × Nat × Nat) := [(1659, 1658, 56, 151, 0), (1684, 1683, 0, 151, 3), (1681, 1680, 0, 151, 5), (1691, 1690, 0, 151, 4), (1694, 1693, 0, 151, 6), (1688, 1687, 60, 151, 1), (1765, 1764, 77, 151, 2), (1769, 1768, 78, 151, 1), (1773, 1772, 79, 151, 0), (1761, 1760, 76, 151, 1), (1785, 1784, 82, 151, 0), (1781, 1780, 81, 151, 0), (1789, 1788, 83, 151, 1), (1777, 1776, 80, 151, 0), (1753, 1752, 74, 151, 0), (1749, 1748, 73, 151, 0), (1757, 1756, 75, 151, 0), (1745, 1744, 72, 151, 0), (1801, 1800, 86, 151, 0), (1797, 1796, 85, 151, 0)]
def lMinf11 : List (Nat × Nat × Nat × Nat × Nat) := [(1793, 1792, 84, 151, 0), (1678, 1677, 59, 151, 0), (1698, 1697, 61, 151, 0), (1718, 1717, 66, 151, 3), (1710, 1709, 64, 151, 1), (1714, 1713, 65, 151, 1), (1706, 1705, 63, 151, 1), (1722, 1721, 67, 151, 1), (1736, 1735, 70, 151, 1), (1726, 1725, 68, 151, 1), (1731, 1730, 69, 151, 1), (1741, 1740, 71, 151, 2), (1702, 1701, 62, 151, 2), (1674, 1673, 58, 151, 0), (1655, 1654, 55, 151, 0), (1651, 1649, 1650, 151, 0), (1806, 1804, 1805, 151, 1), (1810, 1808, 1809, 151, 1), (1866, 1865, 0, 151, 1), (1863, 1862, 0, 151, 3)]
def lMinf12 : List (Nat × Nat × Nat × Nat × Nat) := [(1871, 1870, 0, 151, 3), (1860, 1859, 95, 151, 1), (1842, 1841, 92, 151, 1), (1848, 1847, 0, 151, 1), (1834, 1833, 90, 151, 1), (1826, 1825, 88, 151, 0), (1814, 1812, 1813, 151, 0), (1830, 1829, 89, 151, 0), (1822, 1821, 87, 151, 0), (1818, 1816, 1817, 151, 1), (1883, 1882, 96, 151, 1), (1875, 1873, 1874, 151, 1), (1887, 1885, 1886, 151, 1), (1891, 1889, 1890, 151, 2), (1895, 1893, 1894, 151, 2), (1927, 1926, 103, 151, 1), (1919, 1918, 101, 151, 3), (1907, 1906, 98, 151, 3), (1899, 1897, 1898, 151, 1), (1947, 1946, 107, 151, 2)]
def lMinf13 : List (Nat × Nat × Nat × Nat × Nat) := [(1954, 1953, 108, 151, 2), (1959, 1958, 109, 151, 2), (1965, 1964, 110, 151, 1), (1939, 1938, 105, 151, 1), (1943, 1942, 106, 151, 1), (1935, 1934, 104, 151, 1), (1931, 1929, 1930, 151, 1), (1972, 1971, 0, 151, 1), (1976, 1975, 111, 151, 2), (1969, 1967, 1968, 151, 2), (1980, 1978, 1979, 151, 2), (1984, 1982, 1983, 151, 2), (1992, 1990, 1991, 151, 2), (2000, 1999, 113, 151, 1), (1996, 1994, 1995, 151, 2), (2004, 2002, 2003, 151, 3), (2012, 2011, 114, 151, 1), (2008, 2006, 2007, 151, 1), (2021, 2020, 115, 151, 1), (2029, 2028, 117, 151, 2)]
def lMinf14 : List (Nat × Nat × Nat × Nat × Nat) := [(2025, 2024, 116, 151, 1), (2017, 2015, 2016, 151, 1), (2037, 2036, 118, 151, 1), (2033, 2031, 2032, 151, 1), (2045, 2044, 119, 151, 2), (2048, 2047, 0, 151, 1), (2051, 2050, 0, 151, 2), (2041, 2039, 2040, 151, 4), (2055, 2053, 2054, 151, 1), (2063, 2062, 120, 151, 1), (2059, 2057, 2058, 151, 1), (2071, 2070, 121, 151, 0), (2075, 2074, 122, 151, 1), (2067, 2065, 2066, 151, 2), (2083, 2082, 123, 151, 2), (2079, 2077, 2078, 151, 3), (2103, 2102, 127, 151, 2), (2099, 2098, 126, 151, 0), (2095, 2094, 125, 151, 1), (2107, 2106, 128, 151, 1)]
def lMinf15 : List (Nat × Nat × Nat × Nat × Nat) := [(2091, 2090, 124, 151, 2), (2087, 2085, 2086, 151, 2), (2116, 2115, 129, 151, 2), (2111, 2109, 2110, 151, 2), (2124, 2123, 130, 151, 1), (2120, 2118, 2119, 151, 2), (2132, 2131, 131, 151, 2), (2128, 2126, 2127, 151, 2), (2136, 2134, 2135, 151, 3), (2148, 2147, 133, 151, 1), (2144, 2143, 132, 151, 3), (2140, 2138, 2139, 151, 2), (2160, 2159, 135, 151, 1), (2156, 2155, 134, 151, 1), (2164, 2163, 136, 151, 1), (2152, 2150, 2151, 151, 2), (2168, 2166, 2167, 151, 0), (2172, 2170, 2171, 151, 0), (2176, 2174, 2175, 151, 1), (912, 911, 0, 158, 1)]
def lMinf16 : List (Nat × Nat × Nat × Nat × Nat) := [(821, 820, 0, 156, 2), (802, 801, 0, 156, 2), (0, 0, 0, 0, 99), (748, 746, 747, 152, 0), (758, 756, 757, 152, 1), (807, 805, 806, 152, 1), (811, 809, 810, 152, 2), (752, 750, 751, 152, 0), (762, 760, 761, 152, 0), (768, 767, 0, 152, 2), (765, 764, 0, 153, 2), (818, 817, 0, 153, 1), (815, 814, 0, 153, 4), (825, 824, 0, 153, 4), (773, 772, 0, 154, 3)]
def lMinf : List (Nat × Nat × Nat × Nat × Nat) := lMinf0 ++ (lMinf1 ++ (lMinf2 ++ (lMinf3 ++ (lMinf4 ++ (lMinf5 ++ (lMinf6 ++ (lMinf7 ++ (lMinf8 ++ (lMinf9 ++ (lMinf10 ++ (lMinf11 ++ (lMinf12 ++ (lMinf13 ++ (lMinf14 ++ (lMinf15 ++ (lMinf16))))))))))))))))
def lFpos : List (List (Nat × Nat)) := [[(11, 297), (15, 300), (18, 304), (23, 308)],
  [(9, 549), (15, 325), (21, 550), (22, 551), (26, 233), (42, 331), (58, 248), (66, 231), (78, 245), (81, 254), (84, 324), (88, 335), (92, 241), (106, 298), (109, 302), (111, 306), (114, 198), (117, 309), (124, 238), (136, 399), (141, 401), (148, 404), (151, 410), (154, 414), (157, 412), (168, 407)],
  [(12, 319), (21, 326), (28, 330), (35, 333), (39, 337), (43, 342), (47, 348), (50, 354), (53, 357), (56, 360), (78, 340), (81, 345), (84, 351)],
  [(11, 283), (16, 280), (20, 282)],
  [(13, 532), (17, 533), (20, 530), (24, 531), (28, 328), (34, 338), (37, 230), (57, 244), (60, 249), (72, 323), (88, 187), (95, 190), (112, 253), (118, 334), (122, 305), (127, 235), (130, 301), (135, 193), (142, 343), (147, 417), (150, 420), (153, 424)],
  [(11, 185), (15, 189), (18, 192), (21, 196), (24, 197), (27, 200), (30, 202), (33, 180), (37, 183)],
  [(11, 566), (17, 568), (20, 569), (23, 571), (27, 572), (30, 565), (34, 320), (38, 201), (67, 570), (74, 346), (77, 349)],
  [(9, 596), (15, 598), (18, 600), (21, 606), (24, 595), (28, 327), (40, 252), (47, 321), (51, 186), (73, 181), (77, 601), (93, 194), (96, 602), (99, 604), (118, 607), (121, 608), (128, 352), (131, 361), (134, 358), (137, 355)],
  [(9, 490), (15, 491), (24, 497), (28, 499), (32, 501), (40, 492), (46, 493), (52, 495), (55, 460), (58, 462), (61, 468), (64, 494), (66, 464), (82, 398), (85, 496), (95, 416), (98, 422), (110, 419), (119, 409), (128, 403), (141, 406), (150, 466), (153, 456), (156, 458)],
  [(9, 237), (15, 243), (19, 247), (22, 251), (25, 229), (28, 234), (31, 240)],
  [(11, 457), (15, 461), (18, 463), (21, 465), (24, 467), (27, 454), (31, 459)],
  [(11, 400), (15, 402), (18, 405), (21, 408), (24, 411), (29, 413), (32, 415), (35, 418), (40, 423), (43, 397), (47, 421)],
  [(10, 630), (16, 631), (21, 632), (29, 633), (38, 634), (47, 635), (56, 636), (65, 637), (72, 638), (78, 639), (90, 322), (110, 455), (114, 341), (120, 498), (124, 500), (127, 502), (133, 344), (136, 329), (140, 236), (179, 332), (189, 281), (192, 246), (195, 250), (201, 255), (204, 339), (216, 188), (219, 191), (222, 195), (235, 199), (277, 347), (280, 350), (289, 567), (298, 597), (304, 599), (310, 603), (313, 605), (316, 182), (322, 353), (325, 356), (328, 359), (331, 362), (337, 242), (342, 336), (345, 299), (348, 303), (350, 307), (367, 184), (370, 239), (373, 232)],
  [(7, 1470), (13, 1471), (16, 1472), (19, 1473), (22, 1475), (25, 1477), (28, 1479), (32, 1480), (35, 1488), (38, 1494), (41, 1495), (45, 1496), (49, 1497), (52, 1498), (55, 1499), (58, 1500), (61, 1502), (64, 1503), (67, 1504), (70, 1505), (101, 1474), (114, 1476), (122, 1478), (129, 1481), (135, 1482), (138, 1483), (144, 1484), (151, 1485), (163, 1486), (166, 1487), (169, 1489), (172, 1491), (176, 1490), (194, 1492), (286, 1493), (440, 1501), (481, 1506), (484, 1507)],
  [],
  [],
  [],
  [],
  [],
  []]
def lMpos : List (List (Nat × Nat)) := [[(3, 296), (26, 1451)],
  [(3, 548), (32, 988), (38, 989), (46, 993), (52, 1004), (62, 1046), (69, 1063), (73, 1067), (94, 1100), (100, 1104), (120, 1116), (127, 1165), (130, 1169), (144, 1136), (160, 1140), (164, 1141), (171, 1142), (174, 1143), (177, 1144), (180, 1145), (183, 1150), (186, 1155), (189, 1156), (192, 1149), (195, 1154)],
  [(3, 173), (11, 176), (20, 225), (27, 273), (34, 293), (59, 1437), (63, 1442), (66, 1443), (69, 1447), (72, 1452)],
  [(1, 276), (15, 279), (23, 997)],
  [(5, 529), (43, 1008), (49, 1009), (53, 1013), (63, 1018), (67, 1023), (76, 1028), (81, 1032), (85, 1235), (91, 1236), (98, 1237), (103, 1238), (106, 1412), (115, 1414), (132, 1418), (138, 1427), (144, 1017), (156, 1036), (160, 1039)],
  [(3, 179), (40, 1441), (46, 688), (50, 1108), (53, 680), (57, 684), (61, 1120), (64, 1124), (67, 1225), (71, 1112)],
  [(3, 564), (43, 1247), (47, 1251), (51, 1254), (55, 1276), (63, 1272), (71, 1324), (80, 1298), (83, 1307), (86, 1308), (89, 1312)],
  [(3, 594), (34, 1210), (43, 1211), (56, 1215), (60, 1336), (64, 1340), (68, 1344), (80, 1353), (84, 1357), (87, 1358), (102, 1367), (108, 1368), (112, 1372), (115, 1396), (124, 1400)],
  [(3, 489), (19, 725), (35, 729), (43, 861), (49, 865), (68, 924), (72, 869), (76, 901), (79, 873), (88, 877), (92, 881), (103, 928), (107, 955), (113, 951), (116, 885), (124, 893), (131, 905), (135, 916), (138, 920), (144, 889), (147, 897), (162, 910), (167, 959), (170, 940), (173, 963), (177, 932), (180, 936), (183, 944), (186, 948)],
  [(3, 228), (34, 1001), (40, 1022)],
  [(3, 453), (34, 733), (38, 793), (42, 737), (46, 740), (50, 797), (53, 800), (60, 804), (67, 745), (70, 755)],
  [(3, 396)],
  [(1, 165), (9, 170), (25, 393), (28, 450), (35, 486), (44, 526), (53, 545), (62, 561), (71, 591), (82, 665), (86, 668), (94, 676), (99, 697), (103, 705), (106, 709), (116, 721), (130, 976), (145, 984), (149, 1050), (153, 1055), (156, 1059), (159, 1072), (162, 1080), (165, 1088), (168, 1096), (171, 1132), (175, 1161), (183, 1178), (198, 1186), (207, 1187), (210, 1188), (213, 1193), (225, 1194), (228, 1195), (232, 1200), (238, 1201), (241, 1206), (244, 1220), (247, 1221), (250, 1226), (254, 1231), (257, 1243), (260, 1259), (263, 1267), (268, 1268), (271, 1279), (274, 1283), (283, 1294), (286, 1303), (292, 1320), (295, 1332), (301, 1349), (307, 1363), (319, 1380), (334, 1392), (352, 1408), (355, 1422), (358, 1423), (361, 1428), (364, 1433)],
  [(1, 1466), (73, 1467), (77, 1597), (82, 1600), (86, 1619), (90, 1623), (94, 1853), (97, 1594), (104, 1615), (108, 1607), (111, 1611), (118, 1632), (125, 1640), (132, 1660), (141, 1664), (148, 1668), (155, 1682), (159, 1679), (179, 1762), (183, 1689), (187, 1692), (191, 1782), (197, 1656), (200, 1770), (203, 1778), (206, 1786), (209, 1766), (212, 1750), (215, 1758), (218, 1746), (221, 1754), (224, 1774), (227, 1685), (231, 1742), (234, 1798), (237, 1794), (242, 1695), (245, 1707), (248, 1711), (252, 1715), (262, 1790), (265, 1703), (268, 1719), (271, 1723), (274, 1728), (277, 1733), (280, 1738), (283, 1675), (289, 1699), (292, 1671), (295, 1652), (302, 1864), (306, 1861), (310, 1869), (314, 1835), (317, 1839), (320, 1843), (323, 1846), (326, 1849), (329, 1857), (332, 1831), (335, 1823), (338, 1827), (341, 1819), (344, 1876), (347, 1880), (350, 1920), (353, 1924), (356, 1908), (359, 1912), (362, 1916), (366, 1900), (369, 1904), (373, 1948), (376, 1955), (379, 1960), (382, 1936), (385, 1940), (388, 1944), (391, 1949), (394, 1950), (397, 1951), (400, 1956), (403, 1961), (406, 1962), (409, 1932), (412, 1970), (415, 1973), (418, 1985), (421, 1997), (425, 2009), (428, 2018), (431, 2022), (434, 2026), (437, 2034), (443, 2042), (446, 2046), (450, 2049), (454, 2060), (457, 2068), (460, 2072), (463, 2080), (466, 2100), (469, 2092), (472, 2096), (475, 2104), (478, 2088), (488, 2113), (491, 2121), (494, 2129), (497, 2145), (500, 2141), (503, 2157), (506, 2153), (509, 2161)],
  [(9, 162), (12, 1463), (13, 661), (17, 1590), (18, 672), (22, 1603), (23, 692), (27, 1627), (28, 701), (32, 1636), (33, 713), (36, 1644), (37, 717), (41, 1648), (42, 968), (45, 1803), (46, 972), (50, 1807), (51, 980), (54, 1815), (55, 1051), (58, 1872), (59, 1068), (62, 1884), (63, 1076), (66, 1888), (67, 1084), (70, 1892), (71, 1092), (74, 1896), (75, 1128), (78, 1928), (79, 1157), (83, 1966), (84, 1174), (87, 1811), (88, 1182), (91, 1977), (92, 1189), (95, 1981), (96, 1196), (99, 1989), (100, 1202), (103, 1993), (104, 1216), (107, 2001), (108, 1227), (111, 2005), (112, 1239), (115, 2014), (116, 1255), (120, 2030), (121, 1263), (125, 2038), (126, 1286), (129, 2052), (130, 1290), (133, 2056), (134, 1299), (137, 2064), (138, 1316), (142, 2076), (143, 1328), (146, 2084), (147, 1345), (150, 2108), (151, 1359), (155, 2117), (156, 1376), (159, 2125), (160, 1384), (163, 2133), (164, 1388), (167, 2137), (168, 1404), (171, 2149), (172, 1429), (175, 2165), (176, 1453), (179, 2169), (180, 1457), (183, 2173)],
  [],
  [],
  [(335, 749), (492, 759), (495, 763), (505, 812), (633, 808), (637, 813), (1059, 771)],
  [(9, 766), (38, 822), (88, 816), (92, 819), (95, 823)],
  []]
def lCpos : List (List (Nat × Nat)) := [[],
  [],
  [(9, 174), (18, 223), (25, 271), (32, 291)],
  [(9, 277)],
  [],
  [],
  [],
  [],
  [],
  [],
  [],
  [],
  [(7, 168), (19, 390), (26, 448), (33, 484), (42, 524), (51, 543), (60, 559), (69, 589)],
  [],
  [(7, 160), (10, 1461)],
  [],
  [],
  [],
  [],
  []]
def lKpos : List (List (Nat × Nat)) := [[],
  [],
  [],
  [],
  [(71, 1027), (166, 1043), (169, 1045)],
  [],
  [],
  [],
  [],
  [],
  [],
  [],
  [(98, 696), (376, 1058)],
  [(81, 1879), (117, 1631), (147, 1667), (487, 2112)],
  [],
  [(265, 913), (266, 914), (267, 915)],
  [],
  [],
  [],
  []]
def lKLpos : List (List (Nat × Nat)) := [[],
  [],
  [],
  [],
  [(164, 1042), (167, 1044)],
  [],
  [],
  [],
  [],
  [],
  [],
  [],
  [],
  [(240, 1802), (256, 1737), (258, 1727), (260, 1732), (298, 1867), (300, 1868), (423, 2013)],
  [],
  [],
  [],
  [],
  [],
  []]
def lAs {α : Type} : List (Nat × α) → Nat → Option α
  | [], _ => none
  | q :: r, i => if q.1 = i then some q.2 else lAs r i
theorem lAs_mem {α : Type} : ∀ (l : List (Nat × α)) (i : Nat) (x : α), lAs l i = some x → (i, x) ∈ l
  | [], _, _, h => by cases h
  | q :: r, i, x, h => by
    unfold lAs at h
    by_cases hq : q.1 = i
    · rw [if_pos hq] at h
      cases h
      rw [← hq]
      exact List.mem_cons_self
    · rw [if_neg hq] at h
      exact List.mem_cons_of_mem _ (lAs_mem r i x h)
/-- the word stands at that place, and a callee may be given it -/
def lAt (p : Nat) (w : Cond) : Bool := decide (lw_tbl[p]? = some w) && goodWord w
theorem lAt_mem {p : Nat} {w : Cond} (h : lAt p w = true) : w ∈ lg := by
  unfold lAt at h
  rw [Bool.and_eq_true, decide_eq_true_eq] at h
  exact List.mem_filter.mpr ⟨List.mem_of_getElem? h.1, h.2⟩
def lOwnN (oi : Nat) : String := lOwn.getD oi ""
-- fields
def lFchk (oi : Nat) (e : Nat × Nat × Nat) : Bool := match vwCl[e.2.1]?, lAs (lFpos.getD oi []) e.1 with
  | some q, some p => decide (e.2.2 < q.2.2) && lAt p (Cond.fieldLink (lOwnN oi) e.1 (q.2.1 e.2.2).1 (q.2.1 e.2.2).2.1 (q.2.1 e.2.2).2.2.1)
  | _, _ => false
set_option maxRecDepth 100000 in
theorem lFchk_all : ∀ oi, oi < 20 → ∀ e ∈ lFres.getD oi [], lFchk oi e = true := by decide +kernel
def fres (j idx : Nat) : Option (Nat × Nat) := lAs (lFres.getD (mt j).1 []) idx
theorem getD_nil {α : Type} {l : List (List α)} {n k : Nat} (hl : l.length = n) (h : ¬ k < n) : l.getD k [] = [] := by
  rw [List.getD_eq_getElem?_getD, List.getElem?_eq_none (by omega)]
  rfl
theorem fres_ok {j idx ci k : Nat} (h : fres j idx = some (ci, k)) : ∃ (C : String) (T : u_T) (N : Nat), vwCl[ci]? = some (C, T, N) ∧ k < N ∧ Cond.fieldLink (mO j) idx (T k).1 (T k).2.1 (T k).2.2.1 ∈ lg := by
  have hm := lAs_mem _ _ _ h
  by_cases ho : (mt j).1 < 20
  · have hc := lFchk_all _ ho _ hm
    unfold lFchk at hc
    split at hc
    · rename_i q p h1 h2
      rw [Bool.and_eq_true, decide_eq_true_eq] at hc
      exact ⟨q.1, q.2.1, q.2.2, h1, hc.1, lAt_mem hc.2⟩
    · cases hc
  · rw [getD_nil (n := 20) rfl ho] at hm
    cases hm
-- methods: their own words
def lJchk (q : lMT × (Nat × Nat × Nat × Nat × Nat)) : Bool :=
  decide (q.2.2.2.2.2 = 99) || (decide (q.1.1 = 16) || (lAt q.2.1 (Cond.code q.1.2.1 q.1.2.2.1 q.1.2.2.2.1 q.1.2.2.2.2) && (lAt q.2.2.2.2.1 (Cond.initialized q.1.2.1.cls) && (plainName q.1.2.1.cls && (decide (lOwn.getD q.1.1 "" = q.1.2.1.cls) &&
  (decide (q.1.2.1.cls ≠ "java/lang/invoke/MethodHandle") && (decide (q.1.2.1.cls ≠ "java/lang/invoke/VarHandle") && decide ((parseMethodDescriptor q.1.2.1.desc).map (fun d => d.parameters.length) = some q.2.2.2.2.2))))))))
theorem all_cut {α : Type} {l : List α} {P : α → Prop} (n : Nat) (h1 : ∀ e ∈ l.take n, P e) (h2 : ∀ e ∈ l.drop n, P e) : ∀ e ∈ l, P e := by
  rw [← List.take_append_drop n l]
  exact List.forall_mem_append.mpr ⟨h1, h2⟩
def lJall : List (lMT × (Nat × Nat × Nat × Nat × Nat)) := lMtab.zip lMinf
set_option maxRecDepth 20000 in
theorem lJall_eq : lJall = lMtab0.zip lMinf0 ++ (lMtab1.zip lMinf1 ++ (lMtab2.zip lMinf2 ++ (lMtab3.zip lMinf3 ++ (lMtab4.zip lMinf4 ++ (lMtab5.zip lMinf5 ++ (lMtab6.zip lMinf6 ++ (lMtab7.zip lMinf7 ++ (lMtab8.zip lMinf8 ++ (lMtab9.zip lMinf9 ++ (lMtab10.zip lMinf10 ++ (lMtab11.zip lMinf11 ++ (lMtab12.zip lMinf12 ++ (lMtab13.zip lMinf13 ++ (lMtab14.zip lMinf14 ++ (lMtab15.zip lMinf15 ++ (lMtab16.zip lMinf16)))))))))))))))) := rfl
set_option maxRecDepth 100000 in
theorem lJc0_0 : ∀ e ∈ (lMtab0.zip lMinf0).take 7, lJchk e = true := by decide +kernel
set_option maxRecDepth 100000 in
theorem lJc0_1 : ∀ e ∈ ((lMtab0.zip lMinf0).drop 7).take 7, lJchk e = true := by decide +kernel
set_option maxRecDepth 100000 in
theorem lJc0_2 : ∀ e ∈ ((lMtab0.zip lMinf0).drop 7).drop 7, lJchk e = true := by decide +kernel
theorem lJc0 : ∀ e ∈ lMtab0.zip lMinf0, lJchk e = true := all_cut 7 lJc0_0 (all_cut 7 lJc0_1 lJc0_2)
set_option maxRecDepth 100000 in
theorem lJc1_0 : ∀ e ∈ (lMtab1.zip lMinf1).take 7, lJchk e = true := by decide +kernel
set_option maxRecDepth 100000 in
theorem lJc1_1 : ∀ e ∈ ((lMtab1.zip lMinf1).drop 7).take 7, lJchk e = true := by decide +kernel
set_option maxRecDepth 100000 in
theorem lJc1_2 : ∀ e ∈ ((lMtab1.zip lMinf1).drop 7).drop 7, lJchk e = true := by decide +kernel
theorem lJc1 : ∀ e ∈ lMtab1.zip lMinf1, lJchk e = true := all_cut 7 lJc1_0 (all_cut 7 lJc1_1 lJc1_2)
set_option maxRecDepth 100000 in
theorem lJc2_0 : ∀ e ∈ (lMtab2.zip lMinf2).take 7, lJchk e = true := by decide +kernel
set_option maxRecDepth 100000 in
theorem lJc2_1 : ∀ e ∈ ((lMtab2.zip lMinf2).drop 7).take 7, lJchk e = true := by decide +kernel
set_option maxRecDepth 100000 in
theorem lJc2_2 : ∀ e ∈ ((lMtab2.zip lMinf2).drop 7).drop 7, lJchk e = true := by decide +kernel
theorem lJc2 : ∀ e ∈ lMtab2.zip lMinf2, lJchk e = true := all_cut 7 lJc2_0 (all_cut 7 lJc2_1 lJc2_2)
set_option maxRecDepth 100000 in
theorem lJc3_0 : ∀ e ∈ (lMtab3.zip lMinf3).take 7, lJchk e = true := by decide +kernel
set_option maxRecDepth 100000 in
theorem lJc3_1 : ∀ e ∈ ((lMtab3.zip lMinf3).drop 7).take 7, lJchk e = true := by decide +kernel
set_option maxRecDepth 100000 in
theorem lJc3_2 : ∀ e ∈ ((lMtab3.zip lMinf3).drop 7).drop 7, lJchk e = true := by decide +kernel
theorem lJc3 : ∀ e ∈ lMtab3.zip lMinf3, lJchk e = true := all_cut 7 lJc3_0 (all_cut 7 lJc3_1 lJc3_2)
set_option maxRecDepth 100000 in
theorem lJc4_0 : ∀ e ∈ (lMtab4.zip lMinf4).take 7, lJchk e = true := by decide +kernel
set_option maxRecDepth 100000 in
theorem lJc4_1 : ∀ e ∈ ((lMtab4.zip lMinf4).drop 7).take 7, lJchk e = true := by decide +kernel
set_option maxRecDepth 100000 in
theorem lJc4_2 : ∀ e ∈ ((lMtab4.zip lMinf4).drop 7).drop 7, lJchk e = true := by decide +kernel
theorem lJc4 : ∀ e ∈ lMtab4.zip lMinf4, lJchk e = true := all_cut 7 lJc4_0 (all_cut 7 lJc4_1 lJc4_2)
set_option maxRecDepth 100000 in
theorem lJc5_0 : ∀ e ∈ (lMtab5.zip lMinf5).take 7, lJchk e = true := by decide +kernel
set_option maxRecDepth 100000 in
theorem lJc5_1 : ∀ e ∈ ((lMtab5.zip lMinf5).drop 7).take 7, lJchk e = true := by decide +kernel
set_option maxRecDepth 100000 in
theorem lJc5_2 : ∀ e ∈ ((lMtab5.zip lMinf5).drop 7).drop 7, lJchk e = true := by decide +kernel
theorem lJc5 : ∀ e ∈ lMtab5.zip lMinf5, lJchk e = true := all_cut 7 lJc5_0 (all_cut 7 lJc5_1 lJc5_2)
set_option maxRecDepth 100000 in
theorem lJc6_0 : ∀ e ∈ (lMtab6.zip lMinf6).take 7, lJchk e = true := by decide +kernel
set_option maxRecDepth 100000 in
theorem lJc6_1 : ∀ e ∈ ((lMtab6.zip lMinf6).drop 7).take 7, lJchk e = true := by decide +kernel
set_option maxRecDepth 100000 in
theorem lJc6_2 : ∀ e ∈ ((lMtab6.zip lMinf6).drop 7).drop 7, lJchk e = true := by decide +kernel
theorem lJc6 : ∀ e ∈ lMtab6.zip lMinf6, lJchk e = true := all_cut 7 lJc6_0 (all_cut 7 lJc6_1 lJc6_2)
set_option maxRecDepth 100000 in
theorem lJc7_0 : ∀ e ∈ (lMtab7.zip lMinf7).take 7, lJchk e = true := by decide +kernel
set_option maxRecDepth 100000 in
theorem lJc7_1 : ∀ e ∈ ((lMtab7.zip lMinf7).drop 7).take 7, lJchk e = true := by decide +kernel
set_option maxRecDepth 100000 in
theorem lJc7_2 : ∀ e ∈ ((lMtab7.zip lMinf7).drop 7).drop 7, lJchk e = true := by decide +kernel
theorem lJc7 : ∀ e ∈ lMtab7.zip lMinf7, lJchk e = true := all_cut 7 lJc7_0 (all_cut 7 lJc7_1 lJc7_2)
set_option maxRecDepth 100000 in
theorem lJc8_0 : ∀ e ∈ (lMtab8.zip lMinf8).take 7, lJchk e = true := by decide +kernel
set_option maxRecDepth 100000 in
theorem lJc8_1 : ∀ e ∈ ((lMtab8.zip lMinf8).drop 7).take 7, lJchk e = true := by decide +kernel
set_option maxRecDepth 100000 in
theorem lJc8_2 : ∀ e ∈ ((lMtab8.zip lMinf8).drop 7).drop 7, lJchk e = true := by decide +kernel
theorem lJc8 : ∀ e ∈ lMtab8.zip lMinf8, lJchk e = true := all_cut 7 lJc8_0 (all_cut 7 lJc8_1 lJc8_2)
set_option maxRecDepth 100000 in
theorem lJc9_0 : ∀ e ∈ (lMtab9.zip lMinf9).take 7, lJchk e = true := by decide +kernel
set_option maxRecDepth 100000 in
theorem lJc9_1 : ∀ e ∈ ((lMtab9.zip lMinf9).drop 7).take 7, lJchk e = true := by decide +kernel
set_option maxRecDepth 100000 in
theorem lJc9_2 : ∀ e ∈ ((lMtab9.zip lMinf9).drop 7).drop 7, lJchk e = true := by decide +kernel
theorem lJc9 : ∀ e ∈ lMtab9.zip lMinf9, lJchk e = true := all_cut 7 lJc9_0 (all_cut 7 lJc9_1 lJc9_2)
set_option maxRecDepth 100000 in
theorem lJc10_0 : ∀ e ∈ (lMtab10.zip lMinf10).take 7, lJchk e = true := by decide +kernel
set_option maxRecDepth 100000 in
theorem lJc10_1 : ∀ e ∈ ((lMtab10.zip lMinf10).drop 7).take 7, lJchk e = true := by decide +kernel
set_option maxRecDepth 100000 in
theorem lJc10_2 : ∀ e ∈ ((lMtab10.zip lMinf10).drop 7).drop 7, lJchk e = true := by decide +kernel
theorem lJc10 : ∀ e ∈ lMtab10.zip lMinf10, lJchk e = true := all_cut 7 lJc10_0 (all_cut 7 lJc10_1 lJc10_2)
set_option maxRecDepth 100000 in
theorem lJc11_0 : ∀ e ∈ (lMtab11.zip lMinf11).take 7, lJchk e = true := by decide +kernel
set_option maxRecDepth 100000 in
theorem lJc11_1 : ∀ e ∈ ((lMtab11.zip lMinf11).drop 7).take 7, lJchk e = true := by decide +kernel
set_option maxRecDepth 100000 in
theorem lJc11_2 : ∀ e ∈ ((lMtab11.zip lMinf11).drop 7).drop 7, lJchk e = true := by decide +kernel
theorem lJc11 : ∀ e ∈ lMtab11.zip lMinf11, lJchk e = true := all_cut 7 lJc11_0 (all_cut 7 lJc11_1 lJc11_2)
set_option maxRecDepth 100000 in
theorem lJc12_0 : ∀ e ∈ (lMtab12.zip lMinf12).take 7, lJchk e = true := by decide +kernel
set_option maxRecDepth 100000 in
theorem lJc12_1 : ∀ e ∈ ((lMtab12.zip lMinf12).drop 7).take 7, lJchk e = true := by decide +kernel
set_option maxRecDepth 100000 in
theorem lJc12_2 : ∀ e ∈ ((lMtab12.zip lMinf12).drop 7).drop 7, lJchk e = true := by decide +kernel
theorem lJc12 : ∀ e ∈ lMtab12.zip lMinf12, lJchk e = true := all_cut 7 lJc12_0 (all_cut 7 lJc12_1 lJc12_2)
set_option maxRecDepth 100000 in
theorem lJc13_0 : ∀ e ∈ (lMtab13.zip lMinf13).take 7, lJchk e = true := by decide +kernel
set_option maxRecDepth 100000 in
theorem lJc13_1 : ∀ e ∈ ((lMtab13.zip lMinf13).drop 7).take 7, lJchk e = true := by decide +kernel
set_option maxRecDepth 100000 in
theorem lJc13_2 : ∀ e ∈ ((lMtab13.zip lMinf13).drop 7).drop 7, lJchk e = true := by decide +kernel
theorem lJc13 : ∀ e ∈ lMtab13.zip lMinf13, lJchk e = true := all_cut 7 lJc13_0 (all_cut 7 lJc13_1 lJc13_2)
set_option maxRecDepth 100000 in
theorem lJc14_0 : ∀ e ∈ (lMtab14.zip lMinf14).take 7, lJchk e = true := by decide +kernel
set_option maxRecDepth 100000 in
theorem lJc14_1 : ∀ e ∈ ((lMtab14.zip lMinf14).drop 7).take 7, lJchk e = true := by decide +kernel
set_option maxRecDepth 100000 in
theorem lJc14_2 : ∀ e ∈ ((lMtab14.zip lMinf14).drop 7).drop 7, lJchk e = true := by decide +kernel
theorem lJc14 : ∀ e ∈ lMtab14.zip lMinf14, lJchk e = true := all_cut 7 lJc14_0 (all_cut 7 lJc14_1 lJc14_2)
set_option maxRecDepth 100000 in
theorem lJc15_0 : ∀ e ∈ (lMtab15.zip lMinf15).take 7, lJchk e = true := by decide +kernel
set_option maxRecDepth 100000 in
theorem lJc15_1 : ∀ e ∈ ((lMtab15.zip lMinf15).drop 7).take 7, lJchk e = true := by decide +kernel
set_option maxRecDepth 100000 in
theorem lJc15_2 : ∀ e ∈ ((lMtab15.zip lMinf15).drop 7).drop 7, lJchk e = true := by decide +kernel
theorem lJc15 : ∀ e ∈ lMtab15.zip lMinf15, lJchk e = true := all_cut 7 lJc15_0 (all_cut 7 lJc15_1 lJc15_2)
set_option maxRecDepth 100000 in
theorem lJc16_0 : ∀ e ∈ (lMtab16.zip lMinf16).take 7, lJchk e = true := by decide +kernel
set_option maxRecDepth 100000 in
theorem lJc16_1 : ∀ e ∈ ((lMtab16.zip lMinf16).drop 7).take 7, lJchk e = true := by decide +kernel
set_option maxRecDepth 100000 in
theorem lJc16_2 : ∀ e ∈ ((lMtab16.zip lMinf16).drop 7).drop 7, lJchk e = true := by decide +kernel
theorem lJc16 : ∀ e ∈ lMtab16.zip lMinf16, lJchk e = true := all_cut 7 lJc16_0 (all_cut 7 lJc16_1 lJc16_2)
theorem lJchk_all : ∀ e ∈ lJall, lJchk e = true := by
  rw [lJall_eq]
  exact List.forall_mem_append.mpr ⟨lJc0, List.forall_mem_append.mpr ⟨lJc1, List.forall_mem_append.mpr ⟨lJc2, List.forall_mem_append.mpr ⟨lJc3, List.forall_mem_append.mpr ⟨lJc4, List.forall_mem_append.mpr ⟨lJc5, List.forall_mem_append.mpr ⟨lJc6, List.forall_mem_append.mpr ⟨lJc7, List.forall_mem_append.mpr ⟨lJc8, List.forall_mem_append.mpr ⟨lJc9, List.forall_mem_append.mpr ⟨lJc10, List.forall_mem_append.mpr ⟨lJc11, List.forall_mem_append.mpr ⟨lJc12, List.forall_mem_append.mpr ⟨lJc13, List.forall_mem_append.mpr ⟨lJc14, List.forall_mem_append.mpr ⟨lJc15, lJc16⟩⟩⟩⟩⟩⟩⟩⟩⟩⟩⟩⟩⟩⟩⟩⟩
/-- methods that may be called by a contract -/
def jOk (j : Nat) : Bool := decide (j < 320) || (decide (322 < j) && decide (j < 335))
def mInf (j : Nat) : Nat × Nat × Nat × Nat × Nat := lMinf.getD j (0, 0, 0, 0, 0)
abbrev mN (j : Nat) : Nat := (mInf j).2.2.2.2
set_option maxRecDepth 20000 in
theorem lMinf_len : lMinf.length = 335 := rfl
theorem lJ_mem {j : Nat} (hj : j < 335) : (mt j, mInf j) ∈ lJall := by
  have h1 := lMtab_len
  have h2 := lMinf_len
  unfold lJall mt mInf
  rw [List.getD_eq_getElem?_getD, List.getD_eq_getElem?_getD, List.getElem?_eq_getElem (by omega), List.getElem?_eq_getElem (by omega)]
  refine List.mem_of_getElem? (i := j) ?_
  rw [List.getElem?_zip_eq_some]
  exact ⟨List.getElem?_eq_getElem (by omega), List.getElem?_eq_getElem (by omega)⟩
set_option maxRecDepth 20000 in
theorem lMinf_ne : ∀ j, j < 335 → jOk j = true → ¬ mN j = 99 ∧ ¬ (mt j).1 = 16 := by decide +kernel
theorem jOk_lt {j : Nat} (h : jOk j = true) : j < 335 := by
  unfold jOk at h
  simp only [Bool.or_eq_true, Bool.and_eq_true, decide_eq_true_eq] at h
  omega
theorem mJ_ok {j : Nat} (hj : jOk j = true) : Cond.code (mY j) (mB j) (mL j) (mR j) ∈ lg ∧ Cond.initialized (mY j).cls ∈ lg ∧ plainName (mY j).cls = true ∧ (mY j).cls ≠ "java/lang/invoke/MethodHandle" ∧ (mY j).cls ≠ "java/lang/invoke/VarHandle" ∧ (parseMethodDescriptor (mY j).desc).map (fun d => d.parameters.length) = some (mN j) ∧ mO j = (mY j).cls := by
  have h := lJchk_all _ (lJ_mem (j := j) (jOk_lt hj))
  unfold lJchk at h
  simp only [Bool.or_eq_true, Bool.and_eq_true, decide_eq_true_eq] at h
  have h := (h.resolve_left (lMinf_ne j (jOk_lt hj) hj).1).resolve_left (lMinf_ne j (jOk_lt hj) hj).2
  exact ⟨lAt_mem h.1, lAt_mem h.2.1, h.2.2.1, h.2.2.2.2.1, h.2.2.2.2.2.1, h.2.2.2.2.2.2, h.2.2.2.1⟩
-- calls
def mres (j idx : Nat) : Option (Nat × Nat) := lAs (lMres.getD (mt j).1 []) idx
def lInst (j : Nat) : Bool := lAt (mInf j).2.1 (Cond.instanceMethod (mY j))
def lStat (j : Nat) : Bool := lAt (mInf j).2.1 (Cond.static (mY j))
def lSel (j : Nat) : Bool := lAt (mInf j).2.2.1 (Cond.selects (mY j).cls (mY j) (mY j))
def lMchk (oi : Nat) (e : Nat × Nat × Nat) : Bool := match e.2.1 with
  | 0 => decide (e.2.2 ≠ 322) && (lInst e.2.2 && (lSel e.2.2 && (lAs (lMpos.getD oi []) e.1).any (fun p => lAt p (Cond.methodLink (lOwnN oi) e.1 (mY e.2.2)))))
  | 1 => decide (e.2.2 ≠ 322) && (lStat e.2.2 && (lAs (lMpos.getD oi []) e.1).any (fun p => lAt p (Cond.methodLink (lOwnN oi) e.1 (mY e.2.2))))
  | 2 => decide (e.2.2 ≠ 322) && (lInst e.2.2 && (decide ((mY e.2.2).name = "<init>") && (decide (mR e.2.2 = none) && (lAs (lMpos.getD oi []) e.1).any (fun p => lAt p (Cond.methodLink (lOwnN oi) e.1 (mY e.2.2))))))
  | 3 => (lAs (lMpos.getD oi []) e.1).any (fun p => lAt p (Cond.methodLink (lOwnN oi) e.1 Lib.objectInit))
  | 4 => decide (e.2.2 ≠ 322) && (lStat e.2.2 && (decide (mY e.2.2 = yX12_isLetter) && decide ((lOwnN oi, e.1) ∈ [(RX4, 109), (RX1, 133), (RX8, 159)])))
  | _ => (lAs (lMpos.getD oi []) e.1).any (fun p => lAt p (Cond.methodLink (lOwnN oi) e.1 arraycopyName))
set_option maxRecDepth 100000 in
theorem lMc0_0 : ∀ e ∈ (lMres.getD 0 []), lMchk 0 e = true := by decide +kernel
theorem lMc0 : ∀ e ∈ lMres.getD 0 [], lMchk 0 e = true := lMc0_0
set_option maxRecDepth 100000 in
theorem lMc1_0 : ∀ e ∈ ((lMres.getD 1 [])).take 14, lMchk 1 e = true := by decide +kernel
set_option maxRecDepth 100000 in
theorem lMc1_1 : ∀ e ∈ ((lMres.getD 1 [])).drop 14, lMchk 1 e = true := by decide +kernel
theorem lMc1 : ∀ e ∈ lMres.getD 1 [], lMchk 1 e = true := all_cut 14 lMc1_0 (lMc1_1)
set_option maxRecDepth 100000 in
theorem lMc2_0 : ∀ e ∈ (lMres.getD 2 []), lMchk 2 e = true := by decide +kernel
theorem lMc2 : ∀ e ∈ lMres.getD 2 [], lMchk 2 e = true := lMc2_0
set_option maxRecDepth 100000 in
theorem lMc3_0 : ∀ e ∈ (lMres.getD 3 []), lMchk 3 e = true := by decide +kernel
theorem lMc3 : ∀ e ∈ lMres.getD 3 [], lMchk 3 e = true := lMc3_0
set_option maxRecDepth 100000 in
theorem lMc4_0 : ∀ e ∈ ((lMres.getD 4 [])).take 14, lMchk 4 e = true := by decide +kernel
set_option maxRecDepth 100000 in
theorem lMc4_1 : ∀ e ∈ ((lMres.getD 4 [])).drop 14, lMchk 4 e = true := by decide +kernel
theorem lMc4 : ∀ e ∈ lMres.getD 4 [], lMchk 4 e = true := all_cut 14 lMc4_0 (lMc4_1)
set_option maxRecDepth 100000 in
theorem lMc5_0 : ∀ e ∈ (lMres.getD 5 []), lMchk 5 e = true := by decide +kernel
theorem lMc5 : ∀ e ∈ lMres.getD 5 [], lMchk 5 e = true := lMc5_0
set_option maxRecDepth 100000 in
theorem lMc6_0 : ∀ e ∈ (lMres.getD 6 []), lMchk 6 e = true := by decide +kernel
theorem lMc6 : ∀ e ∈ lMres.getD 6 [], lMchk 6 e = true := lMc6_0
set_option maxRecDepth 100000 in
theorem lMc7_0 : ∀ e ∈ ((lMres.getD 7 [])).take 14, lMchk 7 e = true := by decide +kernel
set_option maxRecDepth 100000 in
theorem lMc7_1 : ∀ e ∈ ((lMres.getD 7 [])).drop 14, lMchk 7 e = true := by decide +kernel
theorem lMc7 : ∀ e ∈ lMres.getD 7 [], lMchk 7 e = true := all_cut 14 lMc7_0 (lMc7_1)
set_option maxRecDepth 100000 in
theorem lMc8_0 : ∀ e ∈ ((lMres.getD 8 [])).take 14, lMchk 8 e = true := by decide +kernel
set_option maxRecDepth 100000 in
theorem lMc8_1 : ∀ e ∈ (((lMres.getD 8 [])).drop 14).take 14, lMchk 8 e = true := by decide +kernel
set_option maxRecDepth 100000 in
theorem lMc8_2 : ∀ e ∈ (((lMres.getD 8 [])).drop 14).drop 14, lMchk 8 e = true := by decide +kernel
theorem lMc8 : ∀ e ∈ lMres.getD 8 [], lMchk 8 e = true := all_cut 14 lMc8_0 (all_cut 14 lMc8_1 (lMc8_2))
set_option maxRecDepth 100000 in
theorem lMc9_0 : ∀ e ∈ (lMres.getD 9 []), lMchk 9 e = true := by decide +kernel
theorem lMc9 : ∀ e ∈ lMres.getD 9 [], lMchk 9 e = true := lMc9_0
set_option maxRecDepth 100000 in
theorem lMc10_0 : ∀ e ∈ (lMres.getD 10 []), lMchk 10 e = true := by decide +kernel
theorem lMc10 : ∀ e ∈ lMres.getD 10 [], lMchk 10 e = true := lMc10_0
set_option maxRecDepth 100000 in
theorem lMc11_0 : ∀ e ∈ (lMres.getD 11 []), lMchk 11 e = true := by decide +kernel
theorem lMc11 : ∀ e ∈ lMres.getD 11 [], lMchk 11 e = true := lMc11_0
set_option maxRecDepth 100000 in
theorem lMc12_0 : ∀ e ∈ ((lMres.getD 12 [])).take 14, lMchk 12 e = true := by decide +kernel
set_option maxRecDepth 100000 in
theorem lMc12_1 : ∀ e ∈ (((lMres.getD 12 [])).drop 14).take 14, lMchk 12 e = true := by decide +kernel
set_option maxRecDepth 100000 in
theorem lMc12_2 : ∀ e ∈ ((((lMres.getD 12 [])).drop 14).drop 14).take 14, lMchk 12 e = true := by decide +kernel
set_option maxRecDepth 100000 in
theorem lMc12_3 : ∀ e ∈ (((((lMres.getD 12 [])).drop 14).drop 14).drop 14).take 14, lMchk 12 e = true := by decide +kernel
set_option maxRecDepth 100000 in
theorem lMc12_4 : ∀ e ∈ (((((lMres.getD 12 [])).drop 14).drop 14).drop 14).drop 14, lMchk 12 e = true := by decide +kernel
theorem lMc12 : ∀ e ∈ lMres.getD 12 [], lMchk 12 e = true := all_cut 14 lMc12_0 (all_cut 14 lMc12_1 (all_cut 14 lMc12_2 (all_cut 14 lMc12_3 (lMc12_4))))
set_option maxRecDepth 100000 in
theorem lMc13_0 : ∀ e ∈ ((lMres.getD 13 [])).take 14, lMchk 13 e = true := by decide +kernel
set_option maxRecDepth 100000 in
theorem lMc13_1 : ∀ e ∈ (((lMres.getD 13 [])).drop 14).take 14, lMchk 13 e = true := by decide +kernel
set_option maxRecDepth 100000 in
theorem lMc13_2 : ∀ e ∈ ((((lMres.getD 13 [])).drop 14).drop 14).take 14, lMchk 13 e = true := by decide +kernel
set_option maxRecDepth 100000 in
theorem lMc13_3 : ∀ e ∈ (((((lMres.getD 13 [])).drop 14).drop 14).drop 14).take 14, lMchk 13 e = true := by decide +kernel
set_option maxRecDepth 100000 in
theorem lMc13_4 : ∀ e ∈ ((((((lMres.getD 13 [])).drop 14).drop 14).drop 14).drop 14).take 14, lMchk 13 e = true := by decide +kernel
set_option maxRecDepth 100000 in
theorem lMc13_5 : ∀ e ∈ (((((((lMres.getD 13 [])).drop 14).drop 14).drop 14).drop 14).drop 14).take 14, lMchk 13 e = true := by decide +kernel
set_option maxRecDepth 100000 in
theorem lMc13_6 : ∀ e ∈ ((((((((lMres.getD 13 [])).drop 14).drop 14).drop 14).drop 14).drop 14).drop 14).take 14, lMchk 13 e = true := by decide +kernel
set_option maxRecDepth 100000 in
theorem lMc13_7 : ∀ e ∈ (((((((((lMres.getD 13 [])).drop 14).drop 14).drop 14).drop 14).drop 14).drop 14).drop 14).take 14, lMchk 13 e = true := by decide +kernel
set_option maxRecDepth 100000 in
theorem lMc13_8 : ∀ e ∈ (((((((((lMres.getD 13 [])).drop 14).drop 14).drop 14).drop 14).drop 14).drop 14).drop 14).drop 14, lMchk 13 e = true := by decide +kernel
theorem lMc13 : ∀ e ∈ lMres.getD 13 [], lMchk 13 e = true := all_cut 14 lMc13_0 (all_cut 14 lMc13_1 (all_cut 14 lMc13_2 (all_cut 14 lMc13_3 (all_cut 14 lMc13_4 (all_cut 14 lMc13_5 (all_cut 14 lMc13_6 (all_cut 14 lMc13_7 (lMc13_8))))))))
set_option maxRecDepth 100000 in
theorem lMc14_0 : ∀ e ∈ ((lMres.getD 14 [])).take 14, lMchk 14 e = true := by decide +kernel
set_option maxRecDepth 100000 in
theorem lMc14_1 : ∀ e ∈ (((lMres.getD 14 [])).drop 14).take 14, lMchk 14 e = true := by decide +kernel
set_option maxRecDepth 100000 in
theorem lMc14_2 : ∀ e ∈ ((((lMres.getD 14 [])).drop 14).drop 14).take 14, lMchk 14 e = true := by decide +kernel
set_option maxRecDepth 100000 in
theorem lMc14_3 : ∀ e ∈ (((((lMres.getD 14 [])).drop 14).drop 14).drop 14).take 14, lMchk 14 e = true := by decide +kernel
set_option maxRecDepth 100000 in
theorem lMc14_4 : ∀ e ∈ ((((((lMres.getD 14 [])).drop 14).drop 14).drop 14).drop 14).take 14, lMchk 14 e = true := by decide +kernel
set_option maxRecDepth 100000 in
theorem lMc14_5 : ∀ e ∈ ((((((lMres.getD 14 [])).drop 14).drop 14).drop 14).drop 14).drop 14, lMchk 14 e = true := by decide +kernel
theorem lMc14 : ∀ e ∈ lMres.getD 14 [], lMchk 14 e = true := all_cut 14 lMc14_0 (all_cut 14 lMc14_1 (all_cut 14 lMc14_2 (all_cut 14 lMc14_3 (all_cut 14 lMc14_4 (lMc14_5)))))
set_option maxRecDepth 100000 in
theorem lMc15_0 : ∀ e ∈ (lMres.getD 15 []), lMchk 15 e = true := by decide +kernel
theorem lMc15 : ∀ e ∈ lMres.getD 15 [], lMchk 15 e = true := lMc15_0
set_option maxRecDepth 100000 in
theorem lMc16_0 : ∀ e ∈ (lMres.getD 16 []), lMchk 16 e = true := by decide +kernel
theorem lMc16 : ∀ e ∈ lMres.getD 16 [], lMchk 16 e = true := lMc16_0
set_option maxRecDepth 100000 in
theorem lMc17_0 : ∀ e ∈ (lMres.getD 17 []), lMchk 17 e = true := by decide +kernel
theorem lMc17 : ∀ e ∈ lMres.getD 17 [], lMchk 17 e = true := lMc17_0
set_option maxRecDepth 100000 in
theorem lMc18_0 : ∀ e ∈ (lMres.getD 18 []), lMchk 18 e = true := by decide +kernel
theorem lMc18 : ∀ e ∈ lMres.getD 18 [], lMchk 18 e = true := lMc18_0
set_option maxRecDepth 100000 in
theorem lMc19_0 : ∀ e ∈ (lMres.getD 19 []), lMchk 19 e = true := by decide +kernel
theorem lMc19 : ∀ e ∈ lMres.getD 19 [], lMchk 19 e = true := lMc19_0
theorem lMchk_all : ∀ oi, oi < 20 → ∀ e ∈ lMres.getD oi [], lMchk oi e = true := fun oi h => match oi, h with
  | 0, _ => lMc0
  | 1, _ => lMc1
  | 2, _ => lMc2
  | 3, _ => lMc3
  | 4, _ => lMc4
  | 5, _ => lMc5
  | 6, _ => lMc6
  | 7, _ => lMc7
  | 8, _ => lMc8
  | 9, _ => lMc9
  | 10, _ => lMc10
  | 11, _ => lMc11
  | 12, _ => lMc12
  | 13, _ => lMc13
  | 14, _ => lMc14
  | 15, _ => lMc15
  | 16, _ => lMc16
  | 17, _ => lMc17
  | 18, _ => lMc18
  | 19, _ => lMc19
  | n + 20, h => absurd h (by omega)
theorem mres_ok {j idx : Nat} {kj : Nat × Nat} (h : mres j idx = some kj) : lMchk (mt j).1 (idx, kj) = true := by
  have hm := lAs_mem _ _ _ h
  by_cases ho : (mt j).1 < 20
  · exact lMchk_all _ ho _ hm
  · rw [getD_nil (n := 20) rfl ho] at hm
    cases hm
theorem any_mem {o : Option Nat} {f : Nat → Cond} {w : Cond} (h : o.any (fun p => lAt p w) = true) : w ∈ lg := by
  cases o with
  | none => cases h
  | some p => exact lAt_mem h
-- classes by their links, constants
def cres (j idx : Nat) : Option Nat := lAs (lCres.getD (mt j).1 []) idx
def lCchk (oi : Nat) (e : Nat × Nat) : Bool := match vwCl[e.2]?, lAs (lCpos.getD oi []) e.1 with
  | some q, some p => lAt p (Cond.classLink (lOwnN oi) e.1 q.1)
  | _, _ => false
set_option maxRecDepth 100000 in
theorem lCchk_all : ∀ oi, oi < 20 → ∀ e ∈ lCres.getD oi [], lCchk oi e = true := by decide +kernel
theorem cres_ok {j idx ci : Nat} (h : cres j idx = some ci) : ∃ (C : String) (T : u_T) (N : Nat), vwCl[ci]? = some (C, T, N) ∧ Cond.classLink (mO j) idx C ∈ lg := by
  have hm := lAs_mem _ _ _ h
  by_cases ho : (mt j).1 < 20
  · have hc := lCchk_all _ ho _ hm
    unfold lCchk at hc
    split at hc
    · rename_i q p h1 h2
      exact ⟨q.1, q.2.1, q.2.2, h1, lAt_mem hc⟩
    · cases hc
  · rw [getD_nil (n := 20) rfl ho] at hm
    cases hm
def kres (j idx : Nat) : Option Int32 := lAs (lKon.getD (mt j).1 []) idx
def lKchk (oi : Nat) (e : Nat × Int32) : Bool := (lAs (lKpos.getD oi []) e.1).any (fun p => lAt p (Cond.constant (lOwnN oi) e.1 e.2))
set_option maxRecDepth 100000 in
theorem lKchk_all : ∀ oi, oi < 20 → ∀ e ∈ lKon.getD oi [], lKchk oi e = true := by decide +kernel
theorem kres_ok {j idx : Nat} {v : Int32} (h : kres j idx = some v) : Cond.constant (mO j) idx v ∈ lg := by
  have hm := lAs_mem _ _ _ h
  by_cases ho : (mt j).1 < 20
  · exact any_mem (f := fun _ => .tt) (lKchk_all _ ho _ hm)
  · rw [getD_nil (n := 20) rfl ho] at hm
    cases hm
def klres (j idx : Nat) : Option Int64 := lAs (lKonL.getD (mt j).1 []) idx
def lKLchk (oi : Nat) (e : Nat × Int64) : Bool := (lAs (lKLpos.getD oi []) e.1).any (fun p => lAt p (Cond.constantLong (lOwnN oi) e.1 e.2))
set_option maxRecDepth 100000 in
theorem lKLchk_all : ∀ oi, oi < 20 → ∀ e ∈ lKonL.getD oi [], lKLchk oi e = true := by decide +kernel
theorem klres_ok {j idx : Nat} {v : Int64} (h : klres j idx = some v) : Cond.constantLong (mO j) idx v ∈ lg := by
  have hm := lAs_mem _ _ _ h
  by_cases ho : (mt j).1 < 20
  · exact any_mem (f := fun _ => .tt) (lKLchk_all _ ho _ hm)
  · rw [getD_nil (n := 20) rfl ho] at hm
    cases hm
-- global words
set_option maxRecDepth 100000 in
theorem lgObj : Cond.instanceMethod Lib.objectInit ∈ lg := lAt_mem (p := 166) (by decide +kernel)
set_option maxRecDepth 100000 in
theorem lgObjC : Cond.code Lib.objectInit ⟨#[0xb1]⟩ 1 none ∈ lg := lAt_mem (p := 167) (by decide +kernel)
set_option maxRecDepth 100000 in
theorem lgNat : Cond.native arraycopyName ∈ lg := lAt_mem (p := 1003) (by decide +kernel)
set_option maxRecDepth 100000 in
theorem lgStat : Cond.static arraycopyName ∈ lg := lAt_mem (p := 1002) (by decide +kernel)
set_option maxRecDepth 100000 in
theorem lgSys : Cond.initialized "java/lang/System" ∈ lg := lAt_mem (p := 159) (by decide +kernel)
set_option maxRecDepth 100000 in
theorem lgInt : Cond.arrayClass .int ∈ lg := lAt_mem (p := 222) (by decide +kernel)
set_option maxRecDepth 100000 in
theorem lgBool : Cond.arrayClass .boolean ∈ lg := lAt_mem (p := 588) (by decide +kernel)
set_option maxRecDepth 100000 in
theorem lgLong : Cond.arrayClass .long ∈ lg := lAt_mem (p := 1589) (by decide +kernel)
-- classes: fields, words
set_option maxRecDepth 100000 in
theorem lCl0 : ((wsX00.zip [310, 312, 314, 316]).all (fun q => lAt q.2 q.1) && decide (wsX00.length = 4)) = true := by decide +kernel
set_option maxRecDepth 100000 in
theorem lCi0 : Cond.instantiable RX0 4 ∈ lg ∧ Cond.initialized RX0 ∈ lg := ⟨lAt_mem (p := 292) (by decide +kernel), lAt_mem (p := 143) (by decide +kernel)⟩
set_option maxRecDepth 100000 in
theorem lCl1 : ((wsX10.zip [552, 554, 556]).all (fun q => lAt q.2 q.1) && decide (wsX10.length = 3)) = true := by decide +kernel
set_option maxRecDepth 100000 in
theorem lCi1 : Cond.instantiable RX1 3 ∈ lg ∧ Cond.initialized RX1 ∈ lg := ⟨lAt_mem (p := 544) (by decide +kernel), lAt_mem (p := 148) (by decide +kernel)⟩
set_option maxRecDepth 100000 in
theorem lCl2 : ((wsX20.zip [363, 365, 367, 369, 371, 373, 375, 377, 379, 381, 383, 385, 387]).all (fun q => lAt q.2 q.1) && decide (wsX20.length = 13)) = true := by decide +kernel
set_option maxRecDepth 100000 in
theorem lCi2 : Cond.instantiable RX2 13 ∈ lg ∧ Cond.initialized RX2 ∈ lg := ⟨lAt_mem (p := 169) (by decide +kernel), lAt_mem (p := 139) (by decide +kernel)⟩
set_option maxRecDepth 100000 in
theorem lCl3 : ((wsX30.zip [284, 286, 288]).all (fun q => lAt q.2 q.1) && decide (wsX30.length = 3)) = true := by decide +kernel
set_option maxRecDepth 100000 in
theorem lCi3 : Cond.instantiable RX3 3 ∈ lg ∧ Cond.initialized RX3 ∈ lg := ⟨lAt_mem (p := 272) (by decide +kernel), lAt_mem (p := 142) (by decide +kernel)⟩
set_option maxRecDepth 100000 in
theorem lCl4 : ((wsX40.zip [534, 536, 538, 540]).all (fun q => lAt q.2 q.1) && decide (wsX40.length = 4)) = true := by decide +kernel
set_option maxRecDepth 100000 in
theorem lCi4 : Cond.instantiable RX4 4 ∈ lg ∧ Cond.initialized RX4 ∈ lg := ⟨lAt_mem (p := 525) (by decide +kernel), lAt_mem (p := 147) (by decide +kernel)⟩
set_option maxRecDepth 100000 in
theorem lCl5 : ((wsX50.zip [203, 205, 207, 209, 211, 213, 215, 217, 219]).all (fun q => lAt q.2 q.1) && decide (wsX50.length = 9)) = true := by decide +kernel
set_option maxRecDepth 100000 in
theorem lCi5 : Cond.instantiable RX5 9 ∈ lg ∧ Cond.initialized RX5 ∈ lg := ⟨lAt_mem (p := 175) (by decide +kernel), lAt_mem (p := 140) (by decide +kernel)⟩
set_option maxRecDepth 100000 in
theorem lCl6 : ((wsX60.zip [573, 575, 577, 579, 581, 583, 585]).all (fun q => lAt q.2 q.1) && decide (wsX60.length = 7)) = true := by decide +kernel
set_option maxRecDepth 100000 in
theorem lCi6 : Cond.instantiable RX6 7 ∈ lg ∧ Cond.initialized RX6 ∈ lg := ⟨lAt_mem (p := 560) (by decide +kernel), lAt_mem (p := 149) (by decide +kernel)⟩
set_option maxRecDepth 100000 in
theorem lCl7 : ((wsX70.zip [609, 611, 613, 615, 617, 619, 621, 623, 625, 627]).all (fun q => lAt q.2 q.1) && decide (wsX70.length = 10)) = true := by decide +kernel
set_option maxRecDepth 100000 in
theorem lCi7 : Cond.instantiable RX7 10 ∈ lg ∧ Cond.initialized RX7 ∈ lg := ⟨lAt_mem (p := 590) (by decide +kernel), lAt_mem (p := 150) (by decide +kernel)⟩
set_option maxRecDepth 100000 in
theorem lCl8 : ((wsX80.zip [503, 505, 507, 509, 511, 513, 515, 517, 519, 521]).all (fun q => lAt q.2 q.1) && decide (wsX80.length = 10)) = true := by decide +kernel
set_option maxRecDepth 100000 in
theorem lCi8 : Cond.instantiable RX8 10 ∈ lg ∧ Cond.initialized RX8 ∈ lg := ⟨lAt_mem (p := 485) (by decide +kernel), lAt_mem (p := 146) (by decide +kernel)⟩
set_option maxRecDepth 100000 in
theorem lCl9 : ((wsX90.zip [256, 258, 260, 262, 264, 266, 268]).all (fun q => lAt q.2 q.1) && decide (wsX90.length = 7)) = true := by decide +kernel
set_option maxRecDepth 100000 in
theorem lCi9 : Cond.instantiable RX9 7 ∈ lg ∧ Cond.initialized RX9 ∈ lg := ⟨lAt_mem (p := 224) (by decide +kernel), lAt_mem (p := 141) (by decide +kernel)⟩
set_option maxRecDepth 100000 in
theorem lCl10 : ((wsX100.zip [469, 471, 473, 475, 477, 479, 481]).all (fun q => lAt q.2 q.1) && decide (wsX100.length = 7)) = true := by decide +kernel
set_option maxRecDepth 100000 in
theorem lCi10 : Cond.instantiable RX10 7 ∈ lg ∧ Cond.initialized RX10 ∈ lg := ⟨lAt_mem (p := 449) (by decide +kernel), lAt_mem (p := 145) (by decide +kernel)⟩
set_option maxRecDepth 100000 in
theorem lCl11 : ((wsX110.zip [425, 427, 429, 431, 433, 435, 437, 439, 441, 443, 445]).all (fun q => lAt q.2 q.1) && decide (wsX110.length = 11)) = true := by decide +kernel
set_option maxRecDepth 100000 in
theorem lCi11 : Cond.instantiable RX11 11 ∈ lg ∧ Cond.initialized RX11 ∈ lg := ⟨lAt_mem (p := 392) (by decide +kernel), lAt_mem (p := 144) (by decide +kernel)⟩
set_option maxRecDepth 100000 in
theorem lCl12 : ((wsX120.zip [640, 642, 644, 646, 648, 650, 652, 654, 656, 658]).all (fun q => lAt q.2 q.1) && decide (wsX120.length = 10)) = true := by decide +kernel
set_option maxRecDepth 100000 in
theorem lCi12 : Cond.instantiable RX12 10 ∈ lg ∧ Cond.initialized RX12 ∈ lg := ⟨lAt_mem (p := 161) (by decide +kernel), lAt_mem (p := 138) (by decide +kernel)⟩
set_option maxRecDepth 100000 in
theorem lCl13 : ((wsX130.zip [1508, 1510, 1512, 1514, 1516, 1518, 1520, 1522, 1524, 1526, 1528, 1530, 1532, 1534, 1536, 1538, 1540, 1542, 1544, 1546, 1548, 1550, 1552, 1554, 1556, 1558, 1560, 1562, 1564, 1566, 1568, 1570, 1572, 1574, 1576, 1578, 1580, 1582, 1584, 1586]).all (fun q => lAt q.2 q.1) && decide (wsX130.length = 40)) = true := by decide +kernel
set_option maxRecDepth 100000 in
theorem lCi13 : Cond.instantiable RX13 40 ∈ lg ∧ Cond.initialized RX13 ∈ lg := ⟨lAt_mem (p := 1462) (by decide +kernel), lAt_mem (p := 151) (by decide +kernel)⟩
theorem zip_all {ws : List Cond} {ps : List Nat} {n : Nat} (hn : ps.length = n) (h : ((ws.zip ps).all (fun q => lAt q.2 q.1) && decide (ws.length = n)) = true) : ∀ w ∈ ws, w ∈ lg := by
  rw [Bool.and_eq_true, decide_eq_true_eq] at h
  intro w hw
  obtain ⟨i, hi, rfl⟩ := List.getElem_of_mem hw
  have hp : i < ps.length := by omega
  have : (ws[i], ps[i]) ∈ ws.zip ps := by
    refine List.mem_of_getElem? (i := i) ?_
    rw [List.getElem?_zip_eq_some]
    exact ⟨List.getElem?_eq_getElem hi, List.getElem?_eq_getElem hp⟩
  exact lAt_mem (List.all_eq_true.mp h.1 _ this)
theorem clOK {ci : Nat} {C : String} {T : u_T} {N : Nat} (h : vwCl[ci]? = some (C, T, N)) : N = nF ci ∧ C = lOwnN ci ∧ (∀ k, k < N → parseFieldDescriptor (T k).2.2.1 = some (tyA ci k)) ∧ (∀ a, a < N → ∀ b, b < N → a ≠ b → (T a).2.1 ≠ (T b).2.1) ∧ (∀ w ∈ u_ws C T N, w ∈ lg) ∧ Cond.instantiable C N ∈ lg ∧ Cond.initialized C ∈ lg := by
  have hlt : ci < 14 := (List.getElem?_eq_some_iff.mp h).1
  match ci, hlt, h with
  | 0, _, h => cases h; exact ⟨rfl, rfl, tyX0_ok, nmX0, zip_all (n := 4) rfl lCl0, lCi0.1, lCi0.2⟩
  | 1, _, h => cases h; exact ⟨rfl, rfl, tyX1_ok, nmX1, zip_all (n := 3) rfl lCl1, lCi1.1, lCi1.2⟩
  | 2, _, h => cases h; exact ⟨rfl, rfl, tyX2_ok, nmX2, zip_all (n := 13) rfl lCl2, lCi2.1, lCi2.2⟩
  | 3, _, h => cases h; exact ⟨rfl, rfl, tyX3_ok, nmX3, zip_all (n := 3) rfl lCl3, lCi3.1, lCi3.2⟩
  | 4, _, h => cases h; exact ⟨rfl, rfl, tyX4_ok, nmX4, zip_all (n := 4) rfl lCl4, lCi4.1, lCi4.2⟩
  | 5, _, h => cases h; exact ⟨rfl, rfl, tyX5_ok, nmX5, zip_all (n := 9) rfl lCl5, lCi5.1, lCi5.2⟩
  | 6, _, h => cases h; exact ⟨rfl, rfl, tyX6_ok, nmX6, zip_all (n := 7) rfl lCl6, lCi6.1, lCi6.2⟩
  | 7, _, h => cases h; exact ⟨rfl, rfl, tyX7_ok, nmX7, zip_all (n := 10) rfl lCl7, lCi7.1, lCi7.2⟩
  | 8, _, h => cases h; exact ⟨rfl, rfl, tyX8_ok, nmX8, zip_all (n := 10) rfl lCl8, lCi8.1, lCi8.2⟩
  | 9, _, h => cases h; exact ⟨rfl, rfl, tyX9_ok, nmX9, zip_all (n := 7) rfl lCl9, lCi9.1, lCi9.2⟩
  | 10, _, h => cases h; exact ⟨rfl, rfl, tyX10_ok, nmX10, zip_all (n := 7) rfl lCl10, lCi10.1, lCi10.2⟩
  | 11, _, h => cases h; exact ⟨rfl, rfl, tyX11_ok, nmX11, zip_all (n := 11) rfl lCl11, lCi11.1, lCi11.2⟩
  | 12, _, h => cases h; exact ⟨rfl, rfl, tyX12_ok, nmX12, zip_all (n := 10) rfl lCl12, lCi12.1, lCi12.2⟩
  | 13, _, h => cases h; exact ⟨rfl, rfl, tyX13_ok, nmX13, zip_all (n := 40) rfl lCl13, lCi13.1, lCi13.2⟩
