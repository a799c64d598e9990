theorem mem_r {big ws : List Cond} (ps : List Nat) (hp : ws = ps.filterMap (fun i => big[i]?)) : ∀ w ∈ ws, w ∈ big := by
  intro w hw
  rw [hp] at hw
  obtain ⟨i, -, hi⟩ := List.mem_filterMap.mp hw
  exact List.mem_of_getElem? hi
theorem app_m {big a b : List Cond} (ha : ∀ w ∈ a, w ∈ big) (hb : ∀ w ∈ b, w ∈ big) : ∀ w ∈ a ++ b, w ∈ big := fun w h => (List.mem_append.mp h).elim (ha w) (hb w)
set_option maxRecDepth 100000 in
theorem in_wsL_law_r1 : ∀ w ∈ wsL_law_r1, w ∈ lw_tbl := mem_r [120, 121, 106, 1026, 1027, 117, 122, 123, 124, 125, 126, 127, 128, 129, 107, 499, 145, 146, 108, 500, 215, 216, 109, 501] rfl
set_option maxRecDepth 100000 in
theorem in_wsL_law_r2 : ∀ w ∈ wsL_law_r2, w ∈ lw_tbl := mem_r [250, 251, 110, 502, 281, 282, 111, 503, 309, 310, 112, 504, 358, 359, 113, 505, 407, 408, 114, 506, 480, 481, 116, 507] rfl
set_option maxRecDepth 100000 in
theorem in_wsL_law_r3 : ∀ w ∈ wsL_law_r3, w ∈ lw_tbl := mem_r [131, 132, 133, 144, 134, 148, 149, 150, 167, 170, 214, 173, 176, 178, 181, 183, 188, 218, 219, 220, 221, 223, 225, 227] rfl
set_option maxRecDepth 100000 in
theorem in_wsL_law_r4 : ∀ w ∈ wsL_law_r4, w ∈ lw_tbl := mem_r [232, 234, 252, 253, 254, 255, 256, 258, 260, 283, 284, 285, 286, 287, 289, 292, 293, 294, 295, 311, 312, 313, 314, 315] rfl
set_option maxRecDepth 100000 in
theorem in_wsL_law_r5 : ∀ w ∈ wsL_law_r5, w ∈ lw_tbl := mem_r [317, 321, 323, 324, 325, 326, 328, 329, 330, 360, 361, 362, 363, 364, 366, 370, 373, 377, 379, 381, 382, 383, 409, 410] rfl
set_option maxRecDepth 100000 in
theorem in_wsL_law_r6 : ∀ w ∈ wsL_law_r6, w ∈ lw_tbl := mem_r [411, 412, 479, 419, 420, 421, 422, 425, 426, 427, 428, 429, 430, 431, 435, 436, 437, 413, 414, 415, 115, 416, 482, 483] rfl
set_option maxRecDepth 100000 in
theorem in_wsL_law_r7 : ∀ w ∈ wsL_law_r7, w ∈ lw_tbl := mem_r [484, 485, 486, 487, 488, 489, 1028, 1029, 1030, 1031, 1257, 1034, 1039, 1042, 1043, 1044, 1045, 1046, 1047, 1048, 1049, 1051, 1052, 1053] rfl
set_option maxRecDepth 100000 in
theorem in_wsL_law_r8 : ∀ w ∈ wsL_law_r8, w ∈ lw_tbl := mem_r [1054, 1055, 1056, 1057, 1058, 1059, 1060, 1061, 1062, 1072, 1080, 1081, 1082, 1085, 1086, 1087, 1088, 1089, 1090, 1091, 1092, 1093, 1094, 1095] rfl
set_option maxRecDepth 100000 in
theorem in_wsL_law_r9 : ∀ w ∈ wsL_law_r9, w ∈ lw_tbl := mem_r [1098, 1099, 1032, 1102, 1103, 1033, 1104, 1105, 1106, 1107, 527, 528, 529, 530, 152, 169, 172, 174, 372, 531, 533, 0, 534, 288] rfl
set_option maxRecDepth 100000 in
theorem in_wsL_law_r10 : ∀ w ∈ wsL_law_r10, w ∈ lw_tbl := mem_r [418, 1258, 1259, 1260, 1261, 1036, 1262, 1266, 1267, 1041, 1263, 1264, 1265, 535, 536, 537, 538, 161, 177, 180, 182, 369, 539, 540] rfl
set_option maxRecDepth 100000 in
theorem in_wsL_law_r11 : ∀ w ∈ wsL_law_r11, w ∈ lw_tbl := mem_r [541, 542, 151, 1268, 1269, 1270, 1271, 1037, 1272, 1040, 1273, 1275, 38, 1276, 543, 544, 545, 546, 165, 186, 190, 1277, 1278, 1279] rfl
set_option maxRecDepth 100000 in
theorem in_wsL_law_r12 : ∀ w ∈ wsL_law_r12, w ∈ lw_tbl := mem_r [1280, 1038, 1281, 547, 548, 549, 550, 1282, 1283, 1284, 1285, 551, 552, 553, 554, 371, 1286, 1287, 1288, 1289, 555, 556, 557, 558] rfl
set_option maxRecDepth 100000 in
theorem in_wsL_law_r13 : ∀ w ∈ wsL_law_r13, w ∈ lw_tbl := mem_r [138, 559, 560, 561, 562, 137, 1290, 1291, 1292, 1293, 1035, 1294, 1296, 39, 1297, 563, 564, 565, 566, 259, 231, 567, 568, 569] rfl
set_option maxRecDepth 100000 in
theorem in_wsL_law_r14 : ∀ w ∈ wsL_law_r14, w ∈ lw_tbl := mem_r [570, 261, 262, 263, 265, 229, 571, 573, 1, 574, 264, 224, 226, 228, 575, 577, 2, 578, 135, 579, 581, 3, 582, 583] rfl
set_option maxRecDepth 100000 in
theorem in_wsL_law_r15 : ∀ w ∈ wsL_law_r15, w ∈ lw_tbl := mem_r [585, 4, 586, 587, 589, 5, 603, 605, 9, 606, 222, 594, 595, 597, 7, 598, 599, 601, 8, 602, 607, 609, 10, 610] rfl
set_option maxRecDepth 100000 in
theorem in_wsL_law_r16 : ∀ w ∈ wsL_law_r16, w ∈ lw_tbl := mem_r [590, 591, 593, 6, 611, 612, 613, 614, 616, 11, 617, 618, 620, 12, 629, 631, 14, 632, 621, 622, 624, 13, 625, 626] rfl
set_option maxRecDepth 100000 in
theorem in_wsL_law_r17 : ∀ w ∈ wsL_law_r17, w ∈ lw_tbl := mem_r [627, 628, 633, 634, 635, 636, 637, 639, 638, 118, 230, 1298, 1299, 1300, 1301, 1302, 1063, 1064, 1065, 1066, 1067, 1050, 1303, 1305] rfl
set_option maxRecDepth 100000 in
theorem in_wsL_law_r18 : ∀ w ∈ wsL_law_r18, w ∈ lw_tbl := mem_r [40, 1306, 1307, 1309, 41, 1310, 1069, 1068, 1311, 1313, 42, 1314, 1315, 1317, 43, 1318, 1319, 1321, 44, 1322, 1071, 1323, 1325, 45] rfl
set_option maxRecDepth 100000 in
theorem in_wsL_law_r19 : ∀ w ∈ wsL_law_r19, w ∈ lw_tbl := mem_r [1326, 1327, 1329, 46, 1330, 1331, 1333, 47, 1334, 1335, 1337, 48, 1338, 1339, 1340, 1341, 1343, 49, 1344, 1345, 1347, 50, 1348, 1349] rfl
set_option maxRecDepth 100000 in
theorem in_wsL_law_r20 : ∀ w ∈ wsL_law_r20, w ∈ lw_tbl := mem_r [1350, 1351, 1352, 1354, 51, 1355, 1356, 1357, 1358, 1359, 1360, 1361, 1362, 1364, 52, 1365, 1366, 1368, 53, 1369, 1370, 1372, 54, 1373] rfl
set_option maxRecDepth 100000 in
theorem in_wsL_law_r21 : ∀ w ∈ wsL_law_r21, w ∈ lw_tbl := mem_r [1070, 1374, 1376, 55, 1377, 1378, 1379, 1380, 1381, 1383, 56, 1384, 1385, 1387, 57, 1388, 1389, 1391, 58, 1392, 640, 641, 642, 643] rfl
set_option maxRecDepth 100000 in
theorem in_wsL_law_r22 : ∀ w ∈ wsL_law_r22, w ∈ lw_tbl := mem_r [644, 645, 646, 647, 164, 648, 649, 650, 651, 652, 654, 15, 655, 233, 168, 171, 189, 184, 155, 656, 657, 658, 659, 664] rfl
set_option maxRecDepth 100000 in
theorem in_wsL_law_r23 : ∀ w ∈ wsL_law_r23, w ∈ lw_tbl := mem_r [665, 119, 666, 667, 668, 669, 660, 662, 16, 663, 670, 672, 17, 673, 175, 1393, 1394, 1395, 1396, 1397, 1398, 1399, 1401, 59] rfl
set_option maxRecDepth 100000 in
theorem in_wsL_law_r24 : ∀ w ∈ wsL_law_r24, w ∈ lw_tbl := mem_r [1402, 1403, 1405, 60, 1406, 1073, 1074, 1075, 1076, 1077, 1078, 1079, 1407, 1409, 61, 1410, 1411, 1413, 62, 1414, 1415, 1417, 63, 1418] rfl
set_option maxRecDepth 100000 in
theorem in_wsL_law_r25 : ∀ w ∈ wsL_law_r25, w ∈ lw_tbl := mem_r [1419, 1420, 1421, 1422, 1424, 64, 1425, 1426, 1427, 1428, 674, 675, 676, 677, 291, 678, 679, 680, 681, 682, 684, 18, 685, 1429] rfl
set_option maxRecDepth 100000 in
theorem in_wsL_law_r26 : ∀ w ∈ wsL_law_r26, w ∈ lw_tbl := mem_r [1430, 1431, 1432, 1433, 1434, 1436, 65, 1437, 1438, 1440, 66, 1441, 686, 687, 688, 689, 690, 692, 19, 693, 694, 695, 696, 697] rfl
set_option maxRecDepth 100000 in
theorem in_wsL_law_r27 : ∀ w ∈ wsL_law_r27, w ∈ lw_tbl := mem_r [698, 700, 701, 702, 704, 705, 706, 707, 708, 709, 710, 711, 712, 713, 714, 1442, 1443, 1444, 1445, 1446, 1455, 1447, 1449, 67] rfl
set_option maxRecDepth 100000 in
theorem in_wsL_law_r28 : ∀ w ∈ wsL_law_r28, w ∈ lw_tbl := mem_r [1450, 1451, 1452, 1453, 1454, 1456, 1458, 68, 1459, 1460, 1461, 1462, 1463, 1465, 69, 1466, 1467, 1469, 70, 1470, 1471, 1473, 71, 1474] rfl
set_option maxRecDepth 100000 in
theorem in_wsL_law_r29 : ∀ w ∈ wsL_law_r29, w ∈ lw_tbl := mem_r [715, 716, 717, 718, 318, 719, 720, 721, 722, 159, 723, 724, 725, 726, 319, 158, 322, 179, 154, 727, 728, 729, 730, 731] rfl
set_option maxRecDepth 100000 in
theorem in_wsL_law_r30 : ∀ w ∈ wsL_law_r30, w ∈ lw_tbl := mem_r [733, 734, 735, 736, 737, 738, 739, 740, 741, 742, 744, 20, 745, 327, 746, 748, 21, 749, 290, 750, 752, 22, 753, 758] rfl
set_option maxRecDepth 100000 in
theorem in_wsL_law_r31 : ∀ w ∈ wsL_law_r31, w ∈ lw_tbl := mem_r [754, 756, 23, 757, 759, 760, 761, 762, 1475, 1476, 1477, 1478, 1479, 1481, 72, 1482, 1483, 1485, 73, 1486, 1487, 1489, 74, 1490] rfl
set_option maxRecDepth 100000 in
theorem in_wsL_law_r32 : ∀ w ∈ wsL_law_r32, w ∈ lw_tbl := mem_r [1083, 1084, 1491, 1493, 75, 1494, 1495, 1496, 1497, 1498, 1500, 76, 1501, 1502, 1504, 77, 1505, 1506, 1508, 78, 1509, 1510, 1512, 79] rfl
set_option maxRecDepth 100000 in
theorem in_wsL_law_r33 : ∀ w ∈ wsL_law_r33, w ∈ lw_tbl := mem_r [1513, 1514, 1516, 80, 1517, 763, 764, 765, 766, 767, 772, 768, 769, 770, 771, 1518, 1519, 1520, 1521, 1522, 773, 774, 775, 776] rfl
set_option maxRecDepth 100000 in
theorem in_wsL_law_r34 : ∀ w ∈ wsL_law_r34, w ∈ lw_tbl := mem_r [320, 777, 1523, 1524, 1525, 1526, 778, 779, 780, 781, 316, 1527, 1528, 1529, 1530, 782, 783, 784, 785, 786, 788, 24, 789, 791] rfl
set_option maxRecDepth 100000 in
theorem in_wsL_law_r35 : ∀ w ∈ wsL_law_r35, w ∈ lw_tbl := mem_r [796, 790, 792, 793, 794, 795, 1531, 1532, 1533, 1534, 1535, 1536, 1537, 1539, 81, 1540, 797, 798, 799, 800, 801, 803, 25, 804] rfl
set_option maxRecDepth 100000 in
theorem in_wsL_law_r36 : ∀ w ∈ wsL_law_r36, w ∈ lw_tbl := mem_r [805, 806, 807, 808, 809, 1541, 1542, 1543, 1544, 1545, 1547, 82, 1548, 1549, 1551, 83, 1552, 810, 811, 812, 813, 1553, 1554, 1555] rfl
set_option maxRecDepth 100000 in
theorem in_wsL_law_r37 : ∀ w ∈ wsL_law_r37, w ∈ lw_tbl := mem_r [1556, 814, 815, 816, 817, 818, 819, 820, 821, 1557, 1558, 1559, 1560, 822, 823, 824, 825, 826, 828, 26, 829, 1561, 1562, 1563] rfl
set_option maxRecDepth 100000 in
theorem in_wsL_law_r38 : ∀ w ∈ wsL_law_r38, w ∈ lw_tbl := mem_r [1564, 1565, 1570, 1566, 1568, 84, 1569, 830, 831, 832, 833, 136, 367, 834, 1571, 1572, 1573, 1574, 835, 836, 837, 838, 374, 839] rfl
set_option maxRecDepth 100000 in
theorem in_wsL_law_r39 : ∀ w ∈ wsL_law_r39, w ∈ lw_tbl := mem_r [840, 841, 842, 368, 1575, 1576, 1577, 1578, 1579, 843, 844, 845, 846, 376, 847, 848, 849, 850, 375, 166, 851, 852, 853, 854] rfl
set_option maxRecDepth 100000 in
theorem in_wsL_law_r40 : ∀ w ∈ wsL_law_r40, w ∈ lw_tbl := mem_r [856, 27, 857, 157, 869, 858, 859, 860, 861, 862, 863, 864, 865, 866, 160, 867, 868, 870, 871, 873, 28, 874, 875, 876] rfl
set_option maxRecDepth 100000 in
theorem in_wsL_law_r41 : ∀ w ∈ wsL_law_r41, w ∈ lw_tbl := mem_r [877, 878, 879, 880, 881, 882, 883, 884, 885, 886, 887, 888, 889, 890, 891, 893, 894, 895, 896, 1580, 1581, 1582, 1583, 1584] rfl
set_option maxRecDepth 100000 in
theorem in_wsL_law_r42 : ∀ w ∈ wsL_law_r42, w ∈ lw_tbl := mem_r [1100, 1101, 1585, 1587, 85, 1588, 1097, 1589, 1591, 86, 1592, 1593, 1595, 87, 1596, 1096, 1597, 1599, 88, 1600, 1601, 1603, 89, 1604] rfl
set_option maxRecDepth 100000 in
theorem in_wsL_law_r43 : ∀ w ∈ wsL_law_r43, w ∈ lw_tbl := mem_r [1605, 1607, 90, 1608, 1609, 1611, 91, 1612, 1613, 1615, 92, 1616, 1617, 1619, 93, 1620, 897, 898, 899, 900, 380, 901, 1621, 1622] rfl
set_option maxRecDepth 100000 in
theorem in_wsL_law_r44 : ∀ w ∈ wsL_law_r44, w ∈ lw_tbl := mem_r [1623, 1624, 902, 903, 904, 905, 906, 907, 908, 909, 417, 432, 433, 423, 910, 163, 911, 424, 434, 940, 941, 942, 912, 914] rfl
set_option maxRecDepth 100000 in
theorem in_wsL_law_r45 : ∀ w ∈ wsL_law_r45, w ∈ lw_tbl := mem_r [29, 915, 156, 916, 917, 918, 919, 921, 30, 922, 924, 926, 31, 927, 929, 928, 930, 931, 933, 32, 934, 935, 936, 938] rfl
set_option maxRecDepth 100000 in
theorem in_wsL_law_r46 : ∀ w ∈ wsL_law_r46, w ∈ lw_tbl := mem_r [33, 939, 943, 945, 34, 946, 947, 948, 950, 35, 951, 952, 953, 954, 955, 956, 957, 958, 959, 960, 1625, 1626, 1627, 1628] rfl
set_option maxRecDepth 100000 in
theorem in_wsL_law_r47 : ∀ w ∈ wsL_law_r47, w ∈ lw_tbl := mem_r [1629, 1631, 94, 1632, 1633, 1635, 95, 1636, 1637, 1639, 96, 1640, 1641, 1642, 1643, 1644, 1646, 97, 1647, 1648, 1650, 98, 1651, 1652] rfl
set_option maxRecDepth 100000 in
theorem in_wsL_law_r48 : ∀ w ∈ wsL_law_r48, w ∈ lw_tbl := mem_r [1654, 99, 1655, 961, 962, 963, 964, 1656, 1657, 1658, 1659, 1660, 1662, 100, 1663, 1664, 1666, 101, 1667, 1668, 1669, 1670, 965, 966] rfl
set_option maxRecDepth 100000 in
theorem in_wsL_law_r49 : ∀ w ∈ wsL_law_r49, w ∈ lw_tbl := mem_r [967, 968, 969, 970, 971, 972, 973, 1671, 1672, 1673, 1674, 974, 975, 976, 977, 978, 979, 980, 981, 162, 153, 983, 982, 984] rfl
set_option maxRecDepth 100000 in
theorem in_wsL_law_r50 : ∀ w ∈ wsL_law_r50, w ∈ lw_tbl := mem_r [985, 986, 987, 988, 989, 990, 991, 185, 992, 993, 994, 995, 996, 997, 999, 36, 1000, 1001, 1003, 37, 1004, 1005, 1675, 1676] rfl
set_option maxRecDepth 100000 in
theorem in_wsL_law_r51 : ∀ w ∈ wsL_law_r51, w ∈ lw_tbl := mem_r [1677, 1678, 1679, 1681, 102, 1682, 1683, 1685, 103, 1686, 1006, 1007, 1008, 1009, 1010, 1011, 1012, 1013, 187, 1687, 1688, 1689, 1690, 1014] rfl
set_option maxRecDepth 100000 in
theorem in_wsL_law_r52 : ∀ w ∈ wsL_law_r52, w ∈ lw_tbl := mem_r [1015, 1016, 1017, 378, 1018, 1019, 1020, 1021, 1691, 1692, 1693, 1694, 1695, 1697, 104, 1698, 1022, 1023, 1024, 1025, 1699, 1700, 1701, 1702] rfl
set_option maxRecDepth 100000 in
theorem in_wsX9 : ∀ w ∈ wsX90, w ∈ lw_tbl := mem_r [508, 510, 512, 514, 516, 518, 520, 522, 524] rfl
set_option maxRecDepth 100000 in
theorem in_wsX10 : ∀ w ∈ wsX100, w ∈ lw_tbl := mem_r [1108, 1110, 1112, 1114, 1116, 1118, 1120, 1122, 1124, 1126, 1128, 1130, 1132, 1134, 1136, 1138, 1140, 1142, 1144, 1146, 1148, 1150, 1152, 1154, 1156, 1158, 1160, 1162, 1164, 1166, 1168, 1170, 1172, 1174, 1176, 1178, 1180, 1182, 1184, 1186, 1188, 1190, 1192, 1194, 1196, 1198, 1200, 1202, 1204, 1206, 1208, 1210, 1212, 1214, 1216, 1218, 1220, 1222, 1224, 1226, 1228, 1230, 1232, 1234, 1236, 1238, 1240, 1242, 1244, 1246, 1248, 1250, 1252, 1254] rfl
set_option maxRecDepth 100000 in
theorem in_wsX8 : ∀ w ∈ wsX80, w ∈ lw_tbl := mem_r [139, 141] rfl
set_option maxRecDepth 100000 in
theorem in_wsX0 : ∀ w ∈ wsX00, w ∈ lw_tbl := mem_r [191, 193, 195, 197, 199, 201, 203, 205, 207, 209, 211] rfl
set_option maxRecDepth 100000 in
theorem in_wsX6 : ∀ w ∈ wsX60, w ∈ lw_tbl := mem_r [235, 237, 239, 241, 243, 245, 247] rfl
set_option maxRecDepth 100000 in
theorem in_wsX5 : ∀ w ∈ wsX50, w ∈ lw_tbl := mem_r [266, 268, 270, 272, 274, 276, 278] rfl
set_option maxRecDepth 100000 in
theorem in_wsX3 : ∀ w ∈ wsX30, w ∈ lw_tbl := mem_r [296, 298, 300, 302, 304, 306] rfl
set_option maxRecDepth 100000 in
theorem in_wsX4 : ∀ w ∈ wsX40, w ∈ lw_tbl := mem_r [331, 333, 335, 337, 339, 341, 343, 345, 347, 349, 351, 353, 355] rfl
set_option maxRecDepth 100000 in
theorem in_wsX1 : ∀ w ∈ wsX10, w ∈ lw_tbl := mem_r [384, 386, 388, 390, 392, 394, 396, 398, 400, 402, 404] rfl
set_option maxRecDepth 100000 in
theorem in_wsX7 : ∀ w ∈ wsX70, w ∈ lw_tbl := mem_r [438, 440, 442, 444, 446, 448, 450, 452, 454, 456, 458, 460, 462, 464, 466, 468, 470, 472, 474, 476] rfl
set_option maxRecDepth 100000 in
theorem in_wsX2 : ∀ w ∈ wsX20, w ∈ lw_tbl := mem_r [490, 492, 494, 496] rfl
theorem wsL_law_in : ∀ w ∈ wsL_law, w ∈ lw_tbl := app_m (app_m (app_m (app_m (app_m (app_m (app_m (app_m (app_m (app_m (app_m (app_m (app_m in_wsL_law_r1 (app_m in_wsL_law_r2 (app_m in_wsL_law_r3 (app_m in_wsL_law_r4 (app_m in_wsL_law_r5 (app_m in_wsL_law_r6 (app_m in_wsL_law_r7 (app_m in_wsL_law_r8 (app_m in_wsL_law_r9 (app_m in_wsL_law_r10 (app_m in_wsL_law_r11 (app_m in_wsL_law_r12 (app_m in_wsL_law_r13 (app_m in_wsL_law_r14 (app_m in_wsL_law_r15 (app_m in_wsL_law_r16 (app_m in_wsL_law_r17 (app_m in_wsL_law_r18 (app_m in_wsL_law_r19 (app_m in_wsL_law_r20 (app_m in_wsL_law_r21 (app_m in_wsL_law_r22 (app_m in_wsL_law_r23 (app_m in_wsL_law_r24 (app_m in_wsL_law_r25 (app_m in_wsL_law_r26 (app_m in_wsL_law_r27 (app_m in_wsL_law_r28 (app_m in_wsL_law_r29 (app_m in_wsL_law_r30 (app_m in_wsL_law_r31 (app_m in_wsL_law_r32 (app_m in_wsL_law_r33 (app_m in_wsL_law_r34 (app_m in_wsL_law_r35 (app_m in_wsL_law_r36 (app_m in_wsL_law_r37 (app_m in_wsL_law_r38 (app_m in_wsL_law_r39 (app_m in_wsL_law_r40 (app_m in_wsL_law_r41 (app_m in_wsL_law_r42 (app_m in_wsL_law_r43 (app_m in_wsL_law_r44 (app_m in_wsL_law_r45 (app_m in_wsL_law_r46 (app_m in_wsL_law_r47 (app_m in_wsL_law_r48 (app_m in_wsL_law_r49 (app_m in_wsL_law_r50 (app_m in_wsL_law_r51 (in_wsL_law_r52)))))))))))))))))))))))))))))))))))))))))))))))))))) in_wsX9) in_wsX10) in_wsX8) in_wsX0) in_wsX6) in_wsX5) in_wsX3) in_wsX4) in_wsX1) in_wsX7) in_wsX2) (fun _ h => absurd h List.not_mem_nil)
set_option maxRecDepth 20000 in
theorem inlX0 : ∀ w ∈ wsX00, w ∈ wsL_law := fun _ h => List.mem_append_left _ (List.mem_append_left _ (List.mem_append_left _ (List.mem_append_left _ (List.mem_append_left _ (List.mem_append_left _ (List.mem_append_left _ (List.mem_append_left _ (List.mem_append_right _ h))))))))
theorem inX0 : ∀ w ∈ wsX00, w ∈ lw_tbl := fun w h => wsL_law_in w (inlX0 w h)
theorem inlX1 : ∀ w ∈ wsX10, w ∈ wsL_law := fun _ h => List.mem_append_left _ (List.mem_append_left _ (List.mem_append_left _ (List.mem_append_right _ h)))
theorem inX1 : ∀ w ∈ wsX10, w ∈ lw_tbl := fun w h => wsL_law_in w (inlX1 w h)
theorem inlX2 : ∀ w ∈ wsX20, w ∈ wsL_law := fun _ h => List.mem_append_left _ (List.mem_append_right _ h)
theorem inX2 : ∀ w ∈ wsX20, w ∈ lw_tbl := fun w h => wsL_law_in w (inlX2 w h)
theorem inlX3 : ∀ w ∈ wsX30, w ∈ wsL_law := fun _ h => List.mem_append_left _ (List.mem_append_left _ (List.mem_append_left _ (List.mem_append_left _ (List.mem_append_left _ (List.mem_append_right _ h)))))
theorem inX3 : ∀ w ∈ wsX30, w ∈ lw_tbl := fun w h => wsL_law_in w (inlX3 w h)
theorem inlX4 : ∀ w ∈ wsX40, w ∈ wsL_law := fun _ h => List.mem_append_left _ (List.mem_append_left _ (List.mem_append_left _ (List.mem_append_left _ (List.mem_append_right _ h))))
theorem inX4 : ∀ w ∈ wsX40, w ∈ lw_tbl := fun w h => wsL_law_in w (inlX4 w h)
theorem inlX5 : ∀ w ∈ wsX50, w ∈ wsL_law := fun _ h => List.mem_append_left _ (List.mem_append_left _ (List.mem_append_left _ (List.mem_append_left _ (List.mem_append_left _ (List.mem_append_left _ (List.mem_append_right _ h))))))
theorem inX5 : ∀ w ∈ wsX50, w ∈ lw_tbl := fun w h => wsL_law_in w (inlX5 w h)
theorem inlX6 : ∀ w ∈ wsX60, w ∈ wsL_law := fun _ h => List.mem_append_left _ (List.mem_append_left _ (List.mem_append_left _ (List.mem_append_left _ (List.mem_append_left _ (List.mem_append_left _ (List.mem_append_left _ (List.mem_append_right _ h)))))))
theorem inX6 : ∀ w ∈ wsX60, w ∈ lw_tbl := fun w h => wsL_law_in w (inlX6 w h)
theorem inlX7 : ∀ w ∈ wsX70, w ∈ wsL_law := fun _ h => List.mem_append_left _ (List.mem_append_left _ (List.mem_append_right _ h))
theorem inX7 : ∀ w ∈ wsX70, w ∈ lw_tbl := fun w h => wsL_law_in w (inlX7 w h)
theorem inlX8 : ∀ w ∈ wsX80, w ∈ wsL_law := fun _ h => List.mem_append_left _ (List.mem_append_left _ (List.mem_append_left _ (List.mem_append_left _ (List.mem_append_left _ (List.mem_append_left _ (List.mem_append_left _ (List.mem_append_left _ (List.mem_append_left _ (List.mem_append_right _ h)))))))))
theorem inX8 : ∀ w ∈ wsX80, w ∈ lw_tbl := fun w h => wsL_law_in w (inlX8 w h)
theorem inlX9 : ∀ w ∈ wsX90, w ∈ wsL_law := fun _ h => List.mem_append_left _ (List.mem_append_left _ (List.mem_append_left _ (List.mem_append_left _ (List.mem_append_left _ (List.mem_append_left _ (List.mem_append_left _ (List.mem_append_left _ (List.mem_append_left _ (List.mem_append_left _ (List.mem_append_left _ (List.mem_append_right _ h)))))))))))
theorem inX9 : ∀ w ∈ wsX90, w ∈ lw_tbl := fun w h => wsL_law_in w (inlX9 w h)
theorem inlX10 : ∀ w ∈ wsX100, w ∈ wsL_law := fun _ h => List.mem_append_left _ (List.mem_append_left _ (List.mem_append_left _ (List.mem_append_left _ (List.mem_append_left _ (List.mem_append_left _ (List.mem_append_left _ (List.mem_append_left _ (List.mem_append_left _ (List.mem_append_left _ (List.mem_append_right _ h))))))))))
theorem inX10 : ∀ w ∈ wsX100, w ∈ lw_tbl := fun w h => wsL_law_in w (inlX10 w h)
theorem gw_X9 : GoodIn wsL_law wsX90 := goodIn_sub inlX9 (by decide +kernel)
theorem gw_X10 : GoodIn wsL_law wsX100 := goodIn_sub inlX10 (by decide +kernel)
theorem gw_X8 : GoodIn wsL_law wsX80 := goodIn_sub inlX8 (by decide +kernel)
theorem gw_X0 : GoodIn wsL_law wsX00 := goodIn_sub inlX0 (by decide +kernel)
theorem gw_X6 : GoodIn wsL_law wsX60 := goodIn_sub inlX6 (by decide +kernel)
theorem gw_X5 : GoodIn wsL_law wsX50 := goodIn_sub inlX5 (by decide +kernel)
theorem gw_X3 : GoodIn wsL_law wsX30 := goodIn_sub inlX3 (by decide +kernel)
theorem gw_X4 : GoodIn wsL_law wsX40 := goodIn_sub inlX4 (by decide +kernel)
theorem gw_X1 : GoodIn wsL_law wsX10 := goodIn_sub inlX1 (by decide +kernel)
theorem gw_X7 : GoodIn wsL_law wsX70 := goodIn_sub inlX7 (by decide +kernel)
theorem gw_X2 : GoodIn wsL_law wsX20 := goodIn_sub inlX2 (by decide +kernel)
