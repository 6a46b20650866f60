theorem px_sub {big : List Cond} (ws : List Cond) (ps : List Nat) (hp : ws = ps.filterMap (fun i => big[i]?)) : ∀ w ∈ ws, w ∈ big := by
  intro w hw
  rw [hp] at hw
  obtain ⟨i, -, hi⟩ := List.mem_filterMap.mp hw
  exact List.mem_of_getElem? hi
set_option maxRecDepth 20000 in
theorem in_wsL_law0_r1 : ∀ w ∈ wsL_law0_r1, w ∈ lw_tbl := px_sub _ [95, 96, 68, 1154, 1155, 75, 1619, 97, 98, 99, 100, 101, 102, 103, 104, 69, 237, 126, 127, 70, 238, 143, 144, 71] (by decide +kernel)
set_option maxRecDepth 20000 in
theorem in_wsL_law0_r2 : ∀ w ∈ wsL_law0_r2, w ∈ lw_tbl := px_sub _ [239, 165, 166, 72, 240, 241, 180, 242, 182, 243, 184, 244, 186, 187, 73, 245, 209, 210, 74, 246, 251, 106, 107, 108] (by decide +kernel)
set_option maxRecDepth 20000 in
theorem in_wsL_law0_r3 : ∀ w ∈ wsL_law0_r3, w ∈ lw_tbl := px_sub _ [125, 109, 114, 129, 130, 131, 132, 134, 146, 147, 148, 149, 150, 164, 151, 152, 167, 168, 169, 170, 171, 173, 189, 190] (by decide +kernel)
set_option maxRecDepth 20000 in
theorem in_wsL_law0_r4 : ∀ w ∈ wsL_law0_r4, w ∈ lw_tbl := px_sub _ [191, 192, 193, 194, 212, 213, 214, 215, 216, 236, 219, 220, 221, 222, 1156, 1157, 1158, 1159, 1163, 1164, 1165, 1166, 1167, 1168] (by decide +kernel)
set_option maxRecDepth 20000 in
theorem in_wsL_law0_r5 : ∀ w ∈ wsL_law0_r5, w ∈ lw_tbl := px_sub _ [1169, 1170, 1171, 1172, 1174, 1175, 1176, 1177, 1178, 1179, 1180, 1184, 1187, 1188, 1197, 1198, 1199, 1200, 1201, 1202, 1203, 1204, 1206, 1207] (by decide +kernel)
set_option maxRecDepth 20000 in
theorem in_wsL_law0_r6 : ∀ w ∈ wsL_law0_r6, w ∈ lw_tbl := px_sub _ [1208, 1209, 1210, 1211, 1212, 1213, 1214, 1215, 1216, 1217, 1218, 1219, 1220, 1222, 1223, 1224, 1225, 1226, 1227, 1229, 1230, 286, 287, 288] (by decide +kernel)
set_option maxRecDepth 20000 in
theorem in_wsL_law0_r7 : ∀ w ∈ wsL_law0_r7, w ∈ lw_tbl := px_sub _ [289, 111, 290, 291, 292, 293, 110, 294, 295, 296, 297, 1378, 1379, 1380, 1381, 1160, 1181, 1382, 1384, 36, 1385, 298, 299, 300] (by decide +kernel)
set_option maxRecDepth 20000 in
theorem in_wsL_law0_r8 : ∀ w ∈ wsL_law0_r8, w ∈ lw_tbl := px_sub _ [301, 1386, 1387, 1388, 1389, 374, 375, 67, 376, 377, 378, 379, 380, 381, 382, 384, 79, 458, 80, 137, 383, 327, 328, 453] (by decide +kernel)
set_option maxRecDepth 20000 in
theorem in_wsL_law0_r9 : ∀ w ∈ wsL_law0_r9, w ∈ lw_tbl := px_sub _ [454, 455, 456, 136, 486, 474, 475, 476, 477, 478, 81, 479, 480, 481, 482, 499, 500, 501, 483, 485, 488, 490, 492, 1390] (by decide +kernel)
set_option maxRecDepth 20000 in
theorem in_wsL_law0_r10 : ∀ w ∈ wsL_law0_r10, w ∈ lw_tbl := px_sub _ [1391, 1392, 1393, 1162, 1394, 1395, 1396, 1397, 1399, 37, 1400, 1374, 1375, 1376, 1377, 523, 524, 525, 526, 527, 528, 529, 530, 498] (by decide +kernel)
set_option maxRecDepth 20000 in
theorem in_wsL_law0_r11 : ∀ w ∈ wsL_law0_r11, w ∈ lw_tbl := px_sub _ [531, 533, 8, 534, 540, 82, 535, 536, 537, 538, 558, 559, 560, 561, 497, 1401, 1402, 1403, 1404, 1405, 1407, 38, 1408, 562] (by decide +kernel)
set_option maxRecDepth 20000 in
theorem in_wsL_law0_r12 : ∀ w ∈ wsL_law0_r12, w ∈ lw_tbl := px_sub _ [563, 564, 565, 566, 567, 568, 569, 570, 571, 572, 1409, 1410, 1411, 1412, 1413, 1415, 39, 1416, 574, 575, 576, 577, 578, 579] (by decide +kernel)
set_option maxRecDepth 20000 in
theorem in_wsL_law0_r13 : ∀ w ∈ wsL_law0_r13, w ∈ lw_tbl := px_sub _ [580, 252, 154, 583, 584, 585, 586, 153, 1417, 1418, 1419, 1420, 1161, 1173, 587, 588, 589, 590, 591, 592, 593, 496, 1421, 1422] (by decide +kernel)
set_option maxRecDepth 20000 in
theorem in_wsL_law0_r14 : ∀ w ∈ wsL_law0_r14, w ∈ lw_tbl := px_sub _ [1423, 1424, 594, 595, 596, 597, 598, 599, 600, 601, 602, 603, 604, 605, 353, 352, 83, 606, 607, 608, 609, 112, 610, 612] (by decide +kernel)
set_option maxRecDepth 20000 in
theorem in_wsL_law0_r15 : ∀ w ∈ wsL_law0_r15, w ∈ lw_tbl := px_sub _ [9, 613, 614, 616, 10, 617, 113, 172, 714, 619, 620, 621, 622, 623, 624, 625, 84, 626, 1641, 627, 628, 629, 630, 631] (by decide +kernel)
set_option maxRecDepth 20000 in
theorem in_wsL_law0_r16 : ∀ w ∈ wsL_law0_r16, w ∈ lw_tbl := px_sub _ [1642, 633, 635, 11, 636, 637, 638, 639, 640, 641, 642, 643, 644, 645, 646, 85, 647, 648, 649, 650, 651, 653, 654, 86] (by decide +kernel)
set_option maxRecDepth 20000 in
theorem in_wsL_law0_r17 : ∀ w ∈ wsL_law0_r17, w ∈ lw_tbl := px_sub _ [655, 656, 657, 87, 658, 659, 660, 661, 662, 663, 664, 665, 666, 667, 668, 669, 671, 673, 675, 677, 12, 678, 174, 484] (by decide +kernel)
set_option maxRecDepth 20000 in
theorem in_wsL_law0_r18 : ∀ w ∈ wsL_law0_r18, w ∈ lw_tbl := px_sub _ [679, 681, 13, 682, 683, 684, 685, 686, 687, 689, 14, 690, 691, 693, 15, 694, 695, 696, 697, 698, 699, 701, 702, 703] (by decide +kernel)
set_option maxRecDepth 20000 in
theorem in_wsL_law0_r19 : ∀ w ∈ wsL_law0_r19, w ∈ lw_tbl := px_sub _ [704, 705, 706, 708, 16, 709, 716, 717, 718, 719, 720, 721, 722, 723, 724, 726, 17, 727, 115, 728, 729, 730, 731, 1425] (by decide +kernel)
set_option maxRecDepth 20000 in
theorem in_wsL_law0_r20 : ∀ w ∈ wsL_law0_r20, w ∈ lw_tbl := px_sub _ [1426, 1427, 1428, 1183, 1429, 1431, 40, 1432, 1182, 1433, 1435, 41, 1436, 1437, 1185, 1465, 1470, 1471, 1472, 1473, 1474, 1438, 1440, 42] (by decide +kernel)
set_option maxRecDepth 20000 in
theorem in_wsL_law0_r21 : ∀ w ∈ wsL_law0_r21, w ∈ lw_tbl := px_sub _ [1441, 1442, 1444, 43, 1445, 1446, 1448, 44, 1449, 1450, 1452, 45, 1453, 1454, 1456, 46, 1457, 1458, 1459, 1460, 1461, 1463, 47, 1464] (by decide +kernel)
set_option maxRecDepth 20000 in
theorem in_wsL_law0_r22 : ∀ w ∈ wsL_law0_r22, w ∈ lw_tbl := px_sub _ [1466, 1468, 48, 1469, 733, 734, 735, 736, 737, 738, 739, 740, 741, 88, 1475, 1476, 1477, 1478, 757, 758, 759, 760, 761, 762] (by decide +kernel)
set_option maxRecDepth 20000 in
theorem in_wsL_law0_r23 : ∀ w ∈ wsL_law0_r23, w ∈ lw_tbl := px_sub _ [763, 1479, 1480, 1481, 1482, 764, 765, 766, 767, 768, 769, 770, 771, 89, 784, 250, 247, 788, 773, 774, 775, 776, 778, 810] (by decide +kernel)
set_option maxRecDepth 20000 in
theorem in_wsL_law0_r24 : ∀ w ∈ wsL_law0_r24, w ∈ lw_tbl := px_sub _ [812, 18, 813, 820, 782, 783, 815, 816, 817, 818, 780, 823, 825, 19, 826, 777, 785, 786, 787, 827, 829, 20, 830, 781] (by decide +kernel)
set_option maxRecDepth 20000 in
theorem in_wsL_law0_r25 : ∀ w ∈ wsL_law0_r25, w ∈ lw_tbl := px_sub _ [779, 831, 833, 21, 834, 835, 837, 22, 838, 135, 487, 839, 840, 841, 842, 844, 23, 845, 846, 848, 24, 849, 850, 852] (by decide +kernel)
set_option maxRecDepth 20000 in
theorem in_wsL_law0_r26 : ∀ w ∈ wsL_law0_r26, w ∈ lw_tbl := px_sub _ [25, 853, 854, 855, 856, 857, 858, 860, 26, 861, 248, 863, 865, 27, 866, 867, 90, 899, 900, 91, 868, 869, 870, 871] (by decide +kernel)
set_option maxRecDepth 20000 in
theorem in_wsL_law0_r27 : ∀ w ∈ wsL_law0_r27, w ∈ lw_tbl := px_sub _ [872, 880, 874, 876, 878, 882, 901, 902, 903, 904, 923, 905, 908, 911, 948, 949, 950, 951, 884, 358, 360, 4, 361, 1487] (by decide +kernel)
set_option maxRecDepth 20000 in
theorem in_wsL_law0_r28 : ∀ w ∈ wsL_law0_r28, w ∈ lw_tbl := px_sub _ [1488, 1489, 1490, 1189, 1191, 1192, 1193, 1190, 1205, 1196, 1194, 1195, 1186, 1491, 1493, 49, 1494, 1500, 1501, 1495, 1497, 50, 1498, 1499] (by decide +kernel)
set_option maxRecDepth 20000 in
theorem in_wsL_law0_r29 : ∀ w ∈ wsL_law0_r29, w ∈ lw_tbl := px_sub _ [1502, 1504, 51, 1505, 1506, 1508, 52, 1509, 1510, 1512, 53, 1513, 1514, 1515, 1516, 1517, 1519, 54, 1520, 1521, 1523, 55, 1524, 1525] (by decide +kernel)
set_option maxRecDepth 20000 in
theorem in_wsL_law0_r30 : ∀ w ∈ wsL_law0_r30, w ∈ lw_tbl := px_sub _ [1527, 56, 1528, 1529, 1531, 57, 1532, 1533, 1534, 1535, 302, 303, 304, 305, 1483, 1484, 1485, 1486, 953, 954, 955, 956, 957, 958] (by decide +kernel)
set_option maxRecDepth 20000 in
theorem in_wsL_law0_r31 : ∀ w ∈ wsL_law0_r31, w ∈ lw_tbl := px_sub _ [959, 960, 962, 28, 963, 1536, 1537, 1538, 1539, 1540, 1542, 58, 1543, 966, 967, 968, 969, 970, 971, 972, 973, 974, 92, 1544] (by decide +kernel)
set_option maxRecDepth 20000 in
theorem in_wsL_law0_r32 : ∀ w ∈ wsL_law0_r32, w ∈ lw_tbl := px_sub _ [1545, 1546, 1547, 990, 991, 992, 993, 994, 995, 996, 998, 1000, 29, 1001, 1002, 1003, 1004, 1005, 494, 1006, 1008, 30, 1009, 885] (by decide +kernel)
set_option maxRecDepth 20000 in
theorem in_wsL_law0_r33 : ∀ w ∈ wsL_law0_r33, w ∈ lw_tbl := px_sub _ [881, 197, 249, 1035, 94, 1010, 1011, 1012, 1013, 195, 196, 1014, 1016, 31, 1017, 907, 1022, 330, 93, 331, 914, 875, 1018, 1019] (by decide +kernel)
set_option maxRecDepth 20000 in
theorem in_wsL_law0_r34 : ∀ w ∈ wsL_law0_r34, w ∈ lw_tbl := px_sub _ [1020, 1021, 913, 915, 917, 1023, 1025, 32, 1026, 924, 489, 1027, 1028, 1029, 1030, 1031, 1033, 33, 1034, 916, 926, 918, 883, 912] (by decide +kernel)
set_option maxRecDepth 20000 in
theorem in_wsL_law0_r35 : ∀ w ∈ wsL_law0_r35, w ∈ lw_tbl := px_sub _ [1036, 1037, 1038, 1039, 1040, 1041, 1042, 1043, 1044, 1045, 1047, 1049, 1051, 1548, 1549, 1550, 1551, 1552, 1554, 59, 1555, 1556, 1558, 60] (by decide +kernel)
set_option maxRecDepth 20000 in
theorem in_wsL_law0_r36 : ∀ w ∈ wsL_law0_r36, w ∈ lw_tbl := px_sub _ [1559, 1221, 1560, 1562, 61, 1563, 1564, 1566, 62, 1567, 1062, 1063, 1064, 1065, 1066, 1067, 1068, 877, 879, 1069, 1071, 34, 1072, 1074] (by decide +kernel)
set_option maxRecDepth 20000 in
theorem in_wsL_law0_r37 : ∀ w ∈ wsL_law0_r37, w ∈ lw_tbl := px_sub _ [1075, 1076, 1077, 1078, 1568, 1569, 1570, 1571, 1572, 1574, 63, 1575, 1080, 1081, 1082, 1083, 1084, 1085, 1086, 910, 920, 922, 1087, 1088] (by decide +kernel)
set_option maxRecDepth 20000 in
theorem in_wsL_law0_r38 : ∀ w ∈ wsL_law0_r38, w ∈ lw_tbl := px_sub _ [1089, 1576, 1577, 1578, 1579, 1580, 1582, 64, 1583, 1092, 1093, 1094, 1095, 1096, 1097, 1098, 1100, 1101, 1102, 1103, 919, 921, 1104, 1105] (by decide +kernel)
set_option maxRecDepth 20000 in
theorem in_wsL_law0_r39 : ∀ w ∈ wsL_law0_r39, w ∈ lw_tbl := px_sub _ [1106, 1107, 1108, 925, 495, 1584, 1585, 1586, 1587, 1109, 1110, 1111, 1112, 1113, 1114, 1115, 1046, 1048, 1050, 1052, 1588, 1589, 1590, 1591] (by decide +kernel)
set_option maxRecDepth 20000 in
theorem in_wsL_law0_r40 : ∀ w ∈ wsL_law0_r40, w ∈ lw_tbl := px_sub _ [1118, 1119, 1120, 1121, 1122, 1123, 1124, 1125, 1126, 1127, 1128, 217, 1592, 1593, 1594, 1595, 1228, 306, 307, 308, 309, 218, 310, 311] (by decide +kernel)
set_option maxRecDepth 20000 in
theorem in_wsL_law0_r41 : ∀ w ∈ wsL_law0_r41, w ∈ lw_tbl := px_sub _ [312, 313, 314, 315, 317, 0, 318, 491, 319, 320, 321, 322, 324, 1, 325, 493, 329, 332, 334, 2, 335, 343, 347, 351] (by decide +kernel)
set_option maxRecDepth 20000 in
theorem in_wsL_law0_r42 : ∀ w ∈ wsL_law0_r42, w ∈ lw_tbl := px_sub _ [336, 338, 3, 339, 340, 341, 342, 345, 349, 1596, 1597, 1598, 1599, 1600, 1602, 65, 1603, 1604, 1605, 1606, 1607, 1609, 66, 1610] (by decide +kernel)
set_option maxRecDepth 20000 in
theorem in_wsL_law0_r43 : ∀ w ∈ wsL_law0_r43, w ∈ lw_tbl := px_sub _ [1129, 1130, 1131, 1132, 1133, 1134, 1135, 1152, 1137, 1139, 35, 1140, 1141, 1142, 1143, 1144, 906, 909, 1145, 1146, 1147, 1148, 1149, 1150] (by decide +kernel)
set_option maxRecDepth 20000 in
theorem in_wsL_law0_r44 : ∀ w ∈ wsL_law0_r44, w ∈ lw_tbl := px_sub _ [1151, 1611, 1612, 1613, 1614, 354, 355, 356, 357, 362, 364, 5, 365, 366, 368, 6, 369, 370, 371, 372, 373, 1615, 1616, 1617] (by decide +kernel)
set_option maxRecDepth 20000 in
theorem in_wsL_law0_r45 : ∀ w ∈ wsL_law0_r45, w ∈ lw_tbl := px_sub _ [1618] (by decide +kernel)
set_option maxRecDepth 20000 in
theorem in_wsX110 : ∀ w ∈ wsX110, w ∈ lw_tbl := by decide +kernel
set_option maxRecDepth 20000 in
theorem in_wsX120 : ∀ w ∈ wsX120, w ∈ lw_tbl := by decide +kernel
set_option maxRecDepth 20000 in
theorem in_wsX70 : ∀ w ∈ wsX70, w ∈ lw_tbl := by decide +kernel
set_option maxRecDepth 20000 in
theorem in_wsX00 : ∀ w ∈ wsX00, w ∈ lw_tbl := by decide +kernel
set_option maxRecDepth 20000 in
theorem in_wsX10 : ∀ w ∈ wsX10, w ∈ lw_tbl := by decide +kernel
set_option maxRecDepth 20000 in
theorem in_wsX50 : ∀ w ∈ wsX50, w ∈ lw_tbl := by decide +kernel
set_option maxRecDepth 20000 in
theorem in_wsX40 : ∀ w ∈ wsX40, w ∈ lw_tbl := by decide +kernel
set_option maxRecDepth 20000 in
theorem in_wsX90 : ∀ w ∈ wsX90, w ∈ lw_tbl := by decide +kernel
set_option maxRecDepth 20000 in
theorem in_wsX80 : ∀ w ∈ wsX80, w ∈ lw_tbl := by decide +kernel
set_option maxRecDepth 20000 in
theorem in_wsX20 : ∀ w ∈ wsX20, w ∈ lw_tbl := by decide +kernel
set_option maxRecDepth 20000 in
theorem in_wsX30 : ∀ w ∈ wsX30, w ∈ lw_tbl := by decide +kernel
set_option maxRecDepth 20000 in
theorem in_wsX100 : ∀ w ∈ wsX100, w ∈ lw_tbl := by decide +kernel
set_option maxRecDepth 20000 in
theorem in_wsX60 : ∀ w ∈ wsX60, w ∈ lw_tbl := by decide +kernel
theorem wsL_law_in0 : ∀ w ∈ wsL_law0, w ∈ lw_tbl := fun w h => (fun h => (List.mem_append.mp h).elim (fun h => (List.mem_append.mp h).elim (fun h => (List.mem_append.mp h).elim (fun h => (List.mem_append.mp h).elim (fun h => (List.mem_append.mp h).elim (fun h => (List.mem_append.mp h).elim (fun h => (List.mem_append.mp h).elim (fun h => (List.mem_append.mp h).elim (fun h => (List.mem_append.mp h).elim (fun h => (List.mem_append.mp h).elim (fun h => (List.mem_append.mp h).elim (fun h => (List.mem_append.mp h).elim (fun h => (List.mem_append.mp h).elim (fun h => (List.mem_append.mp h).elim (fun h => (List.mem_append.mp h).elim (fun h => in_wsL_law0_r1 w h) (fun h => (List.mem_append.mp h).elim (fun h => in_wsL_law0_r2 w h) (fun h => (List.mem_append.mp h).elim (fun h => in_wsL_law0_r3 w h) (fun h => (List.mem_append.mp h).elim (fun h => in_wsL_law0_r4 w h) (fun h => (List.mem_append.mp h).elim (fun h => in_wsL_law0_r5 w h) (fun h => (List.mem_append.mp h).elim (fun h => in_wsL_law0_r6 w h) (fun h => (List.mem_append.mp h).elim (fun h => in_wsL_law0_r7 w h) (fun h => (List.mem_append.mp h).elim (fun h => in_wsL_law0_r8 w h) (fun h => (List.mem_append.mp h).elim (fun h => in_wsL_law0_r9 w h) (fun h => (List.mem_append.mp h).elim (fun h => in_wsL_law0_r10 w h) (fun h => (List.mem_append.mp h).elim (fun h => in_wsL_law0_r11 w h) (fun h => (List.mem_append.mp h).elim (fun h => in_wsL_law0_r12 w h) (fun h => (List.mem_append.mp h).elim (fun h => in_wsL_law0_r13 w h) (fun h => (List.mem_append.mp h).elim (fun h => in_wsL_law0_r14 w h) (fun h => (List.mem_append.mp h).elim (fun h => in_wsL_law0_r15 w h) (fun h => (List.mem_append.mp h).elim (fun h => in_wsL_law0_r16 w h) (fun h => (List.mem_append.mp h).elim (fun h => in_wsL_law0_r17 w h) (fun h => (List.mem_append.mp h).elim (fun h => in_wsL_law0_r18 w h) (fun h => (List.mem_append.mp h).elim (fun h => in_wsL_law0_r19 w h) (fun h => (List.mem_append.mp h).elim (fun h => in_wsL_law0_r20 w h) (fun h => (List.mem_append.mp h).elim (fun h => in_wsL_law0_r21 w h) (fun h => (List.mem_append.mp h).elim (fun h => in_wsL_law0_r22 w h) (fun h => (List.mem_append.mp h).elim (fun h => in_wsL_law0_r23 w h) (fun h => (List.mem_append.mp h).elim (fun h => in_wsL_law0_r24 w h) (fun h => (List.mem_append.mp h).elim (fun h => in_wsL_law0_r25 w h) (fun h => (List.mem_append.mp h).elim (fun h => in_wsL_law0_r26 w h) (fun h => (List.mem_append.mp h).elim (fun h => in_wsL_law0_r27 w h) (fun h => (List.mem_append.mp h).elim (fun h => in_wsL_law0_r28 w h) (fun h => (List.mem_append.mp h).elim (fun h => in_wsL_law0_r29 w h) (fun h => (List.mem_append.mp h).elim (fun h => in_wsL_law0_r30 w h) (fun h => (List.mem_append.mp h).elim (fun h => in_wsL_law0_r31 w h) (fun h => (List.mem_append.mp h).elim (fun h => in_wsL_law0_r32 w h) (fun h => (List.mem_append.mp h).elim (fun h => in_wsL_law0_r33 w h) (fun h => (List.mem_append.mp h).elim (fun h => in_wsL_law0_r34 w h) (fun h => (List.mem_append.mp h).elim (fun h => in_wsL_law0_r35 w h) (fun h => (List.mem_append.mp h).elim (fun h => in_wsL_law0_r36 w h) (fun h => (List.mem_append.mp h).elim (fun h => in_wsL_law0_r37 w h) (fun h => (List.mem_append.mp h).elim (fun h => in_wsL_law0_r38 w h) (fun h => (List.mem_append.mp h).elim (fun h => in_wsL_law0_r39 w h) (fun h => (List.mem_append.mp h).elim (fun h => in_wsL_law0_r40 w h) (fun h => (List.mem_append.mp h).elim (fun h => in_wsL_law0_r41 w h) (fun h => (List.mem_append.mp h).elim (fun h => in_wsL_law0_r42 w h) (fun h => (List.mem_append.mp h).elim (fun h => in_wsL_law0_r43 w h) (fun h => (List.mem_append.mp h).elim (fun h => in_wsL_law0_r44 w h) (fun h => in_wsL_law0_r45 w h))))))))))))))))))))))))))))))))))))))))))))) (fun h => in_wsX110 w h)) (fun h => in_wsX120 w h)) (fun h => in_wsX70 w h)) (fun h => in_wsX00 w h)) (fun h => in_wsX10 w h)) (fun h => in_wsX50 w h)) (fun h => in_wsX40 w h)) (fun h => in_wsX90 w h)) (fun h => in_wsX80 w h)) (fun h => in_wsX20 w h)) (fun h => in_wsX30 w h)) (fun h => in_wsX100 w h)) (fun h => in_wsX60 w h)) (fun h => absurd h List.not_mem_nil)) h
