set_option maxRecDepth 20000 in
theorem in_wsL_law0_r35 : ∀ w ∈ wsL_law0_r35, w ∈ lw_tbl := fun w h => (goodIn_q wsL_law0_r35 [1493, 417, 1497, 421, 1501, 425] [414, 415, 416, 1494, 1495, 1496, 418, 419, 420, 1498, 1499, 1500, 422, 423, 424, 1502, 1503, 1504] rfl (by decide +kernel) (by decide +kernel) w h).1
set_option maxRecDepth 20000 in
theorem in_wsL_law0_r36 : ∀ w ∈ wsL_law0_r36, w ∈ lw_tbl := fun w h => (goodIn_q wsL_law0_r36 [1505, 429, 1509, 433, 1513] [426, 427, 428, 1506, 1507, 1508, 430, 431, 432, 292, 249, 1510, 1511, 1512, 1200, 915, 916, 917, 918] rfl (by decide +kernel) (by decide +kernel) w h).1
set_option maxRecDepth 20000 in
theorem in_wsL_law0_r37 : ∀ w ∈ wsL_law0_r37, w ∈ lw_tbl := fun w h => (goodIn_q wsL_law0_r37 [921, 925, 929, 462, 1517, 1521] [919, 920, 922, 924, 26, 926, 927, 928, 459, 460, 461, 1514, 1515, 1516, 1518, 1520, 38, 1172] rfl (by decide +kernel) (by decide +kernel) w h).1
set_option maxRecDepth 20000 in
theorem in_wsL_law0_r38 : ∀ w ∈ wsL_law0_r38, w ∈ lw_tbl := fun w h => (goodIn_q wsL_law0_r38 [936, 470, 1526, 1530] [1174, 1176, 1178, 1522, 930, 931, 932, 933, 934, 935, 467, 468, 469, 1523, 1524, 1525, 1527, 1529, 39, 937] rfl (by decide +kernel) (by decide +kernel) w h).1
set_option maxRecDepth 20000 in
theorem in_wsL_law0_r39 : ∀ w ∈ wsL_law0_r39, w ∈ lw_tbl := fun w h => (goodIn_q wsL_law0_r39 [943, 1534, 950, 954] [938, 939, 940, 941, 942, 471, 1531, 1532, 1533, 1198, 944, 945, 946, 947, 948, 949, 951, 952, 953, 476] rfl (by decide +kernel) (by decide +kernel) w h).1
set_option maxRecDepth 20000 in
theorem in_wsL_law0_r40 : ∀ w ∈ wsL_law0_r40, w ∈ lw_tbl := fun w h => (goodIn_q wsL_law0_r40 [479, 1538, 1542, 961] [477, 478, 1535, 1536, 1537, 1539, 1541, 40, 1202, 1204, 1206, 1208, 1210, 1212, 955, 956, 957, 958, 959, 960] rfl (by decide +kernel) (by decide +kernel) w h).1
set_option maxRecDepth 20000 in
theorem in_wsL_law0_r41 : ∀ w ∈ wsL_law0_r41, w ∈ lw_tbl := fun w h => (goodIn_q wsL_law0_r41 [1546, 968, 1550, 975] [1543, 1544, 1545, 962, 963, 964, 965, 966, 967, 1547, 1548, 1549, 969, 970, 971, 972, 973, 974, 504, 1551] rfl (by decide +kernel) (by decide +kernel) w h).1
set_option maxRecDepth 20000 in
theorem in_wsL_law0_r42 : ∀ w ∈ wsL_law0_r42, w ∈ lw_tbl := fun w h => (goodIn_q wsL_law0_r42 [1554, 982, 1559, 989] [1552, 1553, 1555, 976, 977, 978, 979, 980, 981, 513, 1556, 1557, 1558, 1560, 983, 984, 985, 986, 987, 988] rfl (by decide +kernel) (by decide +kernel) w h).1
set_option maxRecDepth 20000 in
theorem in_wsL_law0_r43 : ∀ w ∈ wsL_law0_r43, w ∈ lw_tbl := fun w h => (goodIn_q wsL_law0_r43 [1564, 996, 1569] [521, 1561, 1562, 1563, 1565, 990, 991, 992, 993, 994, 995, 525, 1566, 1567, 1568, 1570, 997, 998, 999, 1000, 1001] rfl (by decide +kernel) (by decide +kernel) w h).1
set_option maxRecDepth 20000 in
theorem in_wsL_law0_r44 : ∀ w ∈ wsL_law0_r44, w ∈ lw_tbl := fun w h => (goodIn_q wsL_law0_r44 [1003, 1574, 1010, 1578] [1002, 1571, 1572, 1573, 1004, 1005, 1006, 1007, 1008, 1009, 1011, 1575, 1576, 1577, 1579, 1012, 1013, 1014, 1015, 1016] rfl (by decide +kernel) (by decide +kernel) w h).1
set_option maxRecDepth 20000 in
theorem in_wsL_law0_r45 : ∀ w ∈ wsL_law0_r45, w ∈ lw_tbl := fun w h => (goodIn_q wsL_law0_r45 [1018, 1583, 1026, 1588] [1017, 1019, 1580, 1581, 1582, 1584, 1020, 1021, 1022, 1023, 1024, 1025, 1585, 1586, 1587, 1027, 1028, 1029, 1030, 1031] rfl (by decide +kernel) (by decide +kernel) w h).1
set_option maxRecDepth 20000 in
theorem in_wsL_law0_r46 : ∀ w ∈ wsL_law0_r46, w ∈ lw_tbl := fun w h => (goodIn_q wsL_law0_r46 [1033, 554, 558, 1592, 1596, 1600] [1032, 551, 552, 553, 555, 556, 557, 1589, 1590, 1591, 1593, 1594, 1595, 1597, 1598, 1599, 1034, 1035] rfl (by decide +kernel) (by decide +kernel) w h).1
set_option maxRecDepth 20000 in
theorem in_wsL_law0_r47 : ∀ w ∈ wsL_law0_r47, w ∈ lw_tbl := fun w h => (goodIn_q wsL_law0_r47 [1040, 1604, 1049, 566] [1036, 1037, 1038, 1039, 1042, 1041, 1601, 1602, 1603, 1606, 1605, 1043, 1044, 1045, 1046, 1047, 1048, 563, 564, 565] rfl (by decide +kernel) (by decide +kernel) w h).1
set_option maxRecDepth 20000 in
theorem in_wsL_law0_r48 : ∀ w ∈ wsL_law0_r48, w ∈ lw_tbl := fun w h => (goodIn_q wsL_law0_r48 [1610, 1614, 437, 441, 1621] [1607, 1608, 1609, 1611, 1612, 1613, 1615, 1616, 1617, 434, 435, 436, 438, 439, 440, 1618, 1619, 1620, 1050] rfl (by decide +kernel) (by decide +kernel) w h).1
set_option maxRecDepth 20000 in
theorem in_wsL_law0_r49 : ∀ w ∈ wsL_law0_r49, w ∈ lw_tbl := fun w h => (goodIn_q wsL_law0_r49 [1056, 1625, 1063, 1630] [1051, 1052, 1053, 1054, 1055, 539, 1622, 1623, 1624, 1626, 1057, 1058, 1059, 1060, 1061, 1062, 546, 1627, 1628, 1629] rfl (by decide +kernel) (by decide +kernel) w h).1
set_option maxRecDepth 20000 in
theorem in_wsL_law0_r50 : ∀ w ∈ wsL_law0_r50, w ∈ lw_tbl := fun w h => (goodIn_q wsL_law0_r50 [1070, 1635, 1077, 1081] [1631, 1064, 1065, 1066, 1067, 1068, 1069, 1632, 1633, 1634, 1071, 1072, 1073, 1074, 1075, 1076, 1078, 1079, 1080, 1114] rfl (by decide +kernel) (by decide +kernel) w h).1
set_option maxRecDepth 20000 in
theorem in_wsL_law0_r51 : ∀ w ∈ wsL_law0_r51, w ∈ lw_tbl := fun w h => (goodIn_q wsL_law0_r51 [1085, 1092, 1097, 1102, 1107] [1082, 1083, 1084, 1086, 1089, 1090, 1091, 1093, 1094, 1095, 1096, 1098, 1099, 1100, 1101, 1103, 1104, 1105, 1106] rfl (by decide +kernel) (by decide +kernel) w h).1