set_option maxRecDepth 20000 in
theorem in_wsL_law0_r18 : ∀ w ∈ wsL_law0_r18, w ∈ lw_tbl := fun w h => (goodIn_q wsL_law0_r18 [1353, 1357] [218, 204, 171, 1350, 1351, 1352, 1180, 1182, 1184, 1186, 1188, 1190, 1192, 1194, 1196, 1354, 1355, 1356, 1144, 1362, 1371, 1358] rfl (by decide +kernel) (by decide +kernel) w h).1
set_option maxRecDepth 20000 in
theorem in_wsL_law0_r19 : ∀ w ∈ wsL_law0_r19, w ∈ lw_tbl := fun w h => (goodIn_q wsL_law0_r19 [1361, 1366, 1370, 808] [1359, 1360, 1363, 1364, 1365, 1367, 1368, 1369, 1179, 802, 803, 804, 805, 806, 807, 212, 205, 809, 811, 16] rfl (by decide +kernel) (by decide +kernel) w h).1
set_option maxRecDepth 20000 in
theorem in_wsL_law0_r20 : ∀ w ∈ wsL_law0_r20, w ∈ lw_tbl := fun w h => (goodIn_q wsL_law0_r20 [812, 816, 362, 366, 1375, 1379] [813, 814, 815, 359, 360, 361, 164, 363, 364, 365, 1372, 1373, 1374, 1376, 1378, 32, 1380, 1381] rfl (by decide +kernel) (by decide +kernel) w h).1
set_option maxRecDepth 20000 in
theorem in_wsL_law0_r21 : ∀ w ∈ wsL_law0_r21, w ∈ lw_tbl := fun w h => (goodIn_q wsL_law0_r21 [1383, 358, 374, 378, 382] [1382, 355, 356, 357, 371, 372, 373, 375, 377, 1, 195, 213, 379, 380, 381, 383, 406, 407, 408] rfl (by decide +kernel) (by decide +kernel) w h).1
set_option maxRecDepth 20000 in
theorem in_wsL_law0_r22 : ∀ w ∈ wsL_law0_r22, w ∈ lw_tbl := fun w h => (goodIn_q wsL_law0_r22 [409, 1387, 1391, 1395, 823] [1384, 1385, 1386, 1388, 1389, 1390, 1392, 1394, 33, 1396, 1397, 817, 818, 819, 820, 821, 822, 201, 824] rfl (by decide +kernel) (by decide +kernel) w h).1
set_option maxRecDepth 20000 in
theorem in_wsL_law0_r23 : ∀ w ∈ wsL_law0_r23, w ∈ lw_tbl := fun w h => (goodIn_q wsL_law0_r23 [828, 1401, 1405] [825, 826, 827, 169, 215, 202, 89, 829, 830, 1398, 1399, 1400, 1402, 1403, 1404, 1406, 831, 832, 833, 834, 835] rfl (by decide +kernel) (by decide +kernel) w h).1
set_option maxRecDepth 20000 in
theorem in_wsL_law0_r24 : ∀ w ∈ wsL_law0_r24, w ∈ lw_tbl := fun w h => (goodIn_q wsL_law0_r24 [837, 841, 845, 849, 853] [836, 838, 839, 840, 842, 844, 17, 173, 166, 846, 848, 18, 850, 852, 19, 250, 262, 258, 854] rfl (by decide +kernel) (by decide +kernel) w h).1
set_option maxRecDepth 20000 in
theorem in_wsL_law0_r25 : ∀ w ∈ wsL_law0_r25, w ∈ lw_tbl := fun w h => (goodIn_q wsL_law0_r25 [857, 864, 869] [856, 20, 252, 254, 260, 256, 858, 859, 860, 861, 863, 21, 865, 866, 868, 22, 83, 111, 870, 872, 23] rfl (by decide +kernel) (by decide +kernel) w h).1
set_option maxRecDepth 20000 in
theorem in_wsL_law0_r26 : ∀ w ∈ wsL_law0_r26, w ∈ lw_tbl := fun w h => (goodIn_q wsL_law0_r26 [873, 528, 507, 512, 524] [133, 137, 140, 143, 543, 545, 526, 527, 529, 505, 506, 508, 509, 510, 511, 530, 522, 523, 248] rfl (by decide +kernel) (by decide +kernel) w h).1
set_option maxRecDepth 20000 in
theorem in_wsL_law0_r27 : ∀ w ∈ wsL_law0_r27, w ∈ lw_tbl := fun w h => (goodIn_q wsL_law0_r27 [534, 538, 877, 881, 885] [531, 532, 533, 535, 536, 537, 874, 875, 876, 878, 880, 24, 85, 882, 883, 884, 886, 887, 888] rfl (by decide +kernel) (by decide +kernel) w h).1
set_option maxRecDepth 20000 in
theorem in_wsL_law0_r28 : ∀ w ∈ wsL_law0_r28, w ∈ lw_tbl := fun w h => (goodIn_q wsL_law0_r28 [889, 894, 899, 1410, 1414] [890, 891, 892, 893, 895, 896, 898, 25, 1407, 1408, 1409, 1411, 1412, 1413, 1199, 1146, 1155, 1415, 1416] rfl (by decide +kernel) (by decide +kernel) w h).1
set_option maxRecDepth 20000 in
theorem in_wsL_law0_r29 : ∀ w ∈ wsL_law0_r29, w ∈ lw_tbl := fun w h => (goodIn_q wsL_law0_r29 [1422, 1426, 1430, 1434, 1438] [1417, 1418, 1419, 1421, 34, 1423, 1424, 1425, 1427, 1428, 1429, 1431, 1432, 1433, 1435, 1436, 1437, 1439, 1440] rfl (by decide +kernel) (by decide +kernel) w h).1
set_option maxRecDepth 20000 in
theorem in_wsL_law0_r30 : ∀ w ∈ wsL_law0_r30, w ∈ lw_tbl := fun w h => (goodIn_q wsL_law0_r30 [1442, 906, 1446, 914] [1441, 900, 901, 902, 903, 904, 905, 907, 1443, 1444, 1445, 1447, 908, 909, 910, 911, 912, 913, 328, 567] rfl (by decide +kernel) (by decide +kernel) w h).1
set_option maxRecDepth 20000 in
theorem in_wsL_law0_r31 : ∀ w ∈ wsL_law0_r31, w ∈ lw_tbl := fun w h => (goodIn_q wsL_law0_r31 [570, 549, 516, 520, 542] [568, 569, 283, 108, 321, 115, 577, 571, 547, 548, 550, 514, 515, 517, 518, 519, 572, 540, 541] rfl (by decide +kernel) (by decide +kernel) w h).1
set_option maxRecDepth 20000 in
theorem in_wsL_law0_r32 : ∀ w ∈ wsL_law0_r32, w ∈ lw_tbl := fun w h => (goodIn_q wsL_law0_r32 [576, 581, 586, 590, 594] [574, 575, 578, 580, 9, 582, 583, 585, 10, 587, 589, 11, 591, 593, 12, 595, 1448, 1449, 1450] rfl (by decide +kernel) (by decide +kernel) w h).1
set_option maxRecDepth 20000 in
theorem in_wsL_law0_r33 : ∀ w ∈ wsL_law0_r33, w ∈ lw_tbl := fun w h => (goodIn_q wsL_law0_r33 [1451, 1455, 1459, 1463, 1468, 1472] [1452, 1453, 1454, 1456, 1457, 1458, 1460, 1461, 1462, 1464, 1465, 1466, 1467, 1469, 1470, 1471, 1473, 1475] rfl (by decide +kernel) (by decide +kernel) w h).1
set_option maxRecDepth 20000 in
theorem in_wsL_law0_r34 : ∀ w ∈ wsL_law0_r34, w ∈ lw_tbl := fun w h => (goodIn_q wsL_law0_r34 [1476, 1479, 1485, 413, 1489] [35, 1481, 1478, 1480, 1088, 1087, 60, 1482, 1484, 36, 410, 411, 412, 1486, 1487, 1488, 1490, 1492, 37] rfl (by decide +kernel) (by decide +kernel) w h).1