set_option maxRecDepth 20000 in
theorem ggL_law_L_ofLot : GoodIn wsL_law wsL_ofLot := goodIn_ca (goodIn_ca (goodIn_q _ [866, 870, 874, 246, 170, 173, 878] [862, 229, 160, 863, 864, 865, 2, 16, 321, 867, 868, 869, 871, 872, 873, 39, 335, 244, 245, 247, 248, 168, 169, 171, 172, 174, 175, 875, 876, 877, 76, 77, 78, 79, 80, 1306, 1307, 1308, 1311, 1312, 1313, 1314, 1315, 1316, 1317, 1318, 1319, 1340, 1341, 1342, 1343, 1344, 1345] rfl (by decide +kernel) (by decide +kernel)) (goodIn_sub (fun _ h => List.mem_append_right _ h) (by decide +kernel))) (goodIn_sub (fun _ h => List.mem_append_left _ (List.mem_append_left _ (List.mem_append_right _ h))) (by decide +kernel))
set_option maxRecDepth 20000 in
theorem gL_law_L_ofLot : GoodIn wsL_law (va_wsS RL 200 yL_ofLot wsL_ofLot) := goodIn_app (goodIn_of _ (by decide +kernel)) ggL_law_L_ofLot
set_option maxRecDepth 20000 in
theorem ggL_law_X10_ofLot : GoodIn wsL_law wsX10_ofLot := goodIn_q _ [882, 197, 201, 886, 442] [190, 119, 349, 195, 196, 5, 198, 199, 200, 883, 884, 885, 887, 888, 889, 890, 891, 440, 441, 118, 443, 145, 1309, 1310, 1364, 1365, 1366, 1367, 1368, 1369, 1370, 1371, 1372, 1373, 1374, 1375, 1376, 1377, 1378, 1379, 1380, 1381, 1382, 1383, 1384, 1385, 1386, 1387, 1388, 1389, 1390, 1391, 1392, 1393, 1394, 1395, 1396, 1397, 1398, 1399] rfl (by decide +kernel) (by decide +kernel)
set_option maxRecDepth 20000 in
theorem gL_law_X10_ofLot : GoodIn wsL_law (wsV RL 203 RX10 yX10_ofLot wsX10_ofLot) := goodIn_app (goodIn_of _ (by decide +kernel)) ggL_law_X10_ofLot
set_option maxRecDepth 20000 in
theorem ggL_law_L_ofOrder : GoodIn wsL_law wsL_ofOrder := goodIn_ca (goodIn_ca (goodIn_q _ [898, 456, 460, 246, 170, 173, 902] [894, 229, 160, 895, 896, 897, 2, 16, 368, 453, 454, 455, 457, 458, 459, 43, 374, 244, 245, 247, 248, 168, 169, 171, 172, 174, 175, 899, 900, 901, 91, 86, 87, 88, 92, 1306, 1307, 1308, 1311, 1312, 1313, 1314, 1315, 1316, 1317, 1318, 1319, 1346, 1347, 1348, 1349, 1350, 1351, 1352, 1353, 1354, 1355, 1356] rfl (by decide +kernel) (by decide +kernel)) (goodIn_sub (fun _ h => List.mem_append_right _ h) (by decide +kernel))) (goodIn_sub (fun _ h => List.mem_append_left _ (List.mem_append_left _ (List.mem_append_right _ h))) (by decide +kernel))
set_option maxRecDepth 20000 in
theorem gL_law_L_ofOrder : GoodIn wsL_law (va_wsS RL 204 yL_ofOrder wsL_ofOrder) := goodIn_app (goodIn_of _ (by decide +kernel)) ggL_law_L_ofOrder
set_option maxRecDepth 20000 in
theorem ggL_law_X10_ofOrder : GoodIn wsL_law wsX10_ofOrder := goodIn_q _ [906, 477, 197, 201, 910, 434] [190, 474, 475, 476, 5, 119, 415, 195, 196, 198, 199, 200, 907, 908, 909, 422, 418, 419, 423, 518, 432, 433, 118, 356, 145, 1309, 1310, 1364, 1365, 1366, 1367, 1368, 1369, 1370, 1371, 1372, 1373, 1374, 1375, 1376, 1377, 1378, 1379, 1380, 1381, 1382, 1383, 1384, 1385, 1386, 1387, 1388, 1389, 1390, 1391, 1392, 1393, 1394, 1395, 1396, 1397, 1398, 1399] rfl (by decide +kernel) (by decide +kernel)
set_option maxRecDepth 20000 in
theorem gL_law_X10_ofOrder : GoodIn wsL_law (wsV RL 206 RX10 yX10_ofOrder wsX10_ofOrder) := goodIn_app (goodIn_of _ (by decide +kernel)) ggL_law_X10_ofOrder
set_option maxRecDepth 20000 in
theorem ggL_law_L_reserved : GoodIn wsL_law wsL_reserved := goodIn_ca (goodIn_q _ [917, 456, 460, 246, 870, 874, 469] [913, 229, 914, 915, 916, 2, 16, 368, 453, 454, 455, 457, 458, 459, 43, 374, 244, 245, 247, 248, 867, 868, 869, 321, 871, 872, 873, 39, 335, 918, 467, 468, 93, 1306, 1307, 1308, 1311, 1312, 1313, 1314, 1315, 1316, 1317, 1318, 1319, 1346, 1347, 1348, 1349, 1350, 1351, 1352, 1353, 1354, 1355, 1356, 1340, 1341, 1342, 1343, 1344, 1345] rfl (by decide +kernel) (by decide +kernel)) (goodIn_sub (fun _ h => List.mem_append_right _ h) (by decide +kernel))
set_option maxRecDepth 20000 in
theorem gL_law_L_reserved : GoodIn wsL_law (va_wsS RL 207 yL_reserved wsL_reserved) := goodIn_app (goodIn_of _ (by decide +kernel)) ggL_law_L_reserved
set_option maxRecDepth 20000 in
theorem ggL_law_X10_reserved : GoodIn wsL_law wsX10_reserved := goodIn_q _ [922, 477, 197, 201] [190, 119, 349, 923, 474, 475, 476, 5, 415, 195, 196, 198, 199, 200, 1309, 1310, 1364, 1365, 1366, 1367, 1368, 1369, 1370, 1371, 1372, 1373, 1374, 1375, 1376, 1377, 1378, 1379, 1380, 1381, 1382, 1383, 1384, 1385, 1386, 1387, 1388, 1389, 1390, 1391, 1392, 1393, 1394, 1395, 1396, 1397, 1398, 1399] rfl (by decide +kernel) (by decide +kernel)
set_option maxRecDepth 20000 in
theorem gL_law_X10_reserved : GoodIn wsL_law (wsV RL 209 RX10 yX10_reserved wsX10_reserved) := goodIn_app (goodIn_of _ (by decide +kernel)) ggL_law_X10_reserved
