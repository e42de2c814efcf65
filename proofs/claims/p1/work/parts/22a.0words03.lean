set_option maxRecDepth 20000 in
theorem ggL_law_L_onHand : GoodIn wsL_law wsL_onHand := goodIn_ca (goodIn_q _ [981, 287, 291, 246, 239, 243, 613, 618] [977, 229, 978, 979, 980, 2, 16, 321, 284, 285, 286, 166, 288, 289, 290, 27, 185, 244, 245, 247, 248, 236, 237, 238, 213, 240, 241, 242, 31, 219, 982, 611, 612, 39, 614, 615, 616, 617, 335, 76, 77, 80, 78, 1306, 1307, 1308, 1311, 1312, 1313, 1314, 1315, 1316, 1317, 1318, 1319, 1327, 1328, 1329, 1330, 1331, 1332, 1333, 1334, 1340, 1341, 1342, 1343, 1344, 1345] rfl (by decide +kernel) (by decide +kernel)) (goodIn_sub (fun _ h => List.mem_append_right _ h) (by decide +kernel))
set_option maxRecDepth 20000 in
theorem gL_law_L_onHand : GoodIn wsL_law (va_wsS RL 219 yL_onHand wsL_onHand) := goodIn_app (goodIn_of _ (by decide +kernel)) ggL_law_L_onHand
set_option maxRecDepth 20000 in
theorem ggL_law_X10_onHand : GoodIn wsL_law wsX10_onHand := goodIn_q _ [986, 305, 309, 197, 271, 685, 438, 201] [190, 119, 302, 303, 304, 5, 306, 307, 308, 191, 195, 196, 268, 269, 270, 224, 987, 683, 684, 118, 356, 135, 435, 436, 437, 133, 134, 198, 199, 200, 1309, 1310, 1364, 1365, 1366, 1367, 1368, 1369, 1370, 1371, 1372, 1373, 1374, 1375, 1376, 1377, 1378, 1379, 1380, 1381, 1382, 1383, 1384, 1385, 1386, 1387, 1388, 1389, 1390, 1391, 1392, 1393, 1394, 1395, 1396, 1397, 1398, 1399] rfl (by decide +kernel) (by decide +kernel)
set_option maxRecDepth 20000 in
theorem gL_law_X10_onHand : GoodIn wsL_law (wsV RL 221 RX10 yX10_onHand wsX10_onHand) := goodIn_app (goodIn_of _ (by decide +kernel)) ggL_law_X10_onHand
set_option maxRecDepth 20000 in
theorem ggL_law_L_free : GoodIn wsL_law wsL_free := goodIn_ca (goodIn_q _ [994, 287, 291, 246, 239, 243, 735, 739, 402] [990, 229, 991, 992, 993, 2, 16, 321, 284, 285, 286, 166, 288, 289, 290, 27, 185, 244, 245, 247, 248, 236, 237, 238, 213, 240, 241, 242, 31, 219, 995, 733, 734, 39, 736, 737, 738, 335, 76, 77, 80, 399, 400, 401, 78, 79, 1306, 1307, 1308, 1311, 1312, 1313, 1314, 1315, 1316, 1317, 1318, 1319, 1327, 1328, 1329, 1330, 1331, 1332, 1333, 1334, 1340, 1341, 1342, 1343, 1344, 1345] rfl (by decide +kernel) (by decide +kernel)) (goodIn_sub (fun _ h => List.mem_append_right _ h) (by decide +kernel))
set_option maxRecDepth 20000 in
theorem gL_law_L_free : GoodIn wsL_law (va_wsS RL 222 yL_free wsL_free) := goodIn_app (goodIn_of _ (by decide +kernel)) ggL_law_L_free
set_option maxRecDepth 20000 in
theorem ggL_law_X10_free : GoodIn wsL_law wsX10_free := goodIn_q _ [999, 305, 309, 197, 271, 780, 785, 438, 442, 201] [190, 119, 302, 303, 304, 5, 306, 307, 308, 191, 195, 196, 268, 269, 270, 224, 1000, 778, 779, 118, 781, 782, 783, 784, 356, 136, 135, 435, 436, 437, 133, 134, 439, 440, 441, 443, 145, 198, 199, 200, 1309, 1310, 1364, 1365, 1366, 1367, 1368, 1369, 1370, 1371, 1372, 1373, 1374, 1375, 1376, 1377, 1378, 1379, 1380, 1381, 1382, 1383, 1384, 1385, 1386, 1387, 1388, 1389, 1390, 1391, 1392, 1393, 1394, 1395, 1396, 1397, 1398, 1399] rfl (by decide +kernel) (by decide +kernel)
set_option maxRecDepth 20000 in
theorem gL_law_X10_free : GoodIn wsL_law (wsV RL 224 RX10 yX10_free wsX10_free) := goodIn_app (goodIn_of _ (by decide +kernel)) ggL_law_X10_free
set_option maxRecDepth 20000 in
theorem ggL_law_L_underWay : GoodIn wsL_law wsL_underWay := goodIn_ca (goodIn_q _ [1007, 287, 291, 246, 239, 243, 622] [1003, 229, 1004, 1005, 1006, 2, 16, 853, 284, 285, 286, 166, 288, 289, 290, 27, 185, 244, 245, 247, 248, 236, 237, 238, 213, 240, 241, 242, 31, 219, 1008, 620, 621, 47, 623, 102, 97, 98, 99, 1306, 1307, 1308, 1311, 1312, 1313, 1314, 1315, 1316, 1317, 1318, 1319, 1327, 1328, 1329, 1330, 1331, 1332, 1333, 1334, 1357, 1358, 1359, 1360, 1361, 1362, 1363] rfl (by decide +kernel) (by decide +kernel)) (goodIn_sub (fun _ h => List.mem_append_right _ h) (by decide +kernel))
set_option maxRecDepth 20000 in
theorem gL_law_L_underWay : GoodIn wsL_law (va_wsS RL 225 yL_underWay wsL_underWay) := goodIn_app (goodIn_of _ (by decide +kernel)) ggL_law_L_underWay
set_option maxRecDepth 20000 in
theorem ggL_law_X10_underWay : GoodIn wsL_law wsX10_underWay := goodIn_q _ [1012, 305, 309, 197, 271, 689, 201] [190, 119, 302, 303, 304, 5, 306, 307, 308, 191, 195, 196, 268, 269, 270, 224, 1013, 687, 688, 118, 667, 151, 146, 147, 148, 198, 199, 200, 1309, 1310, 1364, 1365, 1366, 1367, 1368, 1369, 1370, 1371, 1372, 1373, 1374, 1375, 1376, 1377, 1378, 1379, 1380, 1381, 1382, 1383, 1384, 1385, 1386, 1387, 1388, 1389, 1390, 1391, 1392, 1393, 1394, 1395, 1396, 1397, 1398, 1399] rfl (by decide +kernel) (by decide +kernel)
set_option maxRecDepth 20000 in
theorem gL_law_X10_underWay : GoodIn wsL_law (wsV RL 227 RX10 yX10_underWay wsX10_underWay) := goodIn_app (goodIn_of _ (by decide +kernel)) ggL_law_X10_underWay
