set_option maxRecDepth 20000 in
theorem ggL_law_X10_balance : GoodIn wsL_law wsX10_balance := goodIn_q _ [768, 309, 197, 201, 772, 390, 776, 384, 681, 685, 438, 689, 780, 785, 442, 789, 793, 796, 804, 693, 697] [190, 119, 306, 307, 308, 5, 191, 195, 196, 198, 199, 200, 769, 770, 771, 118, 49, 669, 67, 128, 430, 389, 383, 773, 774, 775, 130, 429, 382, 678, 679, 680, 443, 143, 137, 138, 139, 682, 683, 684, 356, 135, 435, 436, 437, 133, 134, 686, 687, 688, 667, 151, 146, 147, 148, 777, 778, 779, 781, 782, 783, 784, 136, 439, 440, 441, 145, 786, 787, 788, 129, 790, 791, 792, 794, 795, 797, 798, 799, 800, 801, 802, 803, 710, 691, 692, 428, 694, 695, 696, 149, 150, 1309, 1310, 1364, 1365, 1366, 1367, 1368, 1369, 1370, 1371, 1372, 1373, 1374, 1375, 1376, 1377, 1378, 1379, 1380, 1381, 1382, 1383, 1384, 1385, 1386, 1387, 1388, 1389, 1390, 1391, 1392, 1393, 1394, 1395, 1396, 1397, 1398, 1399] rfl (by decide +kernel) (by decide +kernel)
set_option maxRecDepth 20000 in
theorem gL_law_X10_balance : GoodIn wsL_law (wsV RL 175 RX10 yX10_balance wsX10_balance) := goodIn_app (goodIn_of _ (by decide +kernel)) ggL_law_X10_balance
set_option maxRecDepth 20000 in
theorem ggL_law_X8_day : GoodIn wsL_law wsX8_day := goodIn_q _ [808] [16, 324, 1306, 1307, 1308, 1311, 1312, 1313, 1314, 1315, 1316, 1317, 1318, 1319] rfl (by decide +kernel) (by decide +kernel)
set_option maxRecDepth 20000 in
theorem gL_law_X8_day : GoodIn wsL_law (wsV RL 176 RX8 yX8_day wsX8_day) := goodIn_app (goodIn_of _ (by decide +kernel)) ggL_law_X8_day
set_option maxRecDepth 20000 in
theorem ggL_law_X10_day : GoodIn wsL_law wsX10_day := goodIn_q _ [812, 816] [119, 351, 813, 814, 815, 5, 190, 1309, 1310, 1364, 1365, 1366, 1367, 1368, 1369, 1370, 1371, 1372, 1373, 1374, 1375, 1376, 1377, 1378, 1379, 1380, 1381, 1382, 1383, 1384, 1385, 1386, 1387, 1388, 1389, 1390, 1391, 1392, 1393, 1394, 1395, 1396, 1397, 1398, 1399] rfl (by decide +kernel) (by decide +kernel)
set_option maxRecDepth 20000 in
theorem gL_law_X10_day : GoodIn wsL_law (wsV RL 179 RX10 yX10_day wsX10_day) := goodIn_app (goodIn_of _ (by decide +kernel)) ggL_law_X10_day
set_option maxRecDepth 20000 in
theorem ggL_law_X8_items : GoodIn wsL_law wsX8_items := goodIn_q _ [820] [16, 166, 167, 1306, 1307, 1308, 1311, 1312, 1313, 1314, 1315, 1316, 1317, 1318, 1319, 1327, 1328, 1329, 1330, 1331] rfl (by decide +kernel) (by decide +kernel)
set_option maxRecDepth 20000 in
theorem gL_law_X8_items : GoodIn wsL_law (wsV RL 180 RX8 yX8_items wsX8_items) := goodIn_app (goodIn_of _ (by decide +kernel)) ggL_law_X8_items
set_option maxRecDepth 20000 in
theorem ggL_law_X10_items : GoodIn wsL_law wsX10_items := goodIn_q _ [824, 816] [119, 191, 813, 814, 815, 5, 190, 1309, 1310, 1364, 1365, 1366, 1367, 1368, 1369, 1370, 1371, 1372, 1373, 1374, 1375, 1376, 1377, 1378, 1379, 1380, 1381, 1382, 1383, 1384, 1385, 1386, 1387, 1388, 1389, 1390, 1391, 1392, 1393, 1394, 1395, 1396, 1397, 1398, 1399] rfl (by decide +kernel) (by decide +kernel)
set_option maxRecDepth 20000 in
theorem gL_law_X10_items : GoodIn wsL_law (wsV RL 183 RX10 yX10_items wsX10_items) := goodIn_app (goodIn_of _ (by decide +kernel)) ggL_law_X10_items
set_option maxRecDepth 20000 in
theorem ggL_law_X8_sites : GoodIn wsL_law wsX8_sites := goodIn_q _ [828] [16, 213, 214, 1306, 1307, 1308, 1311, 1312, 1313, 1314, 1315, 1316, 1317, 1318, 1319, 1332, 1333, 1334] rfl (by decide +kernel) (by decide +kernel)
set_option maxRecDepth 20000 in
theorem gL_law_X8_sites : GoodIn wsL_law (wsV RL 184 RX8 yX8_sites wsX8_sites) := goodIn_app (goodIn_of _ (by decide +kernel)) ggL_law_X8_sites
