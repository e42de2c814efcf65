set_option maxRecDepth 20000 in
theorem ggL_law_L_addItem : GoodIn wsL_law wsL_addItem := goodIn_ca (goodIn_ca (goodIn_q _ [165, 170, 173, 178, 184] [159, 160, 161, 162, 163, 164, 2, 16, 166, 167, 168, 169, 171, 172, 174, 175, 176, 177, 179, 180, 181, 182, 183, 27, 185, 55, 56, 57, 58, 1306, 1307, 1308, 1311, 1312, 1313, 1314, 1315, 1316, 1317, 1318, 1319, 1327, 1328, 1329, 1330, 1331] rfl (by decide +kernel) (by decide +kernel)) (goodIn_sub (fun _ h => List.mem_append_left _ (List.mem_append_left _ (List.mem_append_right _ h))) (by decide +kernel))) (goodIn_sub (fun _ h => List.mem_append_left _ (List.mem_append_right _ h)) (by decide +kernel))
set_option maxRecDepth 20000 in
theorem gL_law_L_addItem : GoodIn wsL_law (va_wsS RL 129 yL_addItem wsL_addItem) := goodIn_app (goodIn_of _ (by decide +kernel)) ggL_law_L_addItem
set_option maxRecDepth 20000 in
theorem ggL_law_X10_addItem : GoodIn wsL_law wsX10_addItem := goodIn_q _ [189, 197, 201] [190, 119, 191, 192, 193, 194, 195, 196, 5, 198, 199, 200, 1309, 1310, 1364, 1365, 1366, 1367, 1368, 1369, 1370, 1371, 1372, 1373, 1374, 1375, 1376, 1377, 1378, 1379, 1380, 1381, 1382, 1383, 1384, 1385, 1386, 1387, 1388, 1389, 1390, 1391, 1392, 1393, 1394, 1395, 1396, 1397, 1398, 1399] rfl (by decide +kernel) (by decide +kernel)
set_option maxRecDepth 20000 in
theorem gL_law_X10_addItem : GoodIn wsL_law (wsV RL 134 RX10 yX10_addItem wsX10_addItem) := goodIn_app (goodIn_of _ (by decide +kernel)) ggL_law_X10_addItem
set_option maxRecDepth 20000 in
theorem ggL_law_X10_thrown : GoodIn wsL_law wsX10_thrown := goodIn_q _ [205] [190, 1309, 1310] rfl (by decide +kernel) (by decide +kernel)
set_option maxRecDepth 20000 in
theorem gL_law_X10_thrown : GoodIn wsL_law (wsV RL 135 RX10 yX10_thrown wsX10_thrown) := goodIn_app (goodIn_of _ (by decide +kernel)) ggL_law_X10_thrown
set_option maxRecDepth 20000 in
theorem ggL_law_L_addSite : GoodIn wsL_law wsL_addSite := goodIn_ca (goodIn_ca (goodIn_q _ [212, 170, 173, 178, 218] [208, 160, 161, 209, 210, 211, 2, 16, 213, 214, 168, 169, 171, 172, 174, 175, 176, 177, 179, 180, 215, 216, 217, 31, 219, 62, 1306, 1307, 1308, 1311, 1312, 1313, 1314, 1315, 1316, 1317, 1318, 1319, 1332, 1333, 1334] rfl (by decide +kernel) (by decide +kernel)) (goodIn_sub (fun _ h => List.mem_append_left _ (List.mem_append_left _ (List.mem_append_right _ h))) (by decide +kernel))) (goodIn_sub (fun _ h => List.mem_append_left _ (List.mem_append_right _ h)) (by decide +kernel))
set_option maxRecDepth 20000 in
theorem gL_law_L_addSite : GoodIn wsL_law (va_wsS RL 139 yL_addSite wsL_addSite) := goodIn_app (goodIn_of _ (by decide +kernel)) ggL_law_L_addSite
set_option maxRecDepth 20000 in
theorem ggL_law_X10_addSite : GoodIn wsL_law wsX10_addSite := goodIn_q _ [223, 197, 201] [190, 119, 224, 225, 195, 196, 5, 198, 199, 200, 1309, 1310, 1364, 1365, 1366, 1367, 1368, 1369, 1370, 1371, 1372, 1373, 1374, 1375, 1376, 1377, 1378, 1379, 1380, 1381, 1382, 1383, 1384, 1385, 1386, 1387, 1388, 1389, 1390, 1391, 1392, 1393, 1394, 1395, 1396, 1397, 1398, 1399] rfl (by decide +kernel) (by decide +kernel)
set_option maxRecDepth 20000 in
theorem gL_law_X10_addSite : GoodIn wsL_law (wsV RL 142 RX10 yX10_addSite wsX10_addSite) := goodIn_app (goodIn_of _ (by decide +kernel)) ggL_law_X10_addSite
set_option maxRecDepth 20000 in
theorem ggL_law_L_setRoute : GoodIn wsL_law wsL_setRoute := goodIn_ca (goodIn_ca (goodIn_q _ [233, 239, 243, 246, 173, 170, 252, 255, 260] [228, 229, 160, 230, 231, 232, 2, 16, 213, 234, 235, 236, 237, 238, 240, 241, 242, 31, 219, 244, 245, 247, 248, 171, 172, 174, 175, 168, 169, 249, 250, 251, 63, 253, 254, 256, 257, 258, 259, 35, 71, 68, 1306, 1307, 1308, 1311, 1312, 1313, 1314, 1315, 1316, 1317, 1318, 1319, 1332, 1333, 1334, 1335, 1336, 1337, 1338, 1339] rfl (by decide +kernel) (by decide +kernel)) (goodIn_sub (fun _ h => List.mem_append_right _ h) (by decide +kernel))) (goodIn_sub (fun _ h => List.mem_append_left _ (List.mem_append_left _ (List.mem_append_right _ h))) (by decide +kernel))
set_option maxRecDepth 20000 in
theorem gL_law_L_setRoute : GoodIn wsL_law (va_wsS RL 143 yL_setRoute wsL_setRoute) := goodIn_app (goodIn_of _ (by decide +kernel)) ggL_law_L_setRoute
