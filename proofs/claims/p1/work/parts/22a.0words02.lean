set_option maxRecDepth 20000 in
theorem ggL_law_L_ofTransport : GoodIn wsL_law wsL_ofTransport := goodIn_ca (goodIn_ca (goodIn_q _ [930, 934, 246, 170, 173, 938] [926, 229, 160, 927, 928, 929, 2, 16, 853, 931, 932, 933, 47, 623, 244, 245, 247, 248, 168, 169, 171, 172, 174, 175, 935, 936, 937, 97, 98, 99, 100, 101, 102, 1306, 1307, 1308, 1311, 1312, 1313, 1314, 1315, 1316, 1317, 1318, 1319, 1357, 1358, 1359, 1360, 1361, 1362, 1363] rfl (by decide +kernel) (by decide +kernel)) (goodIn_sub (fun _ h => List.mem_append_right _ h) (by decide +kernel))) (goodIn_sub (fun _ h => List.mem_append_left _ (List.mem_append_left _ (List.mem_append_right _ h))) (by decide +kernel))
set_option maxRecDepth 20000 in
theorem gL_law_L_ofTransport : GoodIn wsL_law (va_wsS RL 210 yL_ofTransport wsL_ofTransport) := goodIn_app (goodIn_of _ (by decide +kernel)) ggL_law_L_ofTransport
set_option maxRecDepth 20000 in
theorem ggL_law_X10_ofTransport : GoodIn wsL_law wsX10_ofTransport := goodIn_q _ [942, 197, 201, 946] [190, 119, 859, 195, 196, 5, 198, 199, 200, 943, 944, 945, 947, 948, 949, 950, 951, 952, 1309, 1310, 1364, 1365, 1366, 1367, 1368, 1369, 1370, 1371, 1372, 1373, 1374, 1375, 1376, 1377, 1378, 1379, 1380, 1381, 1382, 1383, 1384, 1385, 1386, 1387, 1388, 1389, 1390, 1391, 1392, 1393, 1394, 1395, 1396, 1397, 1398, 1399] rfl (by decide +kernel) (by decide +kernel)
set_option maxRecDepth 20000 in
theorem gL_law_X10_ofTransport : GoodIn wsL_law (wsV RL 212 RX10 yX10_ofTransport wsX10_ofTransport) := goodIn_app (goodIn_of _ (by decide +kernel)) ggL_law_X10_ofTransport
set_option maxRecDepth 20000 in
theorem ggL_law_L_route : GoodIn wsL_law wsL_route := goodIn_ca (goodIn_q _ [959, 239, 243, 246, 252, 255] [955, 229, 956, 957, 958, 2, 16, 213, 236, 237, 238, 240, 241, 242, 31, 219, 244, 245, 247, 248, 249, 250, 251, 63, 253, 254, 1306, 1307, 1308, 1311, 1312, 1313, 1314, 1315, 1316, 1317, 1318, 1319, 1332, 1333, 1334] rfl (by decide +kernel) (by decide +kernel)) (goodIn_sub (fun _ h => List.mem_append_right _ h) (by decide +kernel))
set_option maxRecDepth 20000 in
theorem gL_law_L_route : GoodIn wsL_law (va_wsS RL 213 yL_route wsL_route) := goodIn_app (goodIn_of _ (by decide +kernel)) ggL_law_L_route
set_option maxRecDepth 20000 in
theorem ggL_law_X10_route : GoodIn wsL_law wsX10_route := goodIn_q _ [963, 271, 197, 201] [190, 119, 265, 268, 269, 270, 5, 224, 195, 196, 198, 199, 200, 1309, 1310, 1364, 1365, 1366, 1367, 1368, 1369, 1370, 1371, 1372, 1373, 1374, 1375, 1376, 1377, 1378, 1379, 1380, 1381, 1382, 1383, 1384, 1385, 1386, 1387, 1388, 1389, 1390, 1391, 1392, 1393, 1394, 1395, 1396, 1397, 1398, 1399] rfl (by decide +kernel) (by decide +kernel)
set_option maxRecDepth 20000 in
theorem gL_law_X10_route : GoodIn wsL_law (wsV RL 215 RX10 yX10_route wsX10_route) := goodIn_app (goodIn_of _ (by decide +kernel)) ggL_law_X10_route
set_option maxRecDepth 20000 in
theorem ggL_law_L_hasPolicy : GoodIn wsL_law wsL_hasPolicy := goodIn_ca (goodIn_q _ [970, 287, 291, 246, 239, 243, 295, 255] [966, 229, 967, 968, 969, 2, 16, 235, 284, 285, 286, 166, 288, 289, 290, 27, 185, 244, 245, 247, 248, 236, 237, 238, 213, 240, 241, 242, 31, 219, 292, 293, 294, 35, 68, 254, 1306, 1307, 1308, 1311, 1312, 1313, 1314, 1315, 1316, 1317, 1318, 1319, 1327, 1328, 1329, 1330, 1331, 1332, 1333, 1334, 1335, 1336, 1337, 1338, 1339] rfl (by decide +kernel) (by decide +kernel)) (goodIn_sub (fun _ h => List.mem_append_right _ h) (by decide +kernel))
set_option maxRecDepth 20000 in
theorem gL_law_L_hasPolicy : GoodIn wsL_law (va_wsS RL 216 yL_hasPolicy wsL_hasPolicy) := goodIn_app (goodIn_of _ (by decide +kernel)) ggL_law_L_hasPolicy
set_option maxRecDepth 20000 in
theorem ggL_law_X10_hasPolicy : GoodIn wsL_law wsX10_hasPolicy := goodIn_q _ [974, 305, 309, 197, 271, 313] [190, 119, 266, 302, 303, 304, 5, 306, 307, 308, 191, 195, 196, 268, 269, 270, 224, 310, 311, 312, 1309, 1310, 1364, 1365, 1366, 1367, 1368, 1369, 1370, 1371, 1372, 1373, 1374, 1375, 1376, 1377, 1378, 1379, 1380, 1381, 1382, 1383, 1384, 1385, 1386, 1387, 1388, 1389, 1390, 1391, 1392, 1393, 1394, 1395, 1396, 1397, 1398, 1399] rfl (by decide +kernel) (by decide +kernel)
set_option maxRecDepth 20000 in
theorem gL_law_X10_hasPolicy : GoodIn wsL_law (wsV RL 218 RX10 yX10_hasPolicy wsX10_hasPolicy) := goodIn_app (goodIn_of _ (by decide +kernel)) ggL_law_X10_hasPolicy
