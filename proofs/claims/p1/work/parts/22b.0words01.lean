set_option maxRecDepth 20000 in
theorem ggL_law_L_pointFor : GoodIn wsL_law wsL_pointFor := goodIn_ca (goodIn_ca (goodIn_q _ [1108, 384, 287, 291, 246, 239, 243, 170, 173, 1089, 631] [1104, 229, 160, 1105, 1106, 1107, 2, 16, 324, 368, 1109, 382, 383, 284, 285, 286, 166, 288, 289, 290, 27, 185, 244, 245, 247, 248, 236, 237, 238, 213, 240, 241, 242, 31, 219, 168, 169, 171, 172, 174, 175, 1110, 1087, 1088, 43, 374, 91, 88, 86, 628, 629, 630, 84, 85, 1306, 1307, 1308, 1311, 1312, 1313, 1314, 1315, 1316, 1317, 1318, 1319, 1327, 1328, 1329, 1330, 1331, 1332, 1333, 1334, 1346, 1347, 1348, 1349, 1350, 1351, 1352, 1353, 1354, 1355, 1356] rfl (by decide +kernel) (by decide +kernel)) (goodIn_sub (fun _ h => List.mem_append_right _ h) (by decide +kernel))) (goodIn_sub (fun _ h => List.mem_append_left _ (List.mem_append_left _ (List.mem_append_right _ h))) (by decide +kernel))
set_option maxRecDepth 20000 in
theorem gL_law_L_pointFor : GoodIn wsL_law (va_wsS RL 246 yL_pointFor wsL_pointFor) := goodIn_app (goodIn_of _ (by decide +kernel)) ggL_law_L_pointFor
set_option maxRecDepth 20000 in
theorem ggL_law_X10_pointFor : GoodIn wsL_law wsX10_pointFor := goodIn_q _ [1114, 384, 305, 309, 197, 271, 201, 1101] [190, 119, 351, 1115, 382, 383, 302, 303, 304, 5, 306, 307, 308, 191, 195, 196, 268, 269, 270, 224, 198, 199, 200, 1116, 1099, 1100, 118, 443, 137, 138, 140, 143, 139, 1309, 1310, 1364, 1365, 1366, 1367, 1368, 1369, 1370, 1371, 1372, 1373, 1374, 1375, 1376, 1377, 1378, 1379, 1380, 1381, 1382, 1383, 1384, 1385, 1386, 1387, 1388, 1389, 1390, 1391, 1392, 1393, 1394, 1395, 1396, 1397, 1398, 1399] rfl (by decide +kernel) (by decide +kernel)
set_option maxRecDepth 20000 in
theorem gL_law_X10_pointFor : GoodIn wsL_law (wsV RL 248 RX10 yX10_pointFor wsX10_pointFor) := goodIn_app (goodIn_of _ (by decide +kernel)) ggL_law_X10_pointFor
set_option maxRecDepth 20000 in
theorem ggL_law_L_classOf : GoodIn wsL_law wsL_classOf := goodIn_ca (goodIn_q _ [1123, 287, 291, 246, 1127] [1119, 229, 1120, 1121, 1122, 2, 16, 166, 284, 285, 286, 288, 289, 290, 27, 185, 244, 245, 247, 248, 1124, 1125, 1126, 58, 1306, 1307, 1308, 1311, 1312, 1313, 1314, 1315, 1316, 1317, 1318, 1319, 1327, 1328, 1329, 1330, 1331] rfl (by decide +kernel) (by decide +kernel)) (goodIn_sub (fun _ h => List.mem_append_right _ h) (by decide +kernel))
set_option maxRecDepth 20000 in
theorem gL_law_L_classOf : GoodIn wsL_law (va_wsS RL 249 yL_classOf wsL_classOf) := goodIn_app (goodIn_of _ (by decide +kernel)) ggL_law_L_classOf
set_option maxRecDepth 20000 in
theorem ggL_law_X10_classOf : GoodIn wsL_law wsX10_classOf := goodIn_q _ [1131, 309, 197, 1135, 201] [190, 119, 306, 307, 308, 5, 191, 195, 196, 1132, 1133, 1134, 118, 668, 126, 1136, 1137, 1138, 198, 199, 200, 1309, 1310, 1364, 1365, 1366, 1367, 1368, 1369, 1370, 1371, 1372, 1373, 1374, 1375, 1376, 1377, 1378, 1379, 1380, 1381, 1382, 1383, 1384, 1385, 1386, 1387, 1388, 1389, 1390, 1391, 1392, 1393, 1394, 1395, 1396, 1397, 1398, 1399] rfl (by decide +kernel) (by decide +kernel)
set_option maxRecDepth 20000 in
theorem gL_law_X10_classOf : GoodIn wsL_law (wsV RL 251 RX10 yX10_classOf wsX10_classOf) := goodIn_app (goodIn_of _ (by decide +kernel)) ggL_law_X10_classOf
set_option maxRecDepth 20000 in
theorem ggL_law_X8_punctuality : GoodIn wsL_law wsX8_punctuality := goodIn_q _ [1142, 1146] [16, 368, 1143, 1144, 1145, 43, 374, 91, 92, 88, 1306, 1307, 1308, 1311, 1312, 1313, 1314, 1315, 1316, 1317, 1318, 1319, 1346, 1347, 1348, 1349, 1350, 1351, 1352, 1353, 1354, 1355, 1356] rfl (by decide +kernel) (by decide +kernel)
set_option maxRecDepth 20000 in
theorem gL_law_X8_punctuality : GoodIn wsL_law (wsV RL 252 RX8 yX8_punctuality wsX8_punctuality) := goodIn_app (goodIn_of _ (by decide +kernel)) ggL_law_X8_punctuality
set_option maxRecDepth 20000 in
theorem ggL_law_X10_punctuality : GoodIn wsL_law wsX10_punctuality := goodIn_q _ [1150] [190, 119, 415, 422, 423, 419, 1309, 1310, 1364, 1365, 1366, 1367, 1368, 1369, 1370, 1371, 1372, 1373, 1374, 1375, 1376, 1377, 1378, 1379, 1380, 1381, 1382, 1383, 1384, 1385, 1386, 1387, 1388, 1389, 1390, 1391, 1392, 1393, 1394, 1395, 1396, 1397, 1398, 1399] rfl (by decide +kernel) (by decide +kernel)
set_option maxRecDepth 20000 in
theorem gL_law_X10_punctuality : GoodIn wsL_law (wsV RL 256 RX10 yX10_punctuality wsX10_punctuality) := goodIn_app (goodIn_of _ (by decide +kernel)) ggL_law_X10_punctuality
