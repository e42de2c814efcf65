set_option maxRecDepth 20000 in
theorem ggL_law_X10_sites : GoodIn wsL_law wsX10_sites := goodIn_q _ [832, 816] [119, 224, 813, 814, 815, 5, 190, 1309, 1310, 1364, 1365, 1366, 1367, 1368, 1369, 1370, 1371, 1372, 1373, 1374, 1375, 1376, 1377, 1378, 1379, 1380, 1381, 1382, 1383, 1384, 1385, 1386, 1387, 1388, 1389, 1390, 1391, 1392, 1393, 1394, 1395, 1396, 1397, 1398, 1399] rfl (by decide +kernel) (by decide +kernel)
set_option maxRecDepth 20000 in
theorem gL_law_X10_sites : GoodIn wsL_law (wsV RL 187 RX10 yX10_sites wsX10_sites) := goodIn_app (goodIn_of _ (by decide +kernel)) ggL_law_X10_sites
