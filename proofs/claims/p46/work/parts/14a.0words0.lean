set_option maxRecDepth 20000 in
theorem ggX8_mixStocks_X4_stands : GoodIn wsX8_mixStocks wsX4_stands := goodIn_q _ [13, 17] [14, 15, 16, 135, 136, 137, 138, 139] rfl (by decide +kernel) (by decide +kernel)
set_option maxRecDepth 20000 in
theorem gX8_mixStocks_X4_stands : GoodIn wsX8_mixStocks (wsV RX8 89 RX4 yX4_stands wsX4_stands) := goodIn_app (goodIn_of _ (by decide +kernel)) ggX8_mixStocks_X4_stands
set_option maxRecDepth 20000 in
theorem ggX8_mixStocks_X8_mix : GoodIn wsX8_mixStocks wsX8_mix := goodIn_q _ [20] [21] rfl (by decide +kernel) (by decide +kernel)
set_option maxRecDepth 20000 in
theorem gX8_mixStocks_X8_mix : GoodIn wsX8_mixStocks (va_wsS RX8 281 yX8_mix wsX8_mix) := goodIn_app (goodIn_of _ (by decide +kernel)) ggX8_mixStocks_X8_mix
set_option maxRecDepth 20000 in
theorem ggX8_mixStocks_X1_unitsAt : GoodIn wsX8_mixStocks wsX1_unitsAt := goodIn_q _ [26, 31] [27, 28, 29, 30, 25, 32, 33, 34, 35, 36, 140, 141, 142, 143, 144, 145] rfl (by decide +kernel) (by decide +kernel)
set_option maxRecDepth 20000 in
theorem gX8_mixStocks_X1_unitsAt : GoodIn wsX8_mixStocks (wsV RX8 208 RX1 yX1_unitsAt wsX1_unitsAt) := goodIn_app (goodIn_of _ (by decide +kernel)) ggX8_mixStocks_X1_unitsAt
set_option maxRecDepth 20000 in
theorem ggX8_mixStocks_X1_freeAt : GoodIn wsX8_mixStocks wsX1_freeAt := goodIn_q _ [40, 44, 48] [41, 42, 43, 25, 32, 33, 34, 35, 45, 46, 47, 36, 49, 140, 141, 142, 143, 144, 145] rfl (by decide +kernel) (by decide +kernel)
set_option maxRecDepth 20000 in
theorem gX8_mixStocks_X1_freeAt : GoodIn wsX8_mixStocks (wsV RX8 211 RX1 yX1_freeAt wsX1_freeAt) := goodIn_app (goodIn_of _ (by decide +kernel)) ggX8_mixStocks_X1_freeAt
set_option maxRecDepth 20000 in
theorem ggX8_mixStocks_X7_unitsTo : GoodIn wsX8_mixStocks wsX7_unitsTo := goodIn_q _ [54] [55, 56, 57, 58, 59, 146, 147, 148, 149, 150, 151, 152] rfl (by decide +kernel) (by decide +kernel)
set_option maxRecDepth 20000 in
theorem gX8_mixStocks_X7_unitsTo : GoodIn wsX8_mixStocks (wsV RX8 214 RX7 yX7_unitsTo wsX7_unitsTo) := goodIn_app (goodIn_of _ (by decide +kernel)) ggX8_mixStocks_X7_unitsTo
set_option maxRecDepth 20000 in
theorem ggX8_mixStocks_X6_positionAt : GoodIn wsX8_mixStocks wsX6_positionAt := goodIn_q _ [64, 26, 31, 54, 74, 81] [65, 66, 67, 68, 23, 24, 25, 27, 28, 29, 30, 32, 33, 34, 35, 36, 69, 51, 52, 53, 55, 56, 57, 58, 59, 70, 71, 72, 73, 75, 76, 77, 78, 79, 80, 82, 83, 118, 119, 120, 121, 122, 123, 124, 125, 126, 140, 141, 142, 143, 144, 145, 146, 147, 148, 149, 150, 151, 152, 153, 154, 155, 156, 157, 158, 159, 160, 161, 162, 163] rfl (by decide +kernel) (by decide +kernel)
set_option maxRecDepth 20000 in
theorem gX8_mixStocks_X6_positionAt : GoodIn wsX8_mixStocks (wsV RX8 217 RX6 yX6_positionAt wsX6_positionAt) := goodIn_app (goodIn_of _ (by decide +kernel)) ggX8_mixStocks_X6_positionAt
set_option maxRecDepth 20000 in
theorem ggX8_mixStocks_X6_lackAt : GoodIn wsX8_mixStocks wsX6_lackAt := goodIn_q _ [87, 93, 13, 17, 64, 26, 31, 54, 74, 81] [88, 89, 90, 91, 92, 94, 10, 11, 12, 14, 15, 16, 95, 61, 62, 63, 65, 66, 67, 68, 23, 24, 25, 27, 28, 29, 30, 32, 33, 34, 35, 36, 69, 51, 52, 53, 55, 56, 57, 58, 59, 70, 71, 72, 73, 75, 76, 77, 78, 79, 80, 82, 83, 118, 119, 120, 121, 122, 123, 124, 125, 126, 135, 136, 137, 138, 139, 140, 141, 142, 143, 144, 145, 146, 147, 148, 149, 150, 151, 152, 153, 154, 155, 156, 157, 158, 159, 160, 161, 162, 163] rfl (by decide +kernel) (by decide +kernel)
set_option maxRecDepth 20000 in
theorem gX8_mixStocks_X6_lackAt : GoodIn wsX8_mixStocks (wsV RX8 244 RX6 yX6_lackAt wsX6_lackAt) := goodIn_app (goodIn_of _ (by decide +kernel)) ggX8_mixStocks_X6_lackAt
set_option maxRecDepth 20000 in
theorem ggX8_mixStocks_X6_spareAt : GoodIn wsX8_mixStocks wsX6_spareAt := goodIn_q _ [99, 103, 93, 13, 17, 64, 26, 31, 54, 74, 81, 40, 44, 48] [88, 100, 65, 101, 102, 92, 90, 91, 94, 10, 11, 12, 14, 15, 16, 95, 61, 62, 63, 66, 67, 68, 23, 24, 25, 27, 28, 29, 30, 32, 33, 34, 35, 36, 69, 51, 52, 53, 55, 56, 57, 58, 59, 70, 71, 72, 73, 75, 76, 77, 78, 79, 80, 82, 83, 104, 38, 39, 41, 42, 43, 45, 46, 47, 49, 118, 119, 120, 121, 122, 123, 124, 125, 126, 135, 136, 137, 138, 139, 140, 141, 142, 143, 144, 145, 146, 147, 148, 149, 150, 151, 152, 153, 154, 155, 156, 157, 158, 159, 160, 161, 162, 163] rfl (by decide +kernel) (by decide +kernel)
set_option maxRecDepth 20000 in
theorem gX8_mixStocks_X6_spareAt : GoodIn wsX8_mixStocks (wsV RX8 247 RX6 yX6_spareAt wsX6_spareAt) := goodIn_app (goodIn_of _ (by decide +kernel)) ggX8_mixStocks_X6_spareAt
set_option maxRecDepth 20000 in
theorem ggX8_mixStocks_X6_rateOver : GoodIn wsX8_mixStocks wsX6_rateOver := goodIn_q _ [108, 113, 81] [67, 109, 110, 111, 112, 73, 75, 76, 114, 77, 78, 79, 80, 82, 83, 118, 119, 120, 121, 122, 123, 124, 125, 126, 153, 154, 155, 156, 157, 158, 159, 160, 161, 162, 163] rfl (by decide +kernel) (by decide +kernel)
set_option maxRecDepth 20000 in
theorem gX8_mixStocks_X6_rateOver : GoodIn wsX8_mixStocks (wsV RX8 226 RX6 yX6_rateOver wsX6_rateOver) := goodIn_app (goodIn_of _ (by decide +kernel)) ggX8_mixStocks_X6_rateOver
