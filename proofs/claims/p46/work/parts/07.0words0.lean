set_option maxRecDepth 20000 in
theorem ggX0_priceOf_X0_has : GoodIn wsX0_priceOf wsX0_has := goodIn_q _ [6] [7, 8, 9, 10, 11, 12] rfl (by decide +kernel) (by decide +kernel)
set_option maxRecDepth 20000 in
theorem gX0_priceOf_X0_has : GoodIn wsX0_priceOf (wsV RX0 28 RX0 yX0_has wsX0_has) := goodIn_app (goodIn_of _ (by decide +kernel)) ggX0_priceOf_X0_has
set_option maxRecDepth 20000 in
theorem ggX0_inPacks_X0_has : GoodIn wsX0_inPacks wsX0_has := goodIn_q _ [6] [7, 8, 9, 10, 11, 12] rfl (by decide +kernel) (by decide +kernel)
set_option maxRecDepth 20000 in
theorem gX0_inPacks_X0_has : GoodIn wsX0_inPacks (wsV RX0 28 RX0 yX0_has wsX0_has) := goodIn_app (goodIn_of _ (by decide +kernel)) ggX0_inPacks_X0_has
set_option maxRecDepth 20000 in
theorem ggX1_firstFree_X1_freeOf : GoodIn wsX1_firstFree wsX1_freeOf := goodIn_q _ [9] [10, 11, 12, 13, 14, 15, 16, 17] rfl (by decide +kernel) (by decide +kernel)
set_option maxRecDepth 20000 in
theorem gX1_firstFree_X1_freeOf : GoodIn wsX1_firstFree (wsV RX1 39 RX1 yX1_freeOf wsX1_freeOf) := goodIn_app (goodIn_of _ (by decide +kernel)) ggX1_firstFree_X1_freeOf
set_option maxRecDepth 20000 in
theorem ggX4_stands_X8_pair : GoodIn wsX4_stands wsX8_pair := goodIn_q _ [4] [] rfl (by decide +kernel) (by decide +kernel)
set_option maxRecDepth 20000 in
theorem gX4_stands_X8_pair_n28 : GoodIn wsX4_stands (wsX8_pair) := ggX4_stands_X8_pair
set_option maxRecDepth 20000 in
theorem ggX5_daysBetween_X5_has : GoodIn wsX5_daysBetween wsX5_has := goodIn_q _ [6] [7, 11, 12, 13] rfl (by decide +kernel) (by decide +kernel)
set_option maxRecDepth 20000 in
theorem gX5_daysBetween_X5_has : GoodIn wsX5_daysBetween (wsV RX5 22 RX5 yX5_has wsX5_has) := goodIn_app (goodIn_of _ (by decide +kernel)) ggX5_daysBetween_X5_has
set_option maxRecDepth 20000 in
theorem ggX5_daysBetween_X8_pair : GoodIn wsX5_daysBetween wsX8_pair := goodIn_q _ [10] [] rfl (by decide +kernel) (by decide +kernel)
set_option maxRecDepth 20000 in
theorem gX5_daysBetween_X8_pair_n26 : GoodIn wsX5_daysBetween (wsX8_pair) := ggX5_daysBetween_X8_pair
set_option maxRecDepth 20000 in
theorem ggX6_roomAt_X5_has : GoodIn wsX6_roomAt wsX5_has := goodIn_q _ [8] [9, 27, 28, 29] rfl (by decide +kernel) (by decide +kernel)
set_option maxRecDepth 20000 in
theorem gX6_roomAt_X5_has : GoodIn wsX6_roomAt (wsV RX6 89 RX5 yX5_has wsX5_has) := goodIn_app (goodIn_of _ (by decide +kernel)) ggX6_roomAt_X5_has
set_option maxRecDepth 20000 in
theorem ggX6_roomAt_X1_allUnitsAt : GoodIn wsX6_roomAt wsX1_allUnitsAt := goodIn_q _ [14] [15, 16, 17, 30, 31, 32, 33, 34, 35] rfl (by decide +kernel) (by decide +kernel)
set_option maxRecDepth 20000 in
theorem gX6_roomAt_X1_allUnitsAt : GoodIn wsX6_roomAt (wsV RX6 96 RX1 yX1_allUnitsAt wsX1_allUnitsAt) := goodIn_app (goodIn_of _ (by decide +kernel)) ggX6_roomAt_X1_allUnitsAt
set_option maxRecDepth 20000 in
theorem ggX6_positionAt_X1_unitsAt : GoodIn wsX6_positionAt wsX1_unitsAt := goodIn_q _ [8, 13] [9, 10, 11, 12, 7, 14, 15, 16, 17, 18, 52, 53, 54, 55, 56, 57] rfl (by decide +kernel) (by decide +kernel)
set_option maxRecDepth 20000 in
theorem gX6_positionAt_X1_unitsAt : GoodIn wsX6_positionAt (wsV RX6 100 RX1 yX1_unitsAt wsX1_unitsAt) := goodIn_app (goodIn_of _ (by decide +kernel)) ggX6_positionAt_X1_unitsAt
set_option maxRecDepth 20000 in
theorem ggX6_positionAt_X7_unitsTo : GoodIn wsX6_positionAt wsX7_unitsTo := goodIn_q _ [23] [24, 25, 26, 27, 28, 58, 59, 60, 61, 62, 63, 64] rfl (by decide +kernel) (by decide +kernel)
set_option maxRecDepth 20000 in
theorem gX6_positionAt_X7_unitsTo : GoodIn wsX6_positionAt (wsV RX6 104 RX7 yX7_unitsTo wsX7_unitsTo) := goodIn_app (goodIn_of _ (by decide +kernel)) ggX6_positionAt_X7_unitsTo
set_option maxRecDepth 20000 in
theorem ggX6_positionAt_X2_openUnitsFrom : GoodIn wsX6_positionAt wsX2_openUnitsFrom := goodIn_q _ [33, 40] [34, 35, 36, 37, 38, 39, 32, 41, 42, 65, 66, 67, 68, 69, 70, 71, 72, 73, 74, 75] rfl (by decide +kernel) (by decide +kernel)
set_option maxRecDepth 20000 in
theorem gX6_positionAt_X2_openUnitsFrom : GoodIn wsX6_positionAt (wsV RX6 107 RX2 yX2_openUnitsFrom wsX2_openUnitsFrom) := goodIn_app (goodIn_of _ (by decide +kernel)) ggX6_positionAt_X2_openUnitsFrom
set_option maxRecDepth 20000 in
theorem ggX6_lackAt_X4_stands : GoodIn wsX6_lackAt wsX4_stands := goodIn_q _ [11, 15] [12, 13, 14, 72, 73, 74, 75, 76] rfl (by decide +kernel) (by decide +kernel)
set_option maxRecDepth 20000 in
theorem gX6_lackAt_X4_stands : GoodIn wsX6_lackAt (wsV RX6 110 RX4 yX4_stands wsX4_stands) := goodIn_app (goodIn_of _ (by decide +kernel)) ggX6_lackAt_X4_stands
set_option maxRecDepth 20000 in
theorem ggX6_lackAt_X8_pair : GoodIn wsX6_lackAt wsX8_pair := goodIn_q _ [15] [] rfl (by decide +kernel) (by decide +kernel)
set_option maxRecDepth 20000 in
theorem gX6_lackAt_X8_pair_n117 : GoodIn wsX6_lackAt (wsX8_pair) := ggX6_lackAt_X8_pair
set_option maxRecDepth 20000 in
theorem ggX6_lackAt_X6_positionAt : GoodIn wsX6_lackAt wsX6_positionAt := goodIn_q _ [20, 28, 33, 43, 53, 60] [21, 22, 23, 24, 25, 26, 27, 29, 30, 31, 32, 34, 35, 36, 37, 38, 39, 40, 41, 42, 44, 45, 46, 47, 48, 49, 50, 51, 52, 54, 55, 56, 57, 58, 59, 61, 62, 63, 64, 65, 66, 67, 68, 69, 70, 71, 77, 78, 79, 80, 81, 82, 83, 84, 85, 86, 87, 88, 89, 90, 91, 92, 93, 94, 95, 96, 97, 98, 99, 100] rfl (by decide +kernel) (by decide +kernel)
set_option maxRecDepth 20000 in
theorem gX6_lackAt_X6_positionAt : GoodIn wsX6_lackAt (wsV RX6 120 RX6 yX6_positionAt wsX6_positionAt) := goodIn_app (goodIn_of _ (by decide +kernel)) ggX6_lackAt_X6_positionAt
set_option maxRecDepth 20000 in
theorem ggX6_spareAt_X4_stands : GoodIn wsX6_spareAt wsX4_stands := goodIn_q _ [15, 19] [16, 17, 18, 88, 89, 90, 91, 92] rfl (by decide +kernel) (by decide +kernel)
set_option maxRecDepth 20000 in
theorem gX6_spareAt_X4_stands : GoodIn wsX6_spareAt (wsV RX6 110 RX4 yX4_stands wsX4_stands) := goodIn_app (goodIn_of _ (by decide +kernel)) ggX6_spareAt_X4_stands
set_option maxRecDepth 20000 in
theorem ggX6_spareAt_X6_positionAt : GoodIn wsX6_spareAt wsX6_positionAt := goodIn_q _ [24, 31, 36, 46, 56, 63] [3, 25, 26, 27, 28, 29, 30, 32, 33, 34, 35, 37, 38, 39, 40, 41, 42, 43, 44, 45, 47, 48, 49, 50, 51, 52, 53, 54, 55, 57, 58, 59, 60, 61, 62, 64, 65, 79, 80, 81, 82, 83, 84, 85, 86, 87, 93, 94, 95, 96, 97, 98, 99, 100, 101, 102, 103, 104, 105, 106, 107, 108, 109, 110, 111, 112, 113, 114, 115, 116] rfl (by decide +kernel) (by decide +kernel)
set_option maxRecDepth 20000 in
theorem gX6_spareAt_X6_positionAt : GoodIn wsX6_spareAt (wsV RX6 120 RX6 yX6_positionAt wsX6_positionAt) := goodIn_app (goodIn_of _ (by decide +kernel)) ggX6_spareAt_X6_positionAt
set_option maxRecDepth 20000 in
theorem ggX6_spareAt_X8_pair : GoodIn wsX6_spareAt wsX8_pair := goodIn_q _ [19] [] rfl (by decide +kernel) (by decide +kernel)
set_option maxRecDepth 20000 in
theorem gX6_spareAt_X8_pair_n117 : GoodIn wsX6_spareAt (wsX8_pair) := ggX6_spareAt_X8_pair
set_option maxRecDepth 20000 in
theorem ggX6_spareAt_X1_freeAt : GoodIn wsX6_spareAt wsX1_freeAt := goodIn_q _ [69, 73, 77] [70, 71, 72, 30, 37, 38, 39, 40, 74, 75, 76, 41, 78, 93, 94, 95, 96, 97, 98] rfl (by decide +kernel) (by decide +kernel)
set_option maxRecDepth 20000 in
theorem gX6_spareAt_X1_freeAt : GoodIn wsX6_spareAt (wsV RX6 131 RX1 yX1_freeAt wsX1_freeAt) := goodIn_app (goodIn_of _ (by decide +kernel)) ggX6_spareAt_X1_freeAt
set_option maxRecDepth 20000 in
theorem ggX6_rateOver_X2_useWithin : GoodIn wsX6_rateOver wsX2_useWithin := goodIn_q _ [7, 15] [8, 9, 10, 11, 12, 13, 14, 6, 16, 17, 27, 28, 29, 30, 31, 32, 33, 34, 35, 36, 37] rfl (by decide +kernel) (by decide +kernel)
set_option maxRecDepth 20000 in
theorem gX6_rateOver_X2_useWithin : GoodIn wsX6_rateOver (wsV RX6 137 RX2 yX2_useWithin wsX2_useWithin) := goodIn_app (goodIn_of _ (by decide +kernel)) ggX6_rateOver_X2_useWithin
