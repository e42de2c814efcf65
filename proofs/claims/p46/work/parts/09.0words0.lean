set_option maxRecDepth 20000 in
theorem ggX6_sendUnits_X5_daysBetween : GoodIn wsX6_sendUnits wsX5_daysBetween := goodIn_q _ [15, 20, 24] [16, 17, 18, 19, 14, 21, 22, 23, 73, 74, 75] rfl (by decide +kernel) (by decide +kernel)
set_option maxRecDepth 20000 in
theorem gX6_sendUnits_X5_daysBetween : GoodIn wsX6_sendUnits (wsV RX6 209 RX5 yX5_daysBetween wsX5_daysBetween) := goodIn_app (goodIn_of _ (by decide +kernel)) ggX6_sendUnits_X5_daysBetween
set_option maxRecDepth 20000 in
theorem ggX6_sendUnits_X7_full : GoodIn wsX6_sendUnits wsX7_full := goodIn_q _ [29] [30, 76, 77, 78, 79, 80, 81, 82] rfl (by decide +kernel) (by decide +kernel)
set_option maxRecDepth 20000 in
theorem gX6_sendUnits_X7_full : GoodIn wsX6_sendUnits (wsV RX6 212 RX7 yX7_full wsX7_full) := goodIn_app (goodIn_of _ (by decide +kernel)) ggX6_sendUnits_X7_full
set_option maxRecDepth 20000 in
theorem ggX6_sendUnits_X1_firstFree : GoodIn wsX6_sendUnits wsX1_firstFree := goodIn_q _ [35, 43] [36, 37, 38, 39, 40, 41, 42, 34, 44, 45, 67, 68, 69, 70, 71, 72] rfl (by decide +kernel) (by decide +kernel)
set_option maxRecDepth 20000 in
theorem gX6_sendUnits_X1_firstFree : GoodIn wsX6_sendUnits (wsV RX6 173 RX1 yX1_firstFree wsX1_firstFree) := goodIn_app (goodIn_of _ (by decide +kernel)) ggX6_sendUnits_X1_firstFree
set_option maxRecDepth 20000 in
theorem ggX6_sendUnits_X1_freeOf : GoodIn wsX6_sendUnits wsX1_freeOf := goodIn_q _ [43] [44, 45, 67, 68, 69, 70, 71, 72] rfl (by decide +kernel) (by decide +kernel)
set_option maxRecDepth 20000 in
theorem gX6_sendUnits_X1_freeOf : GoodIn wsX6_sendUnits (wsV RX6 177 RX1 yX1_freeOf wsX1_freeOf) := goodIn_app (goodIn_of _ (by decide +kernel)) ggX6_sendUnits_X1_freeOf
set_option maxRecDepth 20000 in
theorem ggX6_sendUnits_X7_add : GoodIn wsX6_sendUnits wsX7_add := goodIn_q _ [50, 29] [51, 30, 52, 53, 54, 55, 56, 57, 26, 27, 28, 76, 77, 78, 79, 80, 81, 82] rfl (by decide +kernel) (by decide +kernel)
set_option maxRecDepth 20000 in
theorem gX6_sendUnits_X7_add : GoodIn wsX6_sendUnits (wsV RX6 219 RX7 yX7_add wsX7_add) := goodIn_app (goodIn_of _ (by decide +kernel)) ggX6_sendUnits_X7_add
set_option maxRecDepth 20000 in
theorem ggX6_review_X4_stands : GoodIn wsX6_review wsX4_stands := goodIn_q _ [11, 15] [12, 13, 14, 139, 140, 141, 142, 143] rfl (by decide +kernel) (by decide +kernel)
set_option maxRecDepth 20000 in
theorem gX6_review_X4_stands : GoodIn wsX6_review (wsV RX6 110 RX4 yX4_stands wsX4_stands) := goodIn_app (goodIn_of _ (by decide +kernel)) ggX6_review_X4_stands
set_option maxRecDepth 20000 in
theorem ggX6_review_X8_pair : GoodIn wsX6_review wsX8_pair := goodIn_q _ [15] [] rfl (by decide +kernel) (by decide +kernel)
set_option maxRecDepth 20000 in
theorem gX6_review_X8_pair_n117 : GoodIn wsX6_review (wsX8_pair) := ggX6_review_X8_pair
set_option maxRecDepth 20000 in
theorem ggX6_review_X6_positionAt : GoodIn wsX6_review wsX6_positionAt := goodIn_q _ [20, 28, 33, 43, 53, 60] [21, 22, 23, 24, 25, 26, 27, 29, 30, 31, 32, 34, 35, 36, 37, 38, 39, 40, 41, 42, 44, 45, 46, 47, 48, 49, 50, 51, 52, 54, 55, 56, 57, 58, 59, 61, 62, 130, 131, 132, 133, 134, 135, 136, 137, 138, 144, 145, 146, 147, 148, 149, 150, 151, 152, 153, 154, 155, 156, 157, 158, 159, 160, 161, 162, 163, 164, 165, 166, 167] rfl (by decide +kernel) (by decide +kernel)
set_option maxRecDepth 20000 in
theorem gX6_review_X6_positionAt : GoodIn wsX6_review (wsV RX6 120 RX6 yX6_positionAt wsX6_positionAt) := goodIn_app (goodIn_of _ (by decide +kernel)) ggX6_review_X6_positionAt
set_option maxRecDepth 20000 in
theorem ggX6_review_X0_inPacks : GoodIn wsX6_review wsX0_inPacks := goodIn_q _ [67, 72] [68, 69, 70, 71, 66, 73, 168, 169, 170, 171, 172] rfl (by decide +kernel) (by decide +kernel)
set_option maxRecDepth 20000 in
theorem gX6_review_X0_inPacks : GoodIn wsX6_review (wsV RX6 223 RX0 yX0_inPacks wsX0_inPacks) := goodIn_app (goodIn_of _ (by decide +kernel)) ggX6_review_X0_inPacks
set_option maxRecDepth 20000 in
theorem ggX6_review_X6_orderOutside : GoodIn wsX6_review wsX6_orderOutside := goodIn_q _ [77, 84, 72, 89, 96] [22, 4, 78, 79, 80, 81, 82, 83, 42, 44, 85, 70, 71, 66, 73, 86, 87, 88, 46, 47, 48, 90, 91, 45, 92, 93, 94, 95, 97, 69, 130, 131, 132, 133, 134, 135, 136, 137, 138, 168, 169, 170, 171, 172, 150, 151, 152, 153, 154, 155, 156] rfl (by decide +kernel) (by decide +kernel)
set_option maxRecDepth 20000 in
theorem gX6_review_X6_orderOutside : GoodIn wsX6_review (wsV RX6 232 RX6 yX6_orderOutside wsX6_orderOutside) := goodIn_app (goodIn_of _ (by decide +kernel)) ggX6_review_X6_orderOutside
set_option maxRecDepth 20000 in
theorem ggX6_review_X6_sendUnits : GoodIn wsX6_review wsX6_sendUnits := goodIn_q _ [101, 106, 113, 118, 15, 84, 123, 127, 89] [102, 78, 22, 21, 103, 104, 105, 107, 108, 109, 110, 111, 112, 114, 115, 116, 117, 119, 13, 14, 81, 82, 83, 42, 44, 120, 121, 122, 27, 34, 35, 36, 37, 124, 125, 126, 38, 128, 129, 86, 87, 88, 46, 47, 48, 90, 91, 45, 92, 130, 131, 132, 133, 134, 135, 136, 137, 138, 144, 145, 146, 147, 148, 149, 173, 174, 175, 150, 151, 152, 153, 154, 155, 156] rfl (by decide +kernel) (by decide +kernel)
set_option maxRecDepth 20000 in
theorem gX6_review_X6_sendUnits : GoodIn wsX6_review (wsV RX6 236 RX6 yX6_sendUnits wsX6_sendUnits) := goodIn_app (goodIn_of _ (by decide +kernel)) ggX6_review_X6_sendUnits
set_option maxRecDepth 20000 in
theorem ggX6_orderOutside_X7_full : GoodIn wsX6_orderOutside wsX7_full := goodIn_q _ [10] [11, 49, 50, 51, 52, 53, 54, 55] rfl (by decide +kernel) (by decide +kernel)
set_option maxRecDepth 20000 in
theorem gX6_orderOutside_X7_full : GoodIn wsX6_orderOutside (wsV RX6 212 RX7 yX7_full wsX7_full) := goodIn_app (goodIn_of _ (by decide +kernel)) ggX6_orderOutside_X7_full
set_option maxRecDepth 20000 in
theorem ggX6_orderOutside_X0_has : GoodIn wsX6_orderOutside wsX0_has := goodIn_q _ [16] [17, 44, 45, 46, 47, 48] rfl (by decide +kernel) (by decide +kernel)
set_option maxRecDepth 20000 in
theorem gX6_orderOutside_X0_has : GoodIn wsX6_orderOutside (wsV RX6 205 RX0 yX0_has wsX0_has) := goodIn_app (goodIn_of _ (by decide +kernel)) ggX6_orderOutside_X0_has
set_option maxRecDepth 20000 in
theorem ggX6_orderOutside_X7_add : GoodIn wsX6_orderOutside wsX7_add := goodIn_q _ [21, 10] [22, 11, 23, 24, 25, 26, 27, 28, 7, 8, 9, 49, 50, 51, 52, 53, 54, 55] rfl (by decide +kernel) (by decide +kernel)
set_option maxRecDepth 20000 in
theorem gX6_orderOutside_X7_add : GoodIn wsX6_orderOutside (wsV RX6 219 RX7 yX7_add wsX7_add) := goodIn_app (goodIn_of _ (by decide +kernel)) ggX6_orderOutside_X7_add
set_option maxRecDepth 20000 in
theorem ggX6_orderOutside_X0_priceOf : GoodIn wsX6_orderOutside wsX0_priceOf := goodIn_q _ [32, 16] [33, 34, 13, 14, 15, 17, 44, 45, 46, 47, 48] rfl (by decide +kernel) (by decide +kernel)
set_option maxRecDepth 20000 in
theorem gX6_orderOutside_X0_priceOf : GoodIn wsX6_orderOutside (wsV RX6 202 RX0 yX0_priceOf wsX0_priceOf) := goodIn_app (goodIn_of _ (by decide +kernel)) ggX6_orderOutside_X0_priceOf
set_option maxRecDepth 20000 in
theorem ggX6_wasteExpired_X2_heldOf : GoodIn wsX6_wasteExpired wsX2_heldOf := goodIn_q _ [13] [14, 55, 56, 57, 58, 59, 60, 61, 62, 63, 64, 65] rfl (by decide +kernel) (by decide +kernel)
set_option maxRecDepth 20000 in
theorem gX6_wasteExpired_X2_heldOf : GoodIn wsX6_wasteExpired (wsV RX6 151 RX2 yX2_heldOf wsX2_heldOf) := goodIn_app (goodIn_of _ (by decide +kernel)) ggX6_wasteExpired_X2_heldOf
set_option maxRecDepth 20000 in
theorem ggX6_wasteExpired_X6_hold : GoodIn wsX6_wasteExpired wsX6_hold := goodIn_q _ [19] [6, 20, 21, 1, 22, 40, 41, 42, 43, 44, 45, 46, 47, 48, 55, 56, 57, 58, 59, 60, 61, 62, 63, 64, 65, 49, 50, 51, 52, 53, 54] rfl (by decide +kernel) (by decide +kernel)
set_option maxRecDepth 20000 in
theorem gX6_wasteExpired_X6_hold : GoodIn wsX6_wasteExpired (wsV RX6 154 RX6 yX6_hold wsX6_hold) := goodIn_app (goodIn_of _ (by decide +kernel)) ggX6_wasteExpired_X6_hold
set_option maxRecDepth 20000 in
theorem ggX6_wasteExpired_X6_waste : GoodIn wsX6_wasteExpired wsX6_waste := goodIn_q _ [26, 33, 38] [27, 28, 29, 30, 31, 32, 34, 35, 36, 37, 39, 40, 41, 42, 43, 44, 45, 46, 47, 48, 66, 67, 68, 69, 70] rfl (by decide +kernel) (by decide +kernel)
set_option maxRecDepth 20000 in
theorem gX6_wasteExpired_X6_waste : GoodIn wsX6_wasteExpired (wsV RX6 261 RX6 yX6_waste wsX6_waste) := goodIn_app (goodIn_of _ (by decide +kernel)) ggX6_wasteExpired_X6_waste
set_option maxRecDepth 20000 in
theorem ggX6_takeArrivals_X6_takeIn : GoodIn wsX6_takeArrivals wsX6_takeIn := goodIn_q _ [10, 18, 24, 31, 37, 44, 51, 58, 63] [1, 3, 11, 12, 13, 14, 15, 16, 17, 5, 19, 20, 21, 22, 23, 9, 25, 26, 27, 28, 29, 30, 32, 33, 34, 35, 36, 38, 39, 40, 41, 42, 43, 45, 46, 47, 48, 49, 50, 52, 53, 54, 55, 56, 57, 59, 60, 61, 62, 64, 65, 66, 67, 68, 69, 70, 71, 72, 73, 74, 75, 76, 77, 78, 79, 80, 81, 82, 83, 84, 85, 86, 87, 88, 89, 90, 91, 92, 93, 94] rfl (by decide +kernel) (by decide +kernel)
set_option maxRecDepth 20000 in
theorem gX6_takeArrivals_X6_takeIn : GoodIn wsX6_takeArrivals (wsV RX6 272 RX6 yX6_takeIn wsX6_takeIn) := goodIn_app (goodIn_of _ (by decide +kernel)) ggX6_takeArrivals_X6_takeIn
set_option maxRecDepth 20000 in
theorem ggX6_takeIn_X6_roomAt : GoodIn wsX6_takeIn wsX6_roomAt := goodIn_q _ [18, 25, 31] [19, 20, 12, 21, 22, 23, 24, 26, 27, 28, 29, 30, 32, 33, 34, 59, 60, 61, 62, 63, 64, 65, 66, 67, 81, 82, 83, 75, 76, 77, 78, 79, 80] rfl (by decide +kernel) (by decide +kernel)
set_option maxRecDepth 20000 in
theorem gX6_takeIn_X6_roomAt : GoodIn wsX6_takeIn (wsV RX6 279 RX6 yX6_roomAt wsX6_roomAt) := goodIn_app (goodIn_of _ (by decide +kernel)) ggX6_takeIn_X6_roomAt
set_option maxRecDepth 20000 in
theorem ggX6_takeIn_X1_add : GoodIn wsX6_takeIn wsX1_add := goodIn_q _ [38] [32, 39, 33, 34, 40, 41, 75, 76, 77, 78, 79, 80] rfl (by decide +kernel) (by decide +kernel)
set_option maxRecDepth 20000 in
theorem gX6_takeIn_X1_add : GoodIn wsX6_takeIn (wsV RX6 282 RX1 yX1_add wsX1_add) := goodIn_app (goodIn_of _ (by decide +kernel)) ggX6_takeIn_X1_add
set_option maxRecDepth 20000 in
theorem ggX6_takeIn_X6_waste : GoodIn wsX6_takeIn wsX6_waste := goodIn_q _ [45, 52, 57] [46, 47, 48, 49, 50, 51, 53, 54, 55, 56, 58, 59, 60, 61, 62, 63, 64, 65, 66, 67, 84, 85, 86, 87, 88] rfl (by decide +kernel) (by decide +kernel)
set_option maxRecDepth 20000 in
theorem gX6_takeIn_X6_waste : GoodIn wsX6_takeIn (wsV RX6 261 RX6 yX6_waste wsX6_waste) := goodIn_app (goodIn_of _ (by decide +kernel)) ggX6_takeIn_X6_waste
set_option maxRecDepth 20000 in
theorem ggX6_serveDueOrders_X2_missing : GoodIn wsX6_serveDueOrders wsX2_missing := goodIn_q _ [11] [12, 13, 60, 61, 62, 63, 64, 65, 66, 67, 68, 69, 70] rfl (by decide +kernel) (by decide +kernel)
set_option maxRecDepth 20000 in
theorem gX6_serveDueOrders_X2_missing : GoodIn wsX6_serveDueOrders (wsV RX6 164 RX2 yX2_missing wsX2_missing) := goodIn_app (goodIn_of _ (by decide +kernel)) ggX6_serveDueOrders_X2_missing
set_option maxRecDepth 20000 in
theorem ggX6_serveDueOrders_X6_shipOrder : GoodIn wsX6_serveDueOrders wsX6_shipOrder := goodIn_q _ [18, 30, 35, 43, 48] [19, 20, 1, 21, 3, 22, 5, 23, 24, 25, 6, 26, 27, 28, 29, 10, 31, 32, 33, 34, 17, 36, 37, 38, 39, 40, 41, 42, 44, 45, 46, 47, 49, 50, 51, 52, 53, 54, 55, 56, 57, 58, 59, 71, 72, 73, 74, 75, 76, 60, 61, 62, 63, 64, 65, 66, 67, 68, 69, 70, 77, 78, 79, 80, 81] rfl (by decide +kernel) (by decide +kernel)
set_option maxRecDepth 20000 in
theorem gX6_serveDueOrders_X6_shipOrder : GoodIn wsX6_serveDueOrders (wsV RX6 284 RX6 yX6_shipOrder wsX6_shipOrder) := goodIn_app (goodIn_of _ (by decide +kernel)) ggX6_serveDueOrders_X6_shipOrder
set_option maxRecDepth 20000 in
theorem ggX6_reviewAll_X6_review : GoodIn wsX6_reviewAll wsX6_review := goodIn_q _ [9, 19, 23, 27, 35, 40, 50, 60, 67, 74, 79, 84, 91, 96, 103, 108, 112, 119, 124, 129, 133] [10, 11, 12, 1, 13, 14, 15, 16, 17, 18, 20, 21, 22, 24, 25, 26, 8, 28, 29, 30, 31, 32, 33, 34, 36, 37, 38, 39, 41, 42, 43, 44, 45, 46, 47, 48, 49, 51, 52, 53, 54, 55, 56, 57, 58, 59, 61, 62, 63, 64, 65, 66, 68, 69, 70, 71, 72, 73, 75, 76, 77, 78, 80, 81, 82, 83, 85, 86, 87, 88, 89, 90, 92, 93, 94, 95, 97, 98, 99, 100, 101, 102, 104, 105, 106, 107, 3, 109, 110, 111, 113, 114, 115, 116, 117, 118, 120, 121, 122, 123, 125, 126, 127, 128, 130, 131, 132, 134, 135, 136, 137, 138, 139, 140, 141, 142, 143, 144, 153, 154, 155, 156, 157, 158, 159, 160, 161, 162, 163, 164, 165, 166, 167, 168, 169, 170, 171, 172, 173, 174, 175, 176, 177, 178, 179, 180, 181, 145, 146, 147, 148, 149, 150, 151, 152] rfl (by decide +kernel) (by decide +kernel)
set_option maxRecDepth 20000 in
theorem gX6_reviewAll_X6_review : GoodIn wsX6_reviewAll (wsV RX6 289 RX6 yX6_review wsX6_review) := goodIn_app (goodIn_of _ (by decide +kernel)) ggX6_reviewAll_X6_review
set_option maxRecDepth 20000 in
theorem ggX6_countHolding_X0_priceOf : GoodIn wsX6_countHolding wsX0_priceOf := goodIn_q _ [11, 16] [12, 13, 14, 15, 10, 17, 33, 34, 35, 36, 37] rfl (by decide +kernel) (by decide +kernel)
set_option maxRecDepth 20000 in
theorem gX6_countHolding_X0_priceOf : GoodIn wsX6_countHolding (wsV RX6 202 RX0 yX0_priceOf wsX0_priceOf) := goodIn_app (goodIn_of _ (by decide +kernel)) ggX6_countHolding_X0_priceOf
