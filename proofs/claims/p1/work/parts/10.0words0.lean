set_option maxRecDepth 20000 in
theorem ggX6_reserveForAll_X6_queueOpenOrders : GoodIn wsX6_reserveForAll wsX6_queueOpenOrders := goodIn_r _ [6, 7, 8, 9, 1, 10, 11, 12, 13, 14, 15, 16, 63, 64, 65, 66, 67, 68, 69, 70, 71, 72, 73, 74, 75, 76, 77, 78, 79, 80, 81, 82] (by decide +kernel) (by decide +kernel)
set_option maxRecDepth 20000 in
theorem gX6_reserveForAll_X6_queueOpenOrders : GoodIn wsX6_reserveForAll (wsV RX6 180 RX6 yX6_queueOpenOrders wsX6_queueOpenOrders) := goodIn_app (goodIn_of _ (by decide +kernel)) ggX6_reserveForAll_X6_queueOpenOrders
set_option maxRecDepth 20000 in
theorem ggX8_reserveAnew_X6_reserveForAll : GoodIn wsX8_reserveAnew wsX6_reserveForAll := goodIn_r _ [28, 29, 30, 31, 32, 7, 33, 11, 34, 35, 36, 37, 38, 15, 39, 40, 41, 42, 43, 44, 45, 46, 47, 48, 49, 50, 51, 52, 9, 53, 54, 55, 56, 57, 58, 59, 60, 61, 62, 63, 64, 65, 66, 67, 68, 69, 70, 71, 72, 73, 74, 75, 76, 77, 78, 79, 18, 19, 20, 21, 22, 23, 24, 88, 89, 90, 91, 92, 93, 94, 95, 96, 97, 98, 99, 100, 101, 102, 103, 104, 105, 106, 107, 108, 109, 110, 111, 112, 113] (by decide +kernel) (by decide +kernel)
set_option maxRecDepth 20000 in
theorem gX8_reserveAnew_X6_reserveForAll : GoodIn wsX8_reserveAnew (wsV RX8 156 RX6 yX6_reserveForAll wsX6_reserveForAll) := goodIn_app (goodIn_of _ (by decide +kernel)) ggX8_reserveAnew_X6_reserveForAll
set_option maxRecDepth 20000 in
theorem ggX8_reserveAnew_X2_allReserved : GoodIn wsX8_reserveAnew wsX2_allReserved := goodIn_r _ [83, 84, 63, 97, 98, 99, 100, 101, 102, 103, 104, 105, 106, 107] (by decide +kernel) (by decide +kernel)
set_option maxRecDepth 20000 in
theorem gX8_reserveAnew_X2_allReserved : GoodIn wsX8_reserveAnew (wsV RX8 159 RX2 yX2_allReserved wsX2_allReserved) := goodIn_app (goodIn_of _ (by decide +kernel)) ggX8_reserveAnew_X2_allReserved
set_option maxRecDepth 20000 in
theorem ggX8_punctuality_X2_punctualPart : GoodIn wsX8_punctuality wsX2_punctualPart := goodIn_r _ [7, 8, 9, 10, 11, 24, 25, 26, 27, 28, 29, 30, 31, 32, 33, 34] (by decide +kernel) (by decide +kernel)
set_option maxRecDepth 20000 in
theorem gX8_punctuality_X2_punctualPart : GoodIn wsX8_punctuality (wsV RX8 240 RX2 yX2_punctualPart wsX2_punctualPart) := goodIn_app (goodIn_of _ (by decide +kernel)) ggX8_punctuality_X2_punctualPart
set_option maxRecDepth 20000 in
theorem ggX8_digest_X8_mixCounts : GoodIn wsX8_digest wsX8_mixCounts := goodIn_r _ [9, 2, 10, 11, 12, 3, 4, 13, 14, 15, 16, 17, 18, 19, 20, 21, 8, 22, 23, 242, 243, 244, 245, 246, 247, 248, 249, 250, 251, 252, 253, 257, 258, 259, 260, 261, 254, 255, 256, 262, 263, 264, 265, 266, 267, 268, 269, 270, 271, 272, 273, 274, 275, 276, 277, 278, 279, 280, 281, 282, 283, 284, 285] (by decide +kernel) (by decide +kernel)
set_option maxRecDepth 20000 in
theorem gX8_digest_X8_mixCounts : GoodIn wsX8_digest (wsV RX8 259 RX8 yX8_mixCounts wsX8_mixCounts) := goodIn_app (goodIn_of _ (by decide +kernel)) ggX8_digest_X8_mixCounts
set_option maxRecDepth 20000 in
theorem ggX8_digest_X8_mixLots : GoodIn wsX8_digest wsX8_mixLots := goodIn_r _ [27, 2, 13, 14, 28, 29, 30, 31, 32, 33, 34, 35, 36, 37, 20, 21, 8, 22, 23, 242, 243, 244, 245, 246, 247, 248, 249, 250, 251, 252, 253, 262, 263, 264, 265, 266, 267] (by decide +kernel) (by decide +kernel)
set_option maxRecDepth 20000 in
theorem gX8_digest_X8_mixLots : GoodIn wsX8_digest (wsV RX8 263 RX8 yX8_mixLots wsX8_mixLots) := goodIn_app (goodIn_of _ (by decide +kernel)) ggX8_digest_X8_mixLots
set_option maxRecDepth 20000 in
theorem ggX8_digest_X8_mixOrders : GoodIn wsX8_digest wsX8_mixOrders := goodIn_r _ [41, 2, 15, 16, 13, 14, 42, 43, 44, 45, 46, 47, 48, 49, 50, 51, 20, 21, 8, 22, 23, 52, 53, 54, 55, 56, 242, 243, 244, 245, 246, 247, 248, 249, 250, 251, 252, 253, 268, 269, 270, 271, 272, 273, 274, 275, 276, 277, 278, 262, 263, 264, 265, 266, 267] (by decide +kernel) (by decide +kernel)
set_option maxRecDepth 20000 in
theorem gX8_digest_X8_mixOrders : GoodIn wsX8_digest (wsV RX8 266 RX8 yX8_mixOrders wsX8_mixOrders) := goodIn_app (goodIn_of _ (by decide +kernel)) ggX8_digest_X8_mixOrders
set_option maxRecDepth 20000 in
theorem ggX8_digest_X8_mixTransports : GoodIn wsX8_digest wsX8_mixTransports := goodIn_r _ [60, 2, 17, 18, 61, 62, 63, 64, 65, 66, 67, 68, 69, 70, 71, 20, 21, 8, 22, 23, 242, 243, 244, 245, 246, 247, 248, 249, 250, 251, 252, 253, 279, 280, 281, 282, 283, 284, 285] (by decide +kernel) (by decide +kernel)
set_option maxRecDepth 20000 in
theorem gX8_digest_X8_mixTransports : GoodIn wsX8_digest (wsV RX8 269 RX8 yX8_mixTransports wsX8_mixTransports) := goodIn_app (goodIn_of _ (by decide +kernel)) ggX8_digest_X8_mixTransports
set_option maxRecDepth 20000 in
theorem ggX8_digest_X8_mixRoutes : GoodIn wsX8_digest wsX8_mixRoutes := goodIn_r _ [75, 2, 3, 4, 76, 77, 78, 79, 80, 81, 82, 83, 84, 85, 86, 87, 8, 88, 20, 21, 22, 23, 242, 243, 244, 245, 246, 247, 248, 249, 250, 251, 252, 253, 254, 255, 256] (by decide +kernel) (by decide +kernel)
set_option maxRecDepth 20000 in
theorem gX8_digest_X8_mixRoutes : GoodIn wsX8_digest (wsV RX8 272 RX8 yX8_mixRoutes wsX8_mixRoutes) := goodIn_app (goodIn_of _ (by decide +kernel)) ggX8_digest_X8_mixRoutes
set_option maxRecDepth 20000 in
theorem ggX8_digest_X8_mixStocks : GoodIn wsX8_digest wsX8_mixStocks := goodIn_r _ [92, 2, 11, 12, 3, 4, 93, 13, 17, 94, 95, 96, 97, 98, 99, 87, 8, 88, 20, 21, 22, 23, 100, 101, 102, 31, 103, 104, 105, 106, 107, 108, 109, 33, 34, 37, 35, 110, 111, 112, 113, 114, 115, 116, 117, 118, 119, 120, 121, 36, 122, 123, 124, 64, 125, 126, 71, 66, 67, 68, 127, 128, 129, 130, 131, 132, 133, 134, 135, 136, 137, 138, 139, 45, 140, 141, 47, 48, 142, 143, 144, 145, 146, 147, 148, 149, 150, 151, 152, 153, 154, 155, 156, 157, 158, 159, 160, 161, 162, 163, 164, 165, 166, 167, 168, 169, 170, 171, 172, 173, 174, 175, 176, 177, 50, 242, 243, 244, 245, 246, 247, 248, 249, 250, 251, 252, 253, 257, 258, 259, 260, 261, 254, 255, 256, 286, 287, 288, 289, 290, 262, 263, 264, 265, 266, 267, 279, 280, 281, 282, 283, 284, 285, 268, 269, 270, 271, 272, 273, 274, 275, 276, 277, 278] (by decide +kernel) (by decide +kernel)
set_option maxRecDepth 20000 in
theorem gX8_digest_X8_mixStocks : GoodIn wsX8_digest (wsV RX8 275 RX8 yX8_mixStocks wsX8_mixStocks) := goodIn_app (goodIn_of _ (by decide +kernel)) ggX8_digest_X8_mixStocks
set_option maxRecDepth 20000 in
theorem ggX8_digest_X8_mixPlans : GoodIn wsX8_digest wsX8_mixPlans := goodIn_r _ [181, 2, 11, 12, 182, 3, 4, 183, 184, 185, 186, 187, 188, 189, 190, 20, 21, 8, 22, 23, 191, 192, 193, 194, 195, 196, 197, 198, 199, 200, 201, 202, 203, 204, 205, 161, 162, 130, 163, 152, 164, 132, 165, 166, 156, 167, 154, 155, 157, 158, 95, 96, 97, 98, 99, 87, 88, 159, 128, 129, 131, 133, 134, 135, 101, 102, 31, 103, 104, 105, 106, 107, 108, 109, 33, 34, 37, 35, 136, 123, 124, 64, 125, 126, 71, 66, 67, 68, 137, 138, 139, 45, 140, 141, 47, 48, 142, 143, 144, 145, 146, 147, 168, 111, 112, 113, 114, 115, 116, 117, 118, 119, 120, 121, 36, 206, 149, 150, 151, 153, 207, 208, 209, 210, 211, 212, 213, 214, 215, 216, 217, 218, 219, 220, 221, 222, 223, 224, 225, 226, 227, 228, 229, 230, 242, 243, 244, 245, 246, 247, 248, 249, 250, 251, 252, 253, 257, 258, 259, 260, 261, 254, 255, 256, 291, 292, 293, 294, 295, 296, 297, 286, 287, 288, 289, 290, 262, 263, 264, 265, 266, 267, 279, 280, 281, 282, 283, 284, 285, 268, 269, 270, 271, 272, 273, 274, 275, 276, 277, 278] (by decide +kernel) (by decide +kernel)
set_option maxRecDepth 20000 in
theorem gX8_digest_X8_mixPlans : GoodIn wsX8_digest (wsV RX8 278 RX8 yX8_mixPlans wsX8_mixPlans) := goodIn_app (goodIn_of _ (by decide +kernel)) ggX8_digest_X8_mixPlans
set_option maxRecDepth 20000 in
theorem ggX8_mixCounts_X8_mix : GoodIn wsX8_mixCounts wsX8_mix := goodIn_r _ [17, 18] (by decide +kernel) (by decide +kernel)
set_option maxRecDepth 20000 in
theorem gX8_mixCounts_X8_mix : GoodIn wsX8_mixCounts (va_wsS RX8 281 yX8_mix wsX8_mix) := goodIn_app (goodIn_of _ (by decide +kernel)) ggX8_mixCounts_X8_mix
