set_option maxRecDepth 20000 in
theorem ggX6_reserveForAll_X6_queueOpenOrders : GoodIn wsX6_reserveForAll wsX6_queueOpenOrders := goodIn_q _ [6, 14] [7, 8, 9, 1, 10, 11, 12, 13, 15, 16, 63, 64, 65, 66, 67, 68, 69, 70, 71, 72, 73, 74, 75, 76, 77, 78, 79, 80, 81, 82] rfl (by decide +kernel) (by decide +kernel)
set_option maxRecDepth 20000 in
theorem gX6_reserveForAll_X6_queueOpenOrders : GoodIn wsX6_reserveForAll (wsV RX6 180 RX6 yX6_queueOpenOrders wsX6_queueOpenOrders) := goodIn_app (goodIn_of _ (by decide +kernel)) ggX6_reserveForAll_X6_queueOpenOrders
set_option maxRecDepth 20000 in
theorem ggX6_reserveForAll_X6_reserveFor : GoodIn wsX6_reserveForAll wsX6_reserveFor := goodIn_q _ [20, 26, 33, 37, 44, 52, 59] [7, 21, 22, 23, 24, 25, 27, 28, 29, 30, 31, 32, 34, 35, 36, 13, 38, 39, 40, 41, 42, 43, 45, 46, 47, 48, 49, 50, 51, 53, 54, 55, 56, 57, 58, 5, 60, 61, 62, 63, 64, 65, 66, 67, 68, 69, 70, 71, 72, 73, 74, 75, 76, 77, 78, 79, 80, 81, 82, 83, 84, 85, 86, 87, 88] rfl (by decide +kernel) (by decide +kernel)
set_option maxRecDepth 20000 in
theorem gX6_reserveForAll_X6_reserveFor : GoodIn wsX6_reserveForAll (wsV RX6 184 RX6 yX6_reserveFor wsX6_reserveFor) := goodIn_app (goodIn_of _ (by decide +kernel)) ggX6_reserveForAll_X6_reserveFor
set_option maxRecDepth 20000 in
theorem ggX6_queueOpenOrders_X2_comesAhead : GoodIn wsX6_queueOpenOrders wsX2_comesAhead := goodIn_q _ [9] [10, 11, 21, 22, 23, 24, 25, 26, 27, 28, 29, 30, 31] rfl (by decide +kernel) (by decide +kernel)
set_option maxRecDepth 20000 in
theorem gX6_queueOpenOrders_X2_comesAhead : GoodIn wsX6_queueOpenOrders (wsV RX6 192 RX2 yX2_comesAhead wsX2_comesAhead) := goodIn_app (goodIn_of _ (by decide +kernel)) ggX6_queueOpenOrders_X2_comesAhead
set_option maxRecDepth 20000 in
theorem ggX6_liveDays_X6_wasteExpired : GoodIn wsX6_liveDays wsX6_wasteExpired := goodIn_q _ [6, 18, 23, 30, 37, 42] [7, 8, 9, 1, 10, 11, 12, 13, 14, 15, 16, 17, 19, 20, 21, 22, 5, 24, 25, 26, 27, 28, 29, 31, 32, 33, 34, 35, 36, 38, 39, 40, 41, 43, 239, 240, 241, 242, 243, 244, 245, 246, 247, 248, 249, 250, 251, 252, 253, 254, 255, 256, 257, 258, 259, 260, 261, 262, 263, 264, 265, 266, 267, 268, 269] rfl (by decide +kernel) (by decide +kernel)
set_option maxRecDepth 20000 in
theorem gX6_liveDays_X6_wasteExpired : GoodIn wsX6_liveDays (wsV RX6 242 RX6 yX6_wasteExpired wsX6_wasteExpired) := goodIn_app (goodIn_of _ (by decide +kernel)) ggX6_liveDays_X6_wasteExpired
set_option maxRecDepth 20000 in
theorem ggX6_liveDays_X6_takeArrivals : GoodIn wsX6_liveDays wsX6_takeArrivals := goodIn_q _ [47, 55, 63, 67, 74, 80, 87, 30, 37, 42] [48, 49, 50, 51, 1, 52, 53, 54, 5, 56, 57, 58, 59, 60, 61, 62, 7, 8, 64, 65, 66, 68, 69, 70, 71, 72, 73, 75, 76, 77, 78, 79, 81, 82, 83, 84, 85, 86, 88, 89, 90, 27, 28, 29, 31, 32, 33, 34, 35, 36, 38, 39, 40, 41, 43, 239, 240, 241, 242, 243, 244, 245, 246, 247, 270, 271, 272, 273, 274, 275, 276, 248, 249, 250, 251, 252, 253, 277, 278, 279, 265, 266, 267, 268, 269] rfl (by decide +kernel) (by decide +kernel)
set_option maxRecDepth 20000 in
theorem gX6_liveDays_X6_takeArrivals : GoodIn wsX6_liveDays (wsV RX6 245 RX6 yX6_takeArrivals wsX6_takeArrivals) := goodIn_app (goodIn_of _ (by decide +kernel)) ggX6_liveDays_X6_takeArrivals
set_option maxRecDepth 20000 in
theorem ggX6_liveDays_X6_reserveForAll : GoodIn wsX6_liveDays wsX6_reserveForAll := goodIn_q _ [94, 99, 104, 110, 114, 63, 121, 127, 131, 23] [95, 96, 97, 98, 5, 11, 12, 100, 101, 102, 103, 17, 105, 106, 107, 108, 109, 111, 1, 112, 113, 62, 115, 7, 116, 117, 60, 61, 118, 119, 120, 122, 123, 124, 125, 126, 79, 81, 88, 82, 90, 128, 129, 130, 83, 89, 132, 20, 21, 22, 24, 25, 26, 239, 240, 241, 242, 243, 244, 245, 246, 247, 254, 255, 256, 257, 258, 259, 260, 261, 262, 263, 264, 248, 249, 250, 251, 252, 253] rfl (by decide +kernel) (by decide +kernel)
set_option maxRecDepth 20000 in
theorem gX6_liveDays_X6_reserveForAll : GoodIn wsX6_liveDays (wsV RX6 248 RX6 yX6_reserveForAll wsX6_reserveForAll) := goodIn_app (goodIn_of _ (by decide +kernel)) ggX6_liveDays_X6_reserveForAll
set_option maxRecDepth 20000 in
theorem ggX6_liveDays_X6_serveDueOrders : GoodIn wsX6_liveDays wsX6_serveDueOrders := goodIn_q _ [136, 121, 140, 18, 23, 37, 42] [11, 12, 100, 111, 1, 31, 118, 119, 120, 17, 122, 123, 137, 138, 139, 5, 7, 8, 10, 141, 116, 142, 32, 143, 14, 15, 16, 19, 20, 21, 22, 24, 25, 26, 33, 34, 35, 36, 38, 39, 40, 41, 43, 144, 239, 240, 241, 242, 243, 244, 245, 246, 247, 254, 255, 256, 257, 258, 259, 260, 261, 262, 263, 264, 248, 249, 250, 251, 252, 253, 265, 266, 267, 268, 269] rfl (by decide +kernel) (by decide +kernel)
set_option maxRecDepth 20000 in
theorem gX6_liveDays_X6_serveDueOrders : GoodIn wsX6_liveDays (wsV RX6 251 RX6 yX6_serveDueOrders wsX6_serveDueOrders) := goodIn_app (goodIn_of _ (by decide +kernel)) ggX6_liveDays_X6_serveDueOrders
set_option maxRecDepth 20000 in
theorem ggX6_liveDays_X6_reviewAll : GoodIn wsX6_liveDays wsX6_reviewAll := goodIn_q _ [148, 154, 164, 168, 172, 176, 181, 186, 195, 201, 207, 42, 212, 217, 221, 37, 228, 63, 232, 74, 127, 131] [32, 149, 68, 150, 151, 152, 153, 5, 155, 156, 157, 158, 159, 160, 161, 162, 163, 165, 166, 167, 169, 170, 171, 7, 48, 11, 173, 174, 175, 79, 177, 178, 179, 180, 81, 88, 82, 90, 83, 182, 183, 184, 185, 187, 188, 189, 190, 191, 192, 193, 194, 17, 196, 197, 122, 198, 199, 200, 202, 203, 204, 205, 206, 36, 208, 39, 40, 41, 43, 209, 210, 211, 1, 213, 31, 214, 215, 216, 144, 218, 219, 220, 222, 223, 224, 33, 34, 35, 38, 225, 226, 227, 60, 61, 62, 9, 10, 229, 230, 231, 73, 233, 234, 71, 72, 75, 124, 125, 126, 128, 129, 130, 89, 132, 239, 240, 241, 242, 243, 244, 245, 246, 247, 265, 266, 267, 268, 269, 277, 278, 279, 280, 281, 282, 283, 284, 248, 249, 250, 251, 252, 253, 270, 271, 272, 273, 274, 275, 276, 254, 255, 256, 257, 258, 259, 260, 261, 262, 263, 264] rfl (by decide +kernel) (by decide +kernel)
set_option maxRecDepth 20000 in
theorem gX6_liveDays_X6_reviewAll : GoodIn wsX6_liveDays (wsV RX6 254 RX6 yX6_reviewAll wsX6_reviewAll) := goodIn_app (goodIn_of _ (by decide +kernel)) ggX6_liveDays_X6_reviewAll
set_option maxRecDepth 20000 in
theorem ggX6_liveDays_X6_countHolding : GoodIn wsX6_liveDays wsX6_countHolding := goodIn_q _ [238, 37, 42] [7, 8, 31, 10, 32, 13, 33, 34, 35, 36, 38, 39, 40, 41, 43, 239, 240, 241, 242, 243, 244, 245, 246, 247, 248, 249, 250, 251, 252, 253, 265, 266, 267, 268, 269] rfl (by decide +kernel) (by decide +kernel)
set_option maxRecDepth 20000 in
theorem gX6_liveDays_X6_countHolding : GoodIn wsX6_liveDays (wsV RX6 257 RX6 yX6_countHolding wsX6_countHolding) := goodIn_app (goodIn_of _ (by decide +kernel)) ggX6_liveDays_X6_countHolding
