set_option maxRecDepth 20000 in
theorem ggX8_planned_X8_needItem : GoodIn wsX8_planned wsX8_needItem := goodIn_ca (goodIn_q _ [8, 14, 18] [2, 9, 10, 11, 12, 13, 15, 16, 17, 7, 19, 20, 156, 157, 158, 166, 167, 168, 169, 170, 171, 172, 173, 174, 175, 176, 177, 178, 179] rfl (by decide +kernel) (by decide +kernel)) (goodIn_sub (fun _ h => List.mem_cons_of_mem _ (List.mem_append_right _ h)) (by decide +kernel))
set_option maxRecDepth 20000 in
theorem gX8_planned_X8_needItem : GoodIn wsX8_planned (wsV RX8 86 RX8 yX8_needItem wsX8_needItem) := goodIn_app (goodIn_of _ (by decide +kernel)) ggX8_planned_X8_needItem
set_option maxRecDepth 20000 in
theorem ggX8_planned_X8_needSite : GoodIn wsX8_planned wsX8_needSite := goodIn_ca (goodIn_q _ [24, 30, 18] [2, 25, 26, 27, 28, 29, 31, 16, 17, 7, 19, 20, 156, 157, 158, 166, 167, 168, 169, 170, 171, 172, 173, 174, 180, 181, 182] rfl (by decide +kernel) (by decide +kernel)) (goodIn_sub (fun _ h => List.mem_cons_of_mem _ (List.mem_append_right _ h)) (by decide +kernel))
set_option maxRecDepth 20000 in
theorem gX8_planned_X8_needSite : GoodIn wsX8_planned (wsV RX8 58 RX8 yX8_needSite wsX8_needSite) := goodIn_app (goodIn_of _ (by decide +kernel)) ggX8_planned_X8_needSite
set_option maxRecDepth 20000 in
theorem ggX8_planned_X3_make : GoodIn wsX8_planned wsX3_make := goodIn_q _ [36, 50, 57, 60, 65, 68, 72, 79, 84, 94, 104, 111, 117, 121, 125, 130, 134, 138, 145, 149, 153] [37, 38, 39, 40, 41, 42, 43, 44, 45, 46, 47, 48, 49, 51, 52, 53, 54, 55, 56, 58, 59, 61, 62, 63, 64, 66, 67, 7, 69, 70, 71, 73, 74, 75, 76, 77, 78, 80, 81, 82, 83, 85, 86, 87, 88, 89, 90, 91, 92, 93, 95, 96, 97, 98, 99, 100, 101, 102, 103, 105, 106, 107, 108, 109, 110, 112, 113, 114, 115, 116, 118, 119, 120, 122, 123, 124, 126, 127, 128, 129, 131, 132, 133, 35, 135, 136, 137, 139, 140, 141, 142, 143, 144, 146, 147, 148, 150, 151, 152, 154, 166, 167, 168, 169, 170, 171, 172, 173, 174, 180, 181, 182, 159, 160, 161, 162, 163, 164, 165, 183, 184, 185, 186, 187, 188, 189, 190, 191, 192, 193, 194, 195, 196, 197, 198, 199, 200, 201, 202, 203, 204, 205, 206, 207, 208, 209, 210, 211] rfl (by decide +kernel) (by decide +kernel)
set_option maxRecDepth 20000 in
theorem gX8_planned_X3_make : GoodIn wsX8_planned (wsV RX8 178 RX3 yX3_make wsX3_make) := goodIn_app (goodIn_of _ (by decide +kernel)) ggX8_planned_X3_make
set_option maxRecDepth 20000 in
theorem ggX8_planned_X8_pair : GoodIn wsX8_planned wsX8_pair := goodIn_q _ [68] [] rfl (by decide +kernel) (by decide +kernel)
set_option maxRecDepth 20000 in
theorem gX8_planned_X8_pair : GoodIn wsX8_planned (va_wsS RX8 73 yX8_pair wsX8_pair) := goodIn_app (goodIn_of _ (by decide +kernel)) ggX8_planned_X8_pair
set_option maxRecDepth 20000 in
theorem ggX8_digest_X8_mixCounts : GoodIn wsX8_digest wsX8_mixCounts := goodIn_q _ [9, 22] [2, 10, 11, 12, 3, 4, 13, 14, 15, 16, 17, 18, 19, 20, 21, 8, 23, 242, 243, 244, 245, 246, 247, 248, 249, 250, 251, 252, 253, 257, 258, 259, 260, 261, 254, 255, 256, 262, 263, 264, 265, 266, 267, 268, 269, 270, 271, 272, 273, 274, 275, 276, 277, 278, 279, 280, 281, 282, 283, 284, 285] rfl (by decide +kernel) (by decide +kernel)
set_option maxRecDepth 20000 in
theorem gX8_digest_X8_mixCounts : GoodIn wsX8_digest (wsV RX8 259 RX8 yX8_mixCounts wsX8_mixCounts) := goodIn_app (goodIn_of _ (by decide +kernel)) ggX8_digest_X8_mixCounts
set_option maxRecDepth 20000 in
theorem ggX8_digest_X8_mixLots : GoodIn wsX8_digest wsX8_mixLots := goodIn_q _ [27, 32, 22] [2, 13, 14, 28, 29, 30, 31, 33, 34, 35, 36, 37, 20, 21, 8, 23, 242, 243, 244, 245, 246, 247, 248, 249, 250, 251, 252, 253, 262, 263, 264, 265, 266, 267] rfl (by decide +kernel) (by decide +kernel)
set_option maxRecDepth 20000 in
theorem gX8_digest_X8_mixLots : GoodIn wsX8_digest (wsV RX8 263 RX8 yX8_mixLots wsX8_mixLots) := goodIn_app (goodIn_of _ (by decide +kernel)) ggX8_digest_X8_mixLots
set_option maxRecDepth 20000 in
theorem ggX8_digest_X8_mixOrders : GoodIn wsX8_digest wsX8_mixOrders := goodIn_q _ [41, 46, 22, 55] [2, 15, 16, 13, 14, 42, 43, 44, 45, 47, 48, 49, 50, 51, 20, 21, 8, 23, 52, 53, 54, 56, 242, 243, 244, 245, 246, 247, 248, 249, 250, 251, 252, 253, 268, 269, 270, 271, 272, 273, 274, 275, 276, 277, 278, 262, 263, 264, 265, 266, 267] rfl (by decide +kernel) (by decide +kernel)
set_option maxRecDepth 20000 in
theorem gX8_digest_X8_mixOrders : GoodIn wsX8_digest (wsV RX8 266 RX8 yX8_mixOrders wsX8_mixOrders) := goodIn_app (goodIn_of _ (by decide +kernel)) ggX8_digest_X8_mixOrders
set_option maxRecDepth 20000 in
theorem ggX8_digest_X8_mixTransports : GoodIn wsX8_digest wsX8_mixTransports := goodIn_q _ [60, 65, 22] [2, 17, 18, 61, 62, 63, 64, 66, 67, 68, 69, 70, 71, 20, 21, 8, 23, 242, 243, 244, 245, 246, 247, 248, 249, 250, 251, 252, 253, 279, 280, 281, 282, 283, 284, 285] rfl (by decide +kernel) (by decide +kernel)
set_option maxRecDepth 20000 in
theorem gX8_digest_X8_mixTransports : GoodIn wsX8_digest (wsV RX8 269 RX8 yX8_mixTransports wsX8_mixTransports) := goodIn_app (goodIn_of _ (by decide +kernel)) ggX8_digest_X8_mixTransports
set_option maxRecDepth 20000 in
theorem ggX8_digest_X8_mixRoutes : GoodIn wsX8_digest wsX8_mixRoutes := goodIn_q _ [75, 80, 85, 88, 22] [2, 3, 4, 76, 77, 78, 79, 81, 82, 83, 84, 86, 87, 8, 20, 21, 23, 242, 243, 244, 245, 246, 247, 248, 249, 250, 251, 252, 253, 254, 255, 256] rfl (by decide +kernel) (by decide +kernel)
set_option maxRecDepth 20000 in
theorem gX8_digest_X8_mixRoutes : GoodIn wsX8_digest (wsV RX8 272 RX8 yX8_mixRoutes wsX8_mixRoutes) := goodIn_app (goodIn_of _ (by decide +kernel)) ggX8_digest_X8_mixRoutes
set_option maxRecDepth 20000 in
theorem ggX8_digest_X8_mixStocks : GoodIn wsX8_digest wsX8_mixStocks := goodIn_q _ [92, 98, 88, 22, 103, 108, 113, 117, 121, 125, 131, 140, 145, 151, 157, 163, 167, 172, 177] [2, 11, 12, 3, 4, 93, 13, 17, 94, 95, 96, 97, 99, 87, 8, 20, 21, 23, 100, 101, 102, 31, 104, 105, 106, 107, 109, 33, 34, 37, 35, 110, 111, 112, 114, 115, 116, 118, 119, 120, 36, 122, 123, 124, 64, 126, 71, 66, 67, 68, 127, 128, 129, 130, 132, 133, 134, 135, 136, 137, 138, 139, 45, 141, 47, 48, 142, 143, 144, 146, 147, 148, 149, 150, 152, 153, 154, 155, 156, 158, 159, 160, 161, 162, 164, 165, 166, 168, 169, 170, 171, 173, 174, 175, 176, 50, 242, 243, 244, 245, 246, 247, 248, 249, 250, 251, 252, 253, 257, 258, 259, 260, 261, 254, 255, 256, 286, 287, 288, 289, 290, 262, 263, 264, 265, 266, 267, 279, 280, 281, 282, 283, 284, 285, 268, 269, 270, 271, 272, 273, 274, 275, 276, 277, 278] rfl (by decide +kernel) (by decide +kernel)
set_option maxRecDepth 20000 in
theorem gX8_digest_X8_mixStocks : GoodIn wsX8_digest (wsV RX8 275 RX8 yX8_mixStocks wsX8_mixStocks) := goodIn_app (goodIn_of _ (by decide +kernel)) ggX8_digest_X8_mixStocks
set_option maxRecDepth 20000 in
theorem ggX8_digest_X8_mixPlans : GoodIn wsX8_digest wsX8_mixPlans := goodIn_q _ [181, 188, 22, 195, 163, 167, 157, 98, 88, 131, 103, 108, 125, 140, 145, 113, 117, 121, 151, 209, 213, 220, 224, 228] [2, 11, 12, 182, 3, 4, 183, 184, 185, 186, 187, 189, 190, 20, 21, 8, 23, 191, 192, 193, 194, 196, 197, 198, 199, 200, 201, 202, 203, 204, 205, 161, 162, 130, 152, 164, 132, 165, 166, 156, 154, 155, 158, 95, 96, 97, 99, 87, 159, 128, 129, 133, 134, 135, 101, 102, 31, 104, 105, 106, 107, 109, 33, 34, 37, 35, 136, 123, 124, 64, 126, 71, 66, 67, 68, 137, 138, 139, 45, 141, 47, 48, 142, 143, 144, 146, 147, 168, 111, 112, 114, 115, 116, 118, 119, 120, 36, 206, 149, 150, 153, 207, 208, 210, 211, 212, 214, 215, 216, 217, 218, 219, 221, 222, 223, 225, 226, 227, 229, 230, 242, 243, 244, 245, 246, 247, 248, 249, 250, 251, 252, 253, 257, 258, 259, 260, 261, 254, 255, 256, 291, 292, 293, 294, 295, 296, 297, 286, 287, 288, 289, 290, 262, 263, 264, 265, 266, 267, 279, 280, 281, 282, 283, 284, 285, 268, 269, 270, 271, 272, 273, 274, 275, 276, 277, 278] rfl (by decide +kernel) (by decide +kernel)
set_option maxRecDepth 20000 in
theorem gX8_digest_X8_mixPlans : GoodIn wsX8_digest (wsV RX8 278 RX8 yX8_mixPlans wsX8_mixPlans) := goodIn_app (goodIn_of _ (by decide +kernel)) ggX8_digest_X8_mixPlans
set_option maxRecDepth 20000 in
theorem ggX8_digest_X6_roomAt : GoodIn wsX8_digest wsX6_roomAt := goodIn_q _ [234, 85, 241] [235, 236, 132, 237, 83, 84, 79, 86, 238, 239, 240, 31, 109, 34, 35, 245, 246, 247, 248, 249, 250, 251, 252, 253, 254, 255, 256, 262, 263, 264, 265, 266, 267] rfl (by decide +kernel) (by decide +kernel)
set_option maxRecDepth 20000 in
theorem gX8_digest_X6_roomAt : GoodIn wsX8_digest (wsV RX8 116 RX6 yX6_roomAt wsX6_roomAt) := goodIn_app (goodIn_of _ (by decide +kernel)) ggX8_digest_X6_roomAt
set_option maxRecDepth 20000 in
theorem ggX8_digest_X8_mix : GoodIn wsX8_digest wsX8_mix := goodIn_q _ [22] [23] rfl (by decide +kernel) (by decide +kernel)
set_option maxRecDepth 20000 in
theorem gX8_digest_X8_mix : GoodIn wsX8_digest (va_wsS RX8 281 yX8_mix wsX8_mix) := goodIn_app (goodIn_of _ (by decide +kernel)) ggX8_digest_X8_mix
