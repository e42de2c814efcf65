set_option maxRecDepth 20000 in
theorem ggX8_order_X8_needState : GoodIn wsX8_order wsX8_needState := goodIn_ca (goodIn_q _ [43] [44, 45] rfl (by decide +kernel) (by decide +kernel)) (goodIn_sub (fun _ h => List.mem_cons_of_mem _ (List.mem_append_right _ h)) (by decide +kernel))
set_option maxRecDepth 20000 in
theorem gX8_order_X8_needState : GoodIn wsX8_order (va_wsS RX8 40 yX8_needState wsX8_needState) := goodIn_app (goodIn_of _ (by decide +kernel)) ggX8_order_X8_needState
set_option maxRecDepth 20000 in
theorem ggX8_order_X2_add : GoodIn wsX8_order wsX2_add := goodIn_q _ [50] [51, 52, 53, 54, 55, 56, 57, 58, 59, 60, 119, 120, 121, 122, 123, 124, 125, 126, 127, 128, 129] rfl (by decide +kernel) (by decide +kernel)
set_option maxRecDepth 20000 in
theorem gX8_order_X2_add : GoodIn wsX8_order (wsV RX8 138 RX2 yX2_add wsX2_add) := goodIn_app (goodIn_of _ (by decide +kernel)) ggX8_order_X2_add
set_option maxRecDepth 20000 in
theorem ggX8_order_X6_reserveFor : GoodIn wsX8_order wsX6_reserveFor := goodIn_q _ [65, 72, 79, 83, 88, 96, 103] [66, 67, 68, 69, 70, 71, 73, 74, 75, 76, 77, 78, 80, 81, 82, 49, 54, 55, 84, 85, 86, 87, 89, 90, 91, 92, 93, 94, 95, 97, 98, 99, 100, 101, 102, 64, 104, 105, 106, 110, 111, 112, 113, 114, 115, 116, 117, 118, 119, 120, 121, 122, 123, 124, 125, 126, 127, 128, 129, 138, 139, 140, 141, 142, 143] rfl (by decide +kernel) (by decide +kernel)
set_option maxRecDepth 20000 in
theorem gX8_order_X6_reserveFor : GoodIn wsX8_order (wsV RX8 141 RX6 yX6_reserveFor wsX6_reserveFor) := goodIn_app (goodIn_of _ (by decide +kernel)) ggX8_order_X6_reserveFor
set_option maxRecDepth 20000 in
theorem ggX8_reserveAnew_X6_release : GoodIn wsX8_reserveAnew wsX6_release := goodIn_q _ [8, 16, 21] [9, 10, 11, 12, 13, 14, 15, 17, 18, 19, 20, 7, 22, 23, 24, 88, 89, 90, 91, 92, 93, 94, 95, 96, 108, 109, 110, 111, 112, 113, 97, 98, 99, 100, 101, 102, 103, 104, 105, 106, 107] rfl (by decide +kernel) (by decide +kernel)
set_option maxRecDepth 20000 in
theorem gX8_reserveAnew_X6_release : GoodIn wsX8_reserveAnew (wsV RX8 153 RX6 yX6_release wsX6_release) := goodIn_app (goodIn_of _ (by decide +kernel)) ggX8_reserveAnew_X6_release
set_option maxRecDepth 20000 in
theorem ggX8_reserveAnew_X6_reserveForAll : GoodIn wsX8_reserveAnew wsX6_reserveForAll := goodIn_q _ [28, 33, 39, 45, 51, 57, 61, 68, 76, 21] [29, 30, 31, 32, 7, 11, 34, 35, 36, 37, 38, 15, 40, 41, 42, 43, 44, 46, 47, 48, 49, 50, 52, 9, 53, 54, 55, 56, 58, 59, 60, 62, 63, 64, 65, 66, 67, 69, 70, 71, 72, 73, 74, 75, 77, 78, 79, 18, 19, 20, 22, 23, 24, 88, 89, 90, 91, 92, 93, 94, 95, 96, 97, 98, 99, 100, 101, 102, 103, 104, 105, 106, 107, 108, 109, 110, 111, 112, 113] rfl (by decide +kernel) (by decide +kernel)
set_option maxRecDepth 20000 in
theorem gX8_reserveAnew_X6_reserveForAll : GoodIn wsX8_reserveAnew (wsV RX8 156 RX6 yX6_reserveForAll wsX6_reserveForAll) := goodIn_app (goodIn_of _ (by decide +kernel)) ggX8_reserveAnew_X6_reserveForAll
set_option maxRecDepth 20000 in
theorem ggX8_reserveAnew_X2_allReserved : GoodIn wsX8_reserveAnew wsX2_allReserved := goodIn_q _ [83] [84, 63, 97, 98, 99, 100, 101, 102, 103, 104, 105, 106, 107] rfl (by decide +kernel) (by decide +kernel)
set_option maxRecDepth 20000 in
theorem gX8_reserveAnew_X2_allReserved : GoodIn wsX8_reserveAnew (wsV RX8 159 RX2 yX2_allReserved wsX2_allReserved) := goodIn_app (goodIn_of _ (by decide +kernel)) ggX8_reserveAnew_X2_allReserved
set_option maxRecDepth 20000 in
theorem ggX8_pass_X8_needWithin : GoodIn wsX8_pass wsX8_needWithin := goodIn_ca (goodIn_q _ [6, 9] [7, 8, 5, 10, 11] rfl (by decide +kernel) (by decide +kernel)) (goodIn_sub (fun _ h => List.mem_cons_of_mem _ (List.mem_append_right _ h)) (by decide +kernel))
set_option maxRecDepth 20000 in
theorem gX8_pass_X8_needWithin : GoodIn wsX8_pass (va_wsS RX8 26 yX8_needWithin wsX8_needWithin) := goodIn_app (goodIn_of _ (by decide +kernel)) ggX8_pass_X8_needWithin
set_option maxRecDepth 20000 in
theorem ggX8_pass_X6_liveDays : GoodIn wsX8_pass wsX6_liveDays := goodIn_q _ [16, 21, 33, 38, 45, 52, 57, 62, 70, 78, 82, 89, 95, 102, 109, 114, 119, 125, 129, 136, 142, 146, 151, 155, 163, 169, 179, 182, 186, 190, 195, 200, 209, 215, 221, 226, 231, 235, 242, 246, 252] [17, 18, 19, 20, 15, 22, 23, 24, 25, 26, 27, 28, 29, 30, 31, 32, 34, 35, 36, 37, 39, 40, 41, 42, 43, 44, 46, 47, 48, 49, 50, 51, 53, 54, 55, 56, 58, 59, 60, 61, 63, 64, 65, 66, 67, 68, 69, 71, 72, 73, 74, 75, 76, 77, 79, 80, 81, 83, 84, 85, 86, 87, 88, 90, 91, 92, 93, 94, 96, 97, 98, 99, 100, 101, 103, 104, 105, 106, 107, 108, 110, 111, 112, 113, 115, 116, 117, 118, 120, 121, 122, 123, 124, 126, 127, 128, 130, 131, 132, 133, 134, 135, 137, 138, 139, 140, 141, 143, 144, 145, 147, 148, 149, 150, 152, 153, 154, 156, 157, 158, 159, 160, 161, 162, 164, 165, 166, 167, 168, 170, 171, 172, 173, 174, 175, 176, 177, 178, 180, 181, 5, 183, 184, 185, 187, 188, 189, 191, 192, 193, 194, 196, 197, 198, 199, 201, 202, 203, 204, 205, 206, 207, 208, 210, 211, 212, 213, 214, 216, 217, 218, 219, 220, 222, 223, 224, 225, 227, 228, 229, 230, 232, 233, 234, 236, 237, 238, 239, 240, 241, 243, 244, 245, 247, 248, 249, 250, 251, 256, 257, 258, 259, 260, 261, 262, 263, 264, 265, 266, 267, 268, 269, 270, 271, 272, 273, 274, 275, 276, 277, 278, 279, 280, 281, 282, 283, 284, 285, 286, 287, 288, 289, 290, 291, 292, 293, 294, 295, 296, 297, 298, 299, 300, 301] rfl (by decide +kernel) (by decide +kernel)
set_option maxRecDepth 20000 in
theorem gX8_pass_X6_liveDays : GoodIn wsX8_pass (wsV RX8 172 RX6 yX6_liveDays wsX6_liveDays) := goodIn_app (goodIn_of _ (by decide +kernel)) ggX8_pass_X6_liveDays
set_option maxRecDepth 20000 in
theorem ggX8_send_X8_needItem : GoodIn wsX8_send wsX8_needItem := goodIn_ca (goodIn_q _ [7, 13, 17] [1, 8, 9, 10, 11, 12, 14, 15, 16, 6, 18, 19, 95, 96, 97, 98, 99, 100, 101, 102, 103, 104, 105, 106, 107, 108, 109, 110, 111] rfl (by decide +kernel) (by decide +kernel)) (goodIn_sub (fun _ h => List.mem_cons_of_mem _ (List.mem_append_left _ (List.mem_append_right _ h))) (by decide +kernel))
set_option maxRecDepth 20000 in
theorem gX8_send_X8_needItem : GoodIn wsX8_send (wsV RX8 86 RX8 yX8_needItem wsX8_needItem) := goodIn_app (goodIn_of _ (by decide +kernel)) ggX8_send_X8_needItem
set_option maxRecDepth 20000 in
theorem ggX8_send_X8_needSite : GoodIn wsX8_send wsX8_needSite := goodIn_ca (goodIn_q _ [23, 28, 17] [1, 2, 24, 25, 26, 27, 29, 15, 16, 6, 18, 19, 95, 96, 97, 98, 99, 100, 101, 102, 103, 104, 105, 106, 112, 113, 114] rfl (by decide +kernel) (by decide +kernel)) (goodIn_sub (fun _ h => List.mem_cons_of_mem _ (List.mem_append_left _ (List.mem_append_right _ h))) (by decide +kernel))
set_option maxRecDepth 20000 in
theorem gX8_send_X8_needSite : GoodIn wsX8_send (wsV RX8 58 RX8 yX8_needSite wsX8_needSite) := goodIn_app (goodIn_of _ (by decide +kernel)) ggX8_send_X8_needSite
set_option maxRecDepth 20000 in
theorem ggX8_send_X5_daysBetween : GoodIn wsX8_send wsX5_daysBetween := goodIn_q _ [33, 28, 37] [34, 35, 25, 26, 27, 29, 36, 6, 112, 113, 114] rfl (by decide +kernel) (by decide +kernel)
set_option maxRecDepth 20000 in
theorem gX8_send_X5_daysBetween : GoodIn wsX8_send (wsV RX8 65 RX5 yX5_daysBetween wsX5_daysBetween) := goodIn_app (goodIn_of _ (by decide +kernel)) ggX8_send_X5_daysBetween
set_option maxRecDepth 20000 in
theorem ggX8_send_X8_needArgument : GoodIn wsX8_send wsX8_needArgument := goodIn_ca (goodIn_q _ [40] [41, 42] rfl (by decide +kernel) (by decide +kernel)) (goodIn_sub (fun _ h => List.mem_cons_of_mem _ (List.mem_append_right _ h)) (by decide +kernel))
set_option maxRecDepth 20000 in
theorem gX8_send_X8_needArgument : GoodIn wsX8_send (va_wsS RX8 62 yX8_needArgument wsX8_needArgument) := goodIn_app (goodIn_of _ (by decide +kernel)) ggX8_send_X8_needArgument
set_option maxRecDepth 20000 in
theorem ggX8_send_X8_needWithin : GoodIn wsX8_send wsX8_needWithin := goodIn_ca (goodIn_q _ [45, 40] [38, 39, 6, 41, 42] rfl (by decide +kernel) (by decide +kernel)) (goodIn_sub (fun _ h => List.mem_cons_of_mem _ (List.mem_append_right _ h)) (by decide +kernel))
set_option maxRecDepth 20000 in
theorem gX8_send_X8_needWithin : GoodIn wsX8_send (va_wsS RX8 26 yX8_needWithin wsX8_needWithin) := goodIn_app (goodIn_of _ (by decide +kernel)) ggX8_send_X8_needWithin
set_option maxRecDepth 20000 in
theorem ggX8_send_X6_sendUnits : GoodIn wsX8_send wsX6_sendUnits := goodIn_q _ [50, 58, 33, 28, 37, 66, 72, 80, 87] [51, 52, 53, 54, 55, 56, 57, 59, 60, 61, 31, 32, 27, 34, 35, 25, 26, 29, 36, 6, 62, 63, 64, 65, 67, 68, 69, 70, 71, 73, 74, 75, 76, 77, 78, 79, 81, 82, 83, 84, 85, 86, 88, 89, 90, 91, 92, 93, 94, 98, 99, 100, 101, 102, 103, 104, 105, 106, 115, 116, 117, 118, 119, 120, 112, 113, 114, 121, 122, 123, 124, 125, 126, 127] rfl (by decide +kernel) (by decide +kernel)
set_option maxRecDepth 20000 in
theorem gX8_send_X6_sendUnits : GoodIn wsX8_send (wsV RX8 175 RX6 yX6_sendUnits wsX6_sendUnits) := goodIn_app (goodIn_of _ (by decide +kernel)) ggX8_send_X6_sendUnits
