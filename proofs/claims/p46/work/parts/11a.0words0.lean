set_option maxRecDepth 20000 in
theorem ggX8_ofLot_X8_needLot : GoodIn wsX8_ofLot wsX8_needLot := goodIn_ca (goodIn_q _ [7, 12, 16] [1, 2, 8, 9, 10, 11, 13, 14, 15, 6, 17, 18, 36, 37, 38, 39, 40, 41, 42, 43, 44, 45, 46, 47, 48, 49, 50, 51, 52, 53] rfl (by decide +kernel) (by decide +kernel)) (goodIn_sub (fun _ h => List.mem_cons_of_mem _ (List.mem_append_left _ (List.mem_append_right _ h))) (by decide +kernel))
set_option maxRecDepth 20000 in
theorem gX8_ofLot_X8_needLot : GoodIn wsX8_ofLot (wsV RX8 190 RX8 yX8_needLot wsX8_needLot) := goodIn_app (goodIn_of _ (by decide +kernel)) ggX8_ofLot_X8_needLot
set_option maxRecDepth 20000 in
theorem ggX8_ofLot_X8_needWithin : GoodIn wsX8_ofLot wsX8_needWithin := goodIn_ca (goodIn_q _ [21, 24] [22, 23, 6, 25, 26] rfl (by decide +kernel) (by decide +kernel)) (goodIn_sub (fun _ h => List.mem_cons_of_mem _ (List.mem_append_right _ h)) (by decide +kernel))
set_option maxRecDepth 20000 in
theorem gX8_ofLot_X8_needWithin : GoodIn wsX8_ofLot (va_wsS RX8 26 yX8_needWithin wsX8_needWithin) := goodIn_app (goodIn_of _ (by decide +kernel)) ggX8_ofLot_X8_needWithin
set_option maxRecDepth 20000 in
theorem ggX8_ofLot_X1_tell : GoodIn wsX8_ofLot wsX1_tell := goodIn_q _ [30] [31, 32, 33, 34, 35, 48, 49, 50, 51, 52, 53] rfl (by decide +kernel) (by decide +kernel)
set_option maxRecDepth 20000 in
theorem gX8_ofLot_X1_tell : GoodIn wsX8_ofLot (wsV RX8 193 RX1 yX1_tell wsX1_tell) := goodIn_app (goodIn_of _ (by decide +kernel)) ggX8_ofLot_X1_tell
set_option maxRecDepth 20000 in
theorem ggX8_ofOrder_X8_needOrder : GoodIn wsX8_ofOrder wsX8_needOrder := goodIn_ca (goodIn_q _ [7, 12, 16] [1, 2, 8, 9, 10, 11, 13, 14, 15, 6, 17, 18, 36, 37, 38, 39, 40, 41, 42, 43, 44, 45, 46, 47, 48, 49, 50, 51, 52, 53, 54, 55, 56, 57, 58] rfl (by decide +kernel) (by decide +kernel)) (goodIn_sub (fun _ h => List.mem_cons_of_mem _ (List.mem_append_left _ (List.mem_append_right _ h))) (by decide +kernel))
set_option maxRecDepth 20000 in
theorem gX8_ofOrder_X8_needOrder : GoodIn wsX8_ofOrder (wsV RX8 144 RX8 yX8_needOrder wsX8_needOrder) := goodIn_app (goodIn_of _ (by decide +kernel)) ggX8_ofOrder_X8_needOrder
set_option maxRecDepth 20000 in
theorem ggX8_ofOrder_X8_needWithin : GoodIn wsX8_ofOrder wsX8_needWithin := goodIn_ca (goodIn_q _ [21, 24] [22, 23, 6, 25, 26] rfl (by decide +kernel) (by decide +kernel)) (goodIn_sub (fun _ h => List.mem_cons_of_mem _ (List.mem_append_right _ h)) (by decide +kernel))
set_option maxRecDepth 20000 in
theorem gX8_ofOrder_X8_needWithin : GoodIn wsX8_ofOrder (va_wsS RX8 26 yX8_needWithin wsX8_needWithin) := goodIn_app (goodIn_of _ (by decide +kernel)) ggX8_ofOrder_X8_needWithin
set_option maxRecDepth 20000 in
theorem ggX8_ofOrder_X2_tell : GoodIn wsX8_ofOrder wsX2_tell := goodIn_q _ [30] [31, 32, 33, 34, 35, 48, 49, 50, 51, 52, 53, 54, 55, 56, 57, 58] rfl (by decide +kernel) (by decide +kernel)
set_option maxRecDepth 20000 in
theorem gX8_ofOrder_X2_tell : GoodIn wsX8_ofOrder (wsV RX8 196 RX2 yX2_tell wsX2_tell) := goodIn_app (goodIn_of _ (by decide +kernel)) ggX8_ofOrder_X2_tell
set_option maxRecDepth 20000 in
theorem ggX8_route_X8_needSite : GoodIn wsX8_route wsX8_needSite := goodIn_ca (goodIn_q _ [7, 12, 16] [1, 2, 8, 9, 10, 11, 13, 14, 15, 6, 17, 18, 27, 28, 29, 30, 31, 32, 33, 34, 35, 36, 37, 38, 39, 40, 41] rfl (by decide +kernel) (by decide +kernel)) (goodIn_sub (fun _ h => List.mem_cons_of_mem _ (List.mem_append_right _ h)) (by decide +kernel))
set_option maxRecDepth 20000 in
theorem gX8_route_X8_needSite : GoodIn wsX8_route (wsV RX8 58 RX8 yX8_needSite wsX8_needSite) := goodIn_app (goodIn_of _ (by decide +kernel)) ggX8_route_X8_needSite
set_option maxRecDepth 20000 in
theorem ggX8_route_X5_daysBetween : GoodIn wsX8_route wsX5_daysBetween := goodIn_q _ [22, 12, 26] [23, 24, 9, 10, 11, 13, 25, 6, 39, 40, 41] rfl (by decide +kernel) (by decide +kernel)
set_option maxRecDepth 20000 in
theorem gX8_route_X5_daysBetween : GoodIn wsX8_route (wsV RX8 65 RX5 yX5_daysBetween wsX5_daysBetween) := goodIn_app (goodIn_of _ (by decide +kernel)) ggX8_route_X5_daysBetween
set_option maxRecDepth 20000 in
theorem ggX8_onHand_X8_needItem : GoodIn wsX8_onHand wsX8_needItem := goodIn_ca (goodIn_q _ [7, 13, 17] [1, 8, 9, 10, 11, 12, 14, 15, 16, 6, 18, 19, 46, 47, 48, 49, 50, 51, 52, 53, 54, 55, 56, 57, 58, 59, 60, 61, 62] rfl (by decide +kernel) (by decide +kernel)) (goodIn_sub (fun _ h => List.mem_cons_of_mem _ (List.mem_append_right _ h)) (by decide +kernel))
set_option maxRecDepth 20000 in
theorem gX8_onHand_X8_needItem : GoodIn wsX8_onHand (wsV RX8 86 RX8 yX8_needItem wsX8_needItem) := goodIn_app (goodIn_of _ (by decide +kernel)) ggX8_onHand_X8_needItem
set_option maxRecDepth 20000 in
theorem ggX8_onHand_X8_needSite : GoodIn wsX8_onHand wsX8_needSite := goodIn_ca (goodIn_q _ [23, 29, 17] [1, 24, 25, 26, 27, 28, 30, 15, 16, 6, 18, 19, 46, 47, 48, 49, 50, 51, 52, 53, 54, 55, 56, 57, 63, 64, 65] rfl (by decide +kernel) (by decide +kernel)) (goodIn_sub (fun _ h => List.mem_cons_of_mem _ (List.mem_append_right _ h)) (by decide +kernel))
set_option maxRecDepth 20000 in
theorem gX8_onHand_X8_needSite : GoodIn wsX8_onHand (wsV RX8 58 RX8 yX8_needSite wsX8_needSite) := goodIn_app (goodIn_of _ (by decide +kernel)) ggX8_onHand_X8_needSite
set_option maxRecDepth 20000 in
theorem ggX8_onHand_X1_unitsAt : GoodIn wsX8_onHand wsX1_unitsAt := goodIn_q _ [35, 40] [36, 37, 38, 39, 34, 41, 42, 43, 44, 45, 66, 67, 68, 69, 70, 71] rfl (by decide +kernel) (by decide +kernel)
set_option maxRecDepth 20000 in
theorem gX8_onHand_X1_unitsAt : GoodIn wsX8_onHand (wsV RX8 208 RX1 yX1_unitsAt wsX1_unitsAt) := goodIn_app (goodIn_of _ (by decide +kernel)) ggX8_onHand_X1_unitsAt
set_option maxRecDepth 20000 in
theorem ggX8_free_X8_needItem : GoodIn wsX8_free wsX8_needItem := goodIn_ca (goodIn_q _ [7, 13, 17] [1, 8, 9, 10, 11, 12, 14, 15, 16, 6, 18, 19, 50, 51, 52, 53, 54, 55, 56, 57, 58, 59, 60, 61, 62, 63, 64, 65, 66] rfl (by decide +kernel) (by decide +kernel)) (goodIn_sub (fun _ h => List.mem_cons_of_mem _ (List.mem_append_right _ h)) (by decide +kernel))
set_option maxRecDepth 20000 in
theorem gX8_free_X8_needItem : GoodIn wsX8_free (wsV RX8 86 RX8 yX8_needItem wsX8_needItem) := goodIn_app (goodIn_of _ (by decide +kernel)) ggX8_free_X8_needItem
set_option maxRecDepth 20000 in
theorem ggX8_free_X8_needSite : GoodIn wsX8_free wsX8_needSite := goodIn_ca (goodIn_q _ [23, 29, 17] [1, 24, 25, 26, 27, 28, 30, 15, 16, 6, 18, 19, 50, 51, 52, 53, 54, 55, 56, 57, 58, 59, 60, 61, 67, 68, 69] rfl (by decide +kernel) (by decide +kernel)) (goodIn_sub (fun _ h => List.mem_cons_of_mem _ (List.mem_append_right _ h)) (by decide +kernel))
set_option maxRecDepth 20000 in
theorem gX8_free_X8_needSite : GoodIn wsX8_free (wsV RX8 58 RX8 yX8_needSite wsX8_needSite) := goodIn_app (goodIn_of _ (by decide +kernel)) ggX8_free_X8_needSite
set_option maxRecDepth 20000 in
theorem ggX8_free_X1_freeAt : GoodIn wsX8_free wsX1_freeAt := goodIn_q _ [35, 39, 47] [36, 37, 38, 34, 40, 41, 42, 43, 44, 45, 46, 48, 49, 70, 71, 72, 73, 74, 75] rfl (by decide +kernel) (by decide +kernel)
set_option maxRecDepth 20000 in
theorem gX8_free_X1_freeAt : GoodIn wsX8_free (wsV RX8 211 RX1 yX1_freeAt wsX1_freeAt) := goodIn_app (goodIn_of _ (by decide +kernel)) ggX8_free_X1_freeAt
set_option maxRecDepth 20000 in
theorem ggX8_underWay_X8_needItem : GoodIn wsX8_underWay wsX8_needItem := goodIn_ca (goodIn_q _ [7, 13, 17] [1, 8, 9, 10, 11, 12, 14, 15, 16, 6, 18, 19, 41, 42, 43, 44, 45, 46, 47, 48, 49, 50, 51, 52, 53, 54, 55, 56, 57] rfl (by decide +kernel) (by decide +kernel)) (goodIn_sub (fun _ h => List.mem_cons_of_mem _ (List.mem_append_right _ h)) (by decide +kernel))
set_option maxRecDepth 20000 in
theorem gX8_underWay_X8_needItem : GoodIn wsX8_underWay (wsV RX8 86 RX8 yX8_needItem wsX8_needItem) := goodIn_app (goodIn_of _ (by decide +kernel)) ggX8_underWay_X8_needItem
set_option maxRecDepth 20000 in
theorem ggX8_underWay_X8_needSite : GoodIn wsX8_underWay wsX8_needSite := goodIn_ca (goodIn_q _ [23, 29, 17] [1, 24, 25, 26, 27, 28, 30, 15, 16, 6, 18, 19, 41, 42, 43, 44, 45, 46, 47, 48, 49, 50, 51, 52, 58, 59, 60] rfl (by decide +kernel) (by decide +kernel)) (goodIn_sub (fun _ h => List.mem_cons_of_mem _ (List.mem_append_right _ h)) (by decide +kernel))
set_option maxRecDepth 20000 in
theorem gX8_underWay_X8_needSite : GoodIn wsX8_underWay (wsV RX8 58 RX8 yX8_needSite wsX8_needSite) := goodIn_app (goodIn_of _ (by decide +kernel)) ggX8_underWay_X8_needSite
set_option maxRecDepth 20000 in
theorem ggX8_underWay_X7_unitsTo : GoodIn wsX8_underWay wsX7_unitsTo := goodIn_q _ [35] [36, 37, 38, 39, 40, 61, 62, 63, 64, 65, 66, 67] rfl (by decide +kernel) (by decide +kernel)
set_option maxRecDepth 20000 in
theorem gX8_underWay_X7_unitsTo : GoodIn wsX8_underWay (wsV RX8 214 RX7 yX7_unitsTo wsX7_unitsTo) := goodIn_app (goodIn_of _ (by decide +kernel)) ggX8_underWay_X7_unitsTo
set_option maxRecDepth 20000 in
theorem ggX8_roomLeft_X8_needSite : GoodIn wsX8_roomLeft wsX8_needSite := goodIn_ca (goodIn_q _ [6, 12, 16] [1, 7, 8, 9, 10, 11, 13, 14, 15, 5, 17, 18, 36, 37, 38, 39, 40, 41, 42, 43, 44, 45, 46, 47, 48, 49, 50] rfl (by decide +kernel) (by decide +kernel)) (goodIn_sub (fun _ h => List.mem_cons_of_mem _ (List.mem_append_right _ h)) (by decide +kernel))
set_option maxRecDepth 20000 in
theorem gX8_roomLeft_X8_needSite : GoodIn wsX8_roomLeft (wsV RX8 58 RX8 yX8_needSite wsX8_needSite) := goodIn_app (goodIn_of _ (by decide +kernel)) ggX8_roomLeft_X8_needSite
set_option maxRecDepth 20000 in
theorem ggX8_roomLeft_X6_roomAt : GoodIn wsX8_roomLeft wsX6_roomAt := goodIn_q _ [23, 12, 32] [24, 25, 26, 27, 9, 10, 11, 13, 28, 29, 30, 31, 33, 34, 35, 39, 40, 41, 42, 43, 44, 45, 46, 47, 48, 49, 50, 51, 52, 53, 54, 55, 56] rfl (by decide +kernel) (by decide +kernel)
set_option maxRecDepth 20000 in
theorem gX8_roomLeft_X6_roomAt : GoodIn wsX8_roomLeft (wsV RX8 116 RX6 yX6_roomAt wsX6_roomAt) := goodIn_app (goodIn_of _ (by decide +kernel)) ggX8_roomLeft_X6_roomAt
set_option maxRecDepth 20000 in
theorem ggX8_account_X8_needWithin : GoodIn wsX8_account wsX8_needWithin := goodIn_ca (goodIn_q _ [6, 9] [7, 8, 5, 10, 11] rfl (by decide +kernel) (by decide +kernel)) (goodIn_sub (fun _ h => List.mem_cons_of_mem _ (List.mem_append_right _ h)) (by decide +kernel))
set_option maxRecDepth 20000 in
theorem gX8_account_X8_needWithin : GoodIn wsX8_account (va_wsS RX8 26 yX8_needWithin wsX8_needWithin) := goodIn_app (goodIn_of _ (by decide +kernel)) ggX8_account_X8_needWithin
set_option maxRecDepth 20000 in
theorem ggX8_lacks_X8_needItem : GoodIn wsX8_lacks wsX8_needItem := goodIn_ca (goodIn_q _ [6, 12, 16] [1, 7, 8, 9, 10, 11, 13, 14, 15, 5, 17, 18, 95, 96, 97, 98, 99, 100, 101, 102, 103, 104, 105, 106, 107, 108, 109, 110, 111] rfl (by decide +kernel) (by decide +kernel)) (goodIn_sub (fun _ h => List.mem_cons_of_mem _ (List.mem_append_right _ h)) (by decide +kernel))
set_option maxRecDepth 20000 in
theorem gX8_lacks_X8_needItem : GoodIn wsX8_lacks (wsV RX8 86 RX8 yX8_needItem wsX8_needItem) := goodIn_app (goodIn_of _ (by decide +kernel)) ggX8_lacks_X8_needItem
set_option maxRecDepth 20000 in
theorem ggX8_lacks_X8_needSite : GoodIn wsX8_lacks wsX8_needSite := goodIn_ca (goodIn_q _ [22, 28, 16] [1, 23, 24, 25, 26, 27, 29, 14, 15, 5, 17, 18, 95, 96, 97, 98, 99, 100, 101, 102, 103, 104, 105, 106, 112, 113, 114] rfl (by decide +kernel) (by decide +kernel)) (goodIn_sub (fun _ h => List.mem_cons_of_mem _ (List.mem_append_right _ h)) (by decide +kernel))
set_option maxRecDepth 20000 in
theorem gX8_lacks_X8_needSite : GoodIn wsX8_lacks (wsV RX8 58 RX8 yX8_needSite wsX8_needSite) := goodIn_app (goodIn_of _ (by decide +kernel)) ggX8_lacks_X8_needSite
set_option maxRecDepth 20000 in
theorem ggX8_lacks_X6_lackAt : GoodIn wsX8_lacks wsX6_lackAt := goodIn_q _ [34, 40, 45, 48, 52, 60, 65, 75, 85, 92] [35, 36, 37, 38, 39, 41, 42, 43, 44, 46, 47, 5, 49, 50, 51, 33, 53, 54, 55, 56, 57, 58, 59, 61, 62, 63, 64, 66, 67, 68, 69, 70, 71, 72, 73, 74, 76, 77, 78, 79, 80, 81, 82, 83, 84, 86, 87, 88, 89, 90, 91, 93, 94, 98, 99, 100, 101, 102, 103, 104, 105, 106, 115, 116, 117, 118, 119, 120, 121, 122, 123, 124, 125, 126, 127, 128, 129, 130, 131, 132, 133, 134, 135, 136, 137, 138, 139, 140, 141, 142, 143] rfl (by decide +kernel) (by decide +kernel)
set_option maxRecDepth 20000 in
theorem gX8_lacks_X6_lackAt : GoodIn wsX8_lacks (wsV RX8 244 RX6 yX6_lackAt wsX6_lackAt) := goodIn_app (goodIn_of _ (by decide +kernel)) ggX8_lacks_X6_lackAt
set_option maxRecDepth 20000 in
theorem ggX8_spares_X8_needItem : GoodIn wsX8_spares wsX8_needItem := goodIn_ca (goodIn_q _ [6, 12, 16] [1, 7, 8, 9, 10, 11, 13, 14, 15, 5, 17, 18, 111, 112, 113, 114, 115, 116, 117, 118, 119, 120, 121, 122, 123, 124, 125, 126, 127] rfl (by decide +kernel) (by decide +kernel)) (goodIn_sub (fun _ h => List.mem_cons_of_mem _ (List.mem_append_right _ h)) (by decide +kernel))
set_option maxRecDepth 20000 in
theorem gX8_spares_X8_needItem : GoodIn wsX8_spares (wsV RX8 86 RX8 yX8_needItem wsX8_needItem) := goodIn_app (goodIn_of _ (by decide +kernel)) ggX8_spares_X8_needItem
set_option maxRecDepth 20000 in
theorem ggX8_spares_X8_needSite : GoodIn wsX8_spares wsX8_needSite := goodIn_ca (goodIn_q _ [22, 28, 16] [1, 23, 24, 25, 26, 27, 29, 14, 15, 5, 17, 18, 111, 112, 113, 114, 115, 116, 117, 118, 119, 120, 121, 122, 128, 129, 130] rfl (by decide +kernel) (by decide +kernel)) (goodIn_sub (fun _ h => List.mem_cons_of_mem _ (List.mem_append_right _ h)) (by decide +kernel))
set_option maxRecDepth 20000 in
theorem gX8_spares_X8_needSite : GoodIn wsX8_spares (wsV RX8 58 RX8 yX8_needSite wsX8_needSite) := goodIn_app (goodIn_of _ (by decide +kernel)) ggX8_spares_X8_needSite
set_option maxRecDepth 20000 in
theorem ggX8_spares_X6_spareAt : GoodIn wsX8_spares wsX6_spareAt := goodIn_q _ [34, 41, 44, 49, 52, 56, 63, 68, 78, 88, 95, 101, 105, 109] [35, 36, 37, 38, 39, 40, 42, 43, 45, 46, 47, 48, 50, 51, 5, 53, 54, 55, 33, 57, 58, 59, 60, 61, 62, 64, 65, 66, 67, 69, 70, 71, 72, 73, 74, 75, 76, 77, 79, 80, 81, 82, 83, 84, 85, 86, 87, 89, 90, 91, 92, 93, 94, 96, 97, 98, 99, 100, 102, 103, 104, 106, 107, 108, 110, 114, 115, 116, 117, 118, 119, 120, 121, 122, 131, 132, 133, 134, 135, 136, 137, 138, 139, 140, 141, 142, 143, 144, 145, 146, 147, 148, 149, 150, 151, 152, 153, 154, 155, 156, 157, 158, 159] rfl (by decide +kernel) (by decide +kernel)
set_option maxRecDepth 20000 in
theorem gX8_spares_X6_spareAt : GoodIn wsX8_spares (wsV RX8 247 RX6 yX6_spareAt wsX6_spareAt) := goodIn_app (goodIn_of _ (by decide +kernel)) ggX8_spares_X6_spareAt
